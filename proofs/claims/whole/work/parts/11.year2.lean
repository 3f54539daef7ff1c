/-! THE CLASS: longest rest, fullest week; the row of days filled, shifted (printed by wip/whole/p11.py) -/
/-- the most days of rest one behind the other, of the first k; where they begin -/
def zlm (f : Int → Int) : Nat → Int
  | 0 => 0
  | k + 1 => if zlm f k < zra f (k + 1) then zra f (k + 1) else zlm f k
def zlf (f : Int → Int) : Nat → Int
  | 0 => -1
  | k + 1 => if zlm f k < zra f (k + 1) then k - zra f (k + 1) + 1 else zlf f k
theorem zlm_t {f : Int → Int} {d : Int} (h : 0 ≤ d) (hq : zlm f d.toNat < zra f (d + 1).toNat) : zlm f (d + 1).toNat = zra f (d + 1).toNat ∧ zlf f (d + 1).toNat = d - zra f (d + 1).toNat + 1 := by
  rw [show (d + 1).toNat = d.toNat + 1 by omega] at hq ⊢
  refine ⟨if_pos hq, ?_⟩
  have h1 : zlf f (d.toNat + 1) = (d.toNat : Int) - zra f (d.toNat + 1) + 1 := if_pos hq
  rw [h1]
  omega
theorem zlm_f {f : Int → Int} {d : Int} (h : 0 ≤ d) (hq : ¬ zlm f d.toNat < zra f (d + 1).toNat) : zlm f (d + 1).toNat = zlm f d.toNat ∧ zlf f (d + 1).toNat = zlf f d.toNat := by
  rw [show (d + 1).toNat = d.toNat + 1 by omega] at hq ⊢
  exact ⟨if_neg hq, if_neg hq⟩
theorem zlm_r (f : Int → Int) : ∀ k : Nat, 0 ≤ zlm f k ∧ zlm f k ≤ k ∧ -1 ≤ zlf f k ∧ zlf f k < k := by
  intro k
  induction k with
  | zero => exact ⟨Int.le_refl _, Int.le_refl _, Int.le_refl _, by show (-1 : Int) < 0; decide⟩
  | succ k ih =>
    have h1 := zra_r f (k + 1)
    show 0 ≤ (if zlm f k < zra f (k + 1) then zra f (k + 1) else zlm f k) ∧ (if zlm f k < zra f (k + 1) then zra f (k + 1) else zlm f k) ≤ ((k + 1 : Nat) : Int) ∧ -1 ≤ (if zlm f k < zra f (k + 1) then (k : Int) - zra f (k + 1) + 1 else zlf f k) ∧ (if zlm f k < zra f (k + 1) then (k : Int) - zra f (k + 1) + 1 else zlf f k) < ((k + 1 : Nat) : Int)
    split <;> omega
/-- a week's; the first week with most -/
def zwk (f : Int → Int) (v : Int) : Int := zsum (fun k => zpc (f (7 * v + k))) 7
def zfw (c : Int → Int) : Nat → Int
  | 0 => 0
  | k + 1 => if c (zfw c k) < c (k + 1) then k + 1 else zfw c k
theorem zfw_r (c : Int → Int) : ∀ k : Nat, 0 ≤ zfw c k ∧ zfw c k ≤ k := by
  intro k
  induction k with
  | zero => exact ⟨Int.le_refl _, Int.le_refl _⟩
  | succ k ih =>
    show 0 ≤ (if c (zfw c k) < c (k + 1) then (k : Int) + 1 else zfw c k) ∧ (if c (zfw c k) < c (k + 1) then (k : Int) + 1 else zfw c k) ≤ ((k + 1 : Nat) : Int)
    split <;> omega
theorem zfw_t {c : Int → Int} {v : Int} (h : 1 ≤ v) (hq : c (zfw c (v - 1).toNat) < c v) : zfw c v.toNat = v := by
  rw [show v.toNat = (v - 1).toNat + 1 by omega]
  have e : (((v - 1).toNat : Nat) : Int) + 1 = v := by omega
  show (if c (zfw c (v - 1).toNat) < c (((v - 1).toNat : Int) + 1) then (((v - 1).toNat : Nat) : Int) + 1 else zfw c (v - 1).toNat) = v
  rw [e, if_pos hq]
theorem zfw_f {c : Int → Int} {v : Int} (h : 1 ≤ v) (hq : ¬ c (zfw c (v - 1).toNat) < c v) : zfw c v.toNat = zfw c (v - 1).toNat := by
  rw [show v.toNat = (v - 1).toNat + 1 by omega]
  have e : (((v - 1).toNat : Nat) : Int) + 1 = v := by omega
  show (if c (zfw c (v - 1).toNat) < c (((v - 1).toNat : Int) + 1) then (((v - 1).toNat : Nat) : Int) + 1 else zfw c (v - 1).toNat) = _
  rw [e, if_neg hq]
theorem zsum_b {f : Int → Int} {m : Int} : ∀ {n : Nat}, (∀ k : Int, 0 ≤ k → k < n → 0 ≤ f k ∧ f k ≤ m) → 0 ≤ zsum f n ∧ zsum f n ≤ n * m := by
  intro n
  induction n with
  | zero => intro _; exact ⟨Int.le_refl _, by simp [zsum]⟩
  | succ n ih =>
    intro h
    have h1 := ih (fun k h0 h1 => h k h0 (by omega))
    have h2 := h n (by omega) (by omega)
    have e : ((n + 1 : Nat) : Int) * m = (n : Int) * m + m := by rw [Int.natCast_succ, Int.add_mul, Int.one_mul]
    rw [zsum_s, e]
    omega
section
variable {g : zG} {N : Nat} {M : zM}
set_option maxRecDepth 20000 in
set_option maxHeartbeats 2000000 in
theorem kX0_lrT (hS : zSt M) {f : Int → Int} (hC : zCo M f) (h6 : ∀ d : Int, 0 ≤ d → d < 400 → 0 ≤ f d ∧ f d < 64) {d a m r : Int} (k : Nat) (ih : (∀ (d a m r : Int), d + k = 400 → 0 ≤ d → a = zlf f d.toNat → m = zlm f d.toNat → r = zra f d.toNat → zV g xX0_longestRest (zPp (zi (zlf f 400)) 75 M) 9 [zr 52, zi a, zi m, zi r, zi d] [] 75 M 0 0)) (hd0 : 0 ≤ d) (hd1 : d + (k + 1 : Nat) = 400) (h2 : a = zlf f d.toNat) (h3 : m = zlm f d.toNat) (h4 : r = zra f (d + 1).toNat) : zV g xX0_longestRest (zPp (zi (zlf f 400)) 75 M) 35 [zr 52, zi a, zi m, zi r, zi d] [] 75 M 0 0 := by
  have hr := zlm_r f d.toNat
  refine zV_iload_n (pc := 35) (i := 3) dX0_longestRest_35 rfl rfl ?_
  refine zV_iload_n (pc := 36) (i := 2) dX0_longestRest_36 rfl rfl ?_
  refine zV_icmp_le (pc := 37) (tgt := 49) dX0_longestRest_37 (by decide) (by have := zra_r f (d + 1).toNat; omega) (fun c_37 => ?_) (fun c_37 => ?_)
  · refine zV_iinc (pc := 49) dX0_longestRest_49 rfl rfl ?_
    refine zV_goto (pc := 52) (tgt := 9) dX0_longestRest_52 (by decide) ?_
    first
      | (have hq := zlm_t (f := f) (d := d) hd0 (by omega); exact ih (d + 1) _ _ _ (by omega) (by omega) (by rw [hq.2, h4]) (by rw [hq.1, h4]) h4)
      | (have hq := zlm_f (f := f) (d := d) hd0 (by omega); exact ih (d + 1) _ _ _ (by omega) (by omega) (by rw [hq.2, h2]) (by rw [hq.1, h3]) h4)
  · refine zV_iload_n (pc := 40) (i := 3) dX0_longestRest_40 rfl rfl ?_
    refine zV_istore_n (pc := 41) (i := 2) dX0_longestRest_41 rfl rfl ?_
    try dsimp only [List.set_cons_succ, List.set_cons_zero]
    refine zV_iload (pc := 42) dX0_longestRest_42 rfl ?_
    refine zV_iload_n (pc := 44) (i := 3) dX0_longestRest_44 rfl rfl ?_
    refine zV_isub (pc := 45) dX0_longestRest_45 ?_
    refine zV_iconst (pc := 46) dX0_longestRest_46 ?_
    refine zV_iadd (pc := 47) dX0_longestRest_47 ?_
    refine zV_istore_n (pc := 48) (i := 1) dX0_longestRest_48 rfl rfl ?_
    try dsimp only [List.set_cons_succ, List.set_cons_zero]
    refine zV_iinc (pc := 49) dX0_longestRest_49 rfl rfl ?_
    refine zV_goto (pc := 52) (tgt := 9) dX0_longestRest_52 (by decide) ?_
    first
      | (have hq := zlm_t (f := f) (d := d) hd0 (by omega); exact ih (d + 1) _ _ _ (by omega) (by omega) (by rw [hq.2, h4]) (by rw [hq.1, h4]) h4)
      | (have hq := zlm_f (f := f) (d := d) hd0 (by omega); exact ih (d + 1) _ _ _ (by omega) (by omega) (by rw [hq.2, h2]) (by rw [hq.1, h3]) h4)
set_option maxRecDepth 20000 in
set_option maxHeartbeats 2000000 in
theorem kX0_lrL (hS : zSt M) {f : Int → Int} (hC : zCo M f) (h6 : ∀ d : Int, 0 ≤ d → d < 400 → 0 ≤ f d ∧ f d < 64) : ∀ (k : Nat) (d a m r : Int), d + k = 400 → 0 ≤ d → a = zlf f d.toNat → m = zlm f d.toNat → r = zra f d.toNat → zV g xX0_longestRest (zPp (zi (zlf f 400)) 75 M) 9 [zr 52, zi a, zi m, zi r, zi d] [] 75 M 0 0 := by
  intro k
  induction k with
  | zero =>
    intro d a m r h0 h1 h2 h3 h4
    refine zV_iload (pc := 9) dX0_longestRest_9 rfl ?_
    refine zV_sipush (pc := 11) dX0_longestRest_11 (by decide) ?_
    refine zV_icmp_ge (pc := 14) (tgt := 55) dX0_longestRest_14 (by decide) (by omega) (fun c_14 => ?_) (fun c_14 => absurd (by omega) c_14)
    refine zV_iload_n (pc := 55) (i := 1) dX0_longestRest_55 rfl rfl ?_
    refine zV_iret (pc := 56) dX0_longestRest_56 trivial ⟨Nat.zero_le _, Nat.zero_le _⟩ ?_
    rw [show d = 400 by omega] at h2
    exact zPe h2
  | succ k ih =>
    intro d a m r h0 h1 h2 h3 h4
    refine zV_iload (pc := 9) dX0_longestRest_9 rfl ?_
    refine zV_sipush (pc := 11) dX0_longestRest_11 (by decide) ?_
    refine zV_icmp_ge (pc := 14) (tgt := 55) dX0_longestRest_14 (by decide) (by omega) (fun c_14 => absurd c_14 (by omega)) (fun c_14 => ?_)
    refine zV_aload_n (pc := 17) (i := 0) dX0_longestRest_17 rfl rfl ?_
    refine zV_get (pc := 18) (j := 4) dX0_longestRest_18 flX0_25 (zOb_of rfl) rfl hS.e52_4 ?_
    refine zV_iload (pc := 21) dX0_longestRest_21 rfl ?_
    refine zV_iald (pc := 23) dX0_longestRest_23 (zAr_of rfl : zAr 75 57 0 400) (by omega) (hC d (by omega) (by omega)) ?_
    refine zV_if_ne (pc := 24) (tgt := 33) dX0_longestRest_24 (by decide) (by have := h6 d (by omega) (by omega); omega) (fun c_24 => ?_) (fun c_24 => ?_)
    · refine zV_iconst (pc := 33) dX0_longestRest_33 ?_
      refine zV_istore_n (pc := 34) (i := 3) dX0_longestRest_34 rfl rfl ?_
      first
        | exact kX0_lrT hS hC h6 k ih h1 h0 h2 h3 (by rw [zra_1 (by omega) c_24])
        | exact kX0_lrT hS hC h6 k ih h1 h0 h2 h3 (by rw [zra_0 (by omega) c_24, h4])
    · refine zV_iload_n (pc := 27) (i := 3) dX0_longestRest_27 rfl rfl ?_
      refine zV_iconst (pc := 28) dX0_longestRest_28 ?_
      refine zV_iadd (pc := 29) dX0_longestRest_29 ?_
      refine zV_goto (pc := 30) (tgt := 34) dX0_longestRest_30 (by decide) ?_
      refine zV_istore_n (pc := 34) (i := 3) dX0_longestRest_34 rfl rfl ?_
      first
        | exact kX0_lrT hS hC h6 k ih h1 h0 h2 h3 (by rw [zra_1 (by omega) c_24])
        | exact kX0_lrT hS hC h6 k ih h1 h0 h2 h3 (by rw [zra_0 (by omega) c_24, h4])
set_option maxRecDepth 20000 in
set_option maxHeartbeats 2000000 in
theorem kX0_longestRest (hS : zSt M) {f : Int → Int} (hC : zCo M f) (h6 : ∀ d : Int, 0 ≤ d → d < 400 → 0 ≤ f d ∧ f d < 64) : zK g yX0_longestRest xX0_longestRest [zr 52] 75 M (zPp (zi (zlf f 400)) 75 M) := by
  refine zK_of (ls0 := [zr 52, (3, 0), (3, 0), (3, 0), (3, 0)]) (by decide) rfl (by decide) rfl (Nat.le_of_ble_eq_true rfl) ?_
  refine zV_iconst (pc := 0) dX0_longestRest_0 ?_
  refine zV_istore_n (pc := 1) (i := 1) dX0_longestRest_1 rfl rfl ?_
  try dsimp only [List.set_cons_succ, List.set_cons_zero]
  refine zV_iconst (pc := 2) dX0_longestRest_2 ?_
  refine zV_istore_n (pc := 3) (i := 2) dX0_longestRest_3 rfl rfl ?_
  try dsimp only [List.set_cons_succ, List.set_cons_zero]
  refine zV_iconst (pc := 4) dX0_longestRest_4 ?_
  refine zV_istore_n (pc := 5) (i := 3) dX0_longestRest_5 rfl rfl ?_
  try dsimp only [List.set_cons_succ, List.set_cons_zero]
  refine zV_iconst (pc := 6) dX0_longestRest_6 ?_
  refine zV_istore (pc := 7) dX0_longestRest_7 rfl ?_
  try dsimp only [List.set_cons_succ, List.set_cons_zero]
  exact kX0_lrL hS hC h6 400 0 (-1) 0 0 (by omega) (by omega) rfl rfl rfl
set_option maxRecDepth 20000 in
set_option maxHeartbeats 2000000 in
theorem kX0_cwkL (hS : zSt M) {f : Int → Int} (hC : zCo M f) (h6 : ∀ d : Int, 0 ≤ d → d < 400 → 0 ≤ f d ∧ f d < 64) {v : Int} (hv : 0 ≤ v ∧ v ≤ 56) : ∀ (k : Nat) (d n : Int), d + k = 7 * v + 7 → 7 * v ≤ d → d ≤ 7 * v + 7 → n = zsum (fun k => zpc (f (7 * v + k))) (d - 7 * v).toNat → zV g xX0_comersInWeek (zPp (zi (zwk f v)) 75 M) 7 [zr 52, zi v, zi n, zi d] [] 75 M 0 0 := by
  intro k
  induction k with
  | zero =>
    intro d n h0 h1 h2 h3
    refine zV_iload_n (pc := 7) (i := 3) dX0_comersInWeek_7 rfl rfl ?_
    refine zV_bipush (pc := 8) dX0_comersInWeek_8 (by decide) ?_
    refine zV_iload_n (pc := 10) (i := 1) dX0_comersInWeek_10 rfl rfl ?_
    refine zV_imul (pc := 11) dX0_comersInWeek_11 ?_
    refine zV_bipush (pc := 12) dX0_comersInWeek_12 (by decide) ?_
    refine zV_iadd (pc := 14) dX0_comersInWeek_14 ?_
    refine zV_icmp_ge (pc := 15) (tgt := 47) dX0_comersInWeek_15 (by decide) (by omega) (fun c_15 => ?_) (fun c_15 => absurd (by omega) c_15)
    refine zV_iload_n (pc := 47) (i := 2) dX0_comersInWeek_47 rfl rfl ?_
    refine zV_iret (pc := 48) dX0_comersInWeek_48 trivial ⟨Nat.zero_le _, Nat.zero_le _⟩ ?_
    rw [show d - 7 * v = 7 by omega] at h3
    exact zPe h3
  | succ k ih =>
    intro d n h0 h1 h2 h3
    refine zV_iload_n (pc := 7) (i := 3) dX0_comersInWeek_7 rfl rfl ?_
    refine zV_bipush (pc := 8) dX0_comersInWeek_8 (by decide) ?_
    refine zV_iload_n (pc := 10) (i := 1) dX0_comersInWeek_10 rfl rfl ?_
    refine zV_imul (pc := 11) dX0_comersInWeek_11 ?_
    refine zV_bipush (pc := 12) dX0_comersInWeek_12 (by decide) ?_
    refine zV_iadd (pc := 14) dX0_comersInWeek_14 ?_
    refine zV_icmp_ge (pc := 15) (tgt := 47) dX0_comersInWeek_15 (by decide) (by omega) (fun c_15 => absurd c_15 (by omega)) (fun c_15 => ?_)
    refine zV_iload_n (pc := 18) (i := 2) dX0_comersInWeek_18 rfl rfl ?_
    refine zV_iload_n (pc := 19) (i := 3) dX0_comersInWeek_19 rfl rfl ?_
    refine zV_isNp (pc := 20) dX0_comersInWeek_20 klX0_62 mX9_isDay rfl ⟨Nat.zero_le _, Nat.zero_le _⟩ (kX9_isDay (by omega)) rfl rfl (Nat.le_of_ble_eq_true rfl) ?_
    refine zV_if_eqb (pc := 23) (tgt := 38) dX0_comersInWeek_23 (by decide) (fun c_23 => absurd c_23 (fun q => q ⟨by omega, by omega⟩)) (fun c_23 => ?_)
    refine zV_aload_n (pc := 26) (i := 0) dX0_comersInWeek_26 rfl rfl ?_
    refine zV_get (pc := 27) (j := 4) dX0_comersInWeek_27 flX0_25 (zOb_of rfl) rfl hS.e52_4 ?_
    refine zV_iload_n (pc := 30) (i := 3) dX0_comersInWeek_30 rfl rfl ?_
    refine zV_iald (pc := 31) dX0_comersInWeek_31 (zAr_of rfl : zAr 75 57 0 400) (by omega) (hC d (by omega) (by omega)) ?_
    refine zV_isp (pc := 32) dX0_comersInWeek_32 klX0_65 mJ6_bitCount_0f7a4 rfl ⟨Nat.zero_le _, Nat.zero_le _⟩ (kJ6_bitCount (h6 d (by omega) (by omega))) rfl rfl (Nat.le_of_ble_eq_true rfl) ?_
    refine zV_goto (pc := 35) (tgt := 39) dX0_comersInWeek_35 (by decide) ?_
    refine zV_iadd (pc := 39) dX0_comersInWeek_39 ?_
    refine zV_istore_n (pc := 40) (i := 2) dX0_comersInWeek_40 rfl rfl ?_
    try dsimp only [List.set_cons_succ, List.set_cons_zero]
    refine zV_iinc (pc := 41) dX0_comersInWeek_41 rfl rfl ?_
    refine zV_goto (pc := 44) (tgt := 7) dX0_comersInWeek_44 (by decide) ?_
    refine ih (d + 1) _ (by omega) (by omega) (by omega) ?_
    rw [h3, show d + 1 - 7 * v = (d - 7 * v) + 1 by omega, zsum_n (by omega), show 7 * v + (d - 7 * v) = d by omega]
set_option maxRecDepth 20000 in
set_option maxHeartbeats 2000000 in
theorem kX0_comersInWeek (hS : zSt M) {f : Int → Int} (hC : zCo M f) (h6 : ∀ d : Int, 0 ≤ d → d < 400 → 0 ≤ f d ∧ f d < 64) {v : Int} (hv : 0 ≤ v ∧ v ≤ 56) : zK g yX0_comersInWeek xX0_comersInWeek [zr 52, zi v] 75 M (zPp (zi (zwk f v)) 75 M) := by
  refine zK_of (ls0 := [zr 52, zi v, (3, 0), (3, 0)]) (by decide) rfl (by decide) rfl (Nat.le_of_ble_eq_true rfl) ?_
  refine zV_iconst (pc := 0) dX0_comersInWeek_0 ?_
  refine zV_istore_n (pc := 1) (i := 2) dX0_comersInWeek_1 rfl rfl ?_
  try dsimp only [List.set_cons_succ, List.set_cons_zero]
  refine zV_bipush (pc := 2) dX0_comersInWeek_2 (by decide) ?_
  refine zV_iload_n (pc := 4) (i := 1) dX0_comersInWeek_4 rfl rfl ?_
  refine zV_imul (pc := 5) dX0_comersInWeek_5 ?_
  refine zV_istore_n (pc := 6) (i := 3) dX0_comersInWeek_6 rfl rfl ?_
  try dsimp only [List.set_cons_succ, List.set_cons_zero]
  exact kX0_cwkL hS hC h6 hv 7 (7 * v) 0 (by omega) (by omega) (by omega) (by rw [Int.sub_self]; rfl)
theorem zwk_r {f : Int → Int} {v : Int} (hv : 0 ≤ v ∧ v ≤ 56) (h6 : ∀ d : Int, 0 ≤ d → d < 400 → 0 ≤ f d ∧ f d < 64) : 0 ≤ zwk f v ∧ zwk f v ≤ 42 := by
  have h := zsum_b (f := fun k => zpc (f (7 * v + k))) (m := 6) (n := 7) (fun k h0 h1 => zpc_r _ (h6 _ (by omega) (by omega)))
  unfold zwk
  omega
set_option maxRecDepth 20000 in
set_option maxHeartbeats 2000000 in
theorem kX0_fwL (hS : zSt M) {f : Int → Int} (hC : zCo M f) (h6 : ∀ d : Int, 0 ≤ d → d < 400 → 0 ≤ f d ∧ f d < 64) : ∀ (k : Nat) (v a : Int), v + k = 57 → 1 ≤ v → a = zfw (zwk f) (v - 1).toNat → zV g xX0_fullestWeek (zPp (zi (zfw (zwk f) 56)) 75 M) 4 [zr 52, zi a, zi v] [] 75 M 0 0 := by
  intro k
  induction k with
  | zero =>
    intro v a h0 h1 h2
    have hr := zfw_r (zwk f) (v - 1).toNat
    refine zV_iload_n (pc := 4) (i := 2) dX0_fullestWeek_4 rfl rfl ?_
    refine zV_bipush (pc := 5) dX0_fullestWeek_5 (by decide) ?_
    refine zV_icmp_ge (pc := 7) (tgt := 31) dX0_fullestWeek_7 (by decide) (by omega) (fun c_7 => ?_) (fun c_7 => absurd (by omega) c_7)
    refine zV_iload_n (pc := 31) (i := 1) dX0_fullestWeek_31 rfl rfl ?_
    refine zV_iret (pc := 32) dX0_fullestWeek_32 trivial ⟨Nat.zero_le _, Nat.zero_le _⟩ ?_
    rw [show v - 1 = 56 by omega] at h2
    exact zPe h2
  | succ k ih =>
    intro v a h0 h1 h2
    have hr := zfw_r (zwk f) (v - 1).toNat
    refine zV_iload_n (pc := 4) (i := 2) dX0_fullestWeek_4 rfl rfl ?_
    refine zV_bipush (pc := 5) dX0_fullestWeek_5 (by decide) ?_
    refine zV_icmp_ge (pc := 7) (tgt := 31) dX0_fullestWeek_7 (by decide) (by omega) (fun c_7 => absurd c_7 (by omega)) (fun c_7 => ?_)
    refine zV_aload_n (pc := 10) (i := 0) dX0_fullestWeek_10 rfl rfl ?_
    refine zV_iload_n (pc := 11) (i := 2) dX0_fullestWeek_11 rfl rfl ?_
    refine zV_ivp (pc := 12) (ci := 0) dX0_fullestWeek_12 klX0_106 mX0_comersInWeek ⟨by decide, rfl⟩ rfl ⟨Nat.zero_le _, Nat.zero_le _⟩ (kX0_comersInWeek hS hC h6 (by omega)) (zOb_of rfl) rfl rfl (Nat.le_of_ble_eq_true rfl) ?_
    refine zV_aload_n (pc := 15) (i := 0) dX0_fullestWeek_15 rfl rfl ?_
    refine zV_iload_n (pc := 16) (i := 1) dX0_fullestWeek_16 rfl rfl ?_
    refine zV_ivp (pc := 17) (ci := 0) dX0_fullestWeek_17 klX0_106 mX0_comersInWeek ⟨by decide, rfl⟩ rfl ⟨Nat.zero_le _, Nat.zero_le _⟩ (kX0_comersInWeek hS hC h6 (by omega)) (zOb_of rfl) rfl rfl (Nat.le_of_ble_eq_true rfl) ?_
    refine zV_icmp_le (pc := 20) (tgt := 25) dX0_fullestWeek_20 (by decide) (by have := zwk_r (v := v) (by omega) h6; have := zwk_r (v := a) (by omega) h6; omega) (fun c_20 => ?_) (fun c_20 => ?_)
    · refine zV_iinc (pc := 25) dX0_fullestWeek_25 rfl rfl ?_
      refine zV_goto (pc := 28) (tgt := 4) dX0_fullestWeek_28 (by decide) ?_
      first
        | exact ih (v + 1) _ (by omega) (by omega) (by rw [show v + 1 - 1 = v by omega, zfw_t (by omega) (by rw [← h2]; omega)])
        | exact ih (v + 1) _ (by omega) (by omega) (by rw [show v + 1 - 1 = v by omega, zfw_f (by omega) (by rw [← h2]; omega), h2])
    · refine zV_iload_n (pc := 23) (i := 2) dX0_fullestWeek_23 rfl rfl ?_
      refine zV_istore_n (pc := 24) (i := 1) dX0_fullestWeek_24 rfl rfl ?_
      try dsimp only [List.set_cons_succ, List.set_cons_zero]
      refine zV_iinc (pc := 25) dX0_fullestWeek_25 rfl rfl ?_
      refine zV_goto (pc := 28) (tgt := 4) dX0_fullestWeek_28 (by decide) ?_
      first
        | exact ih (v + 1) _ (by omega) (by omega) (by rw [show v + 1 - 1 = v by omega, zfw_t (by omega) (by rw [← h2]; omega)])
        | exact ih (v + 1) _ (by omega) (by omega) (by rw [show v + 1 - 1 = v by omega, zfw_f (by omega) (by rw [← h2]; omega), h2])
set_option maxRecDepth 20000 in
set_option maxHeartbeats 2000000 in
theorem kX0_fullestWeek (hS : zSt M) {f : Int → Int} (hC : zCo M f) (h6 : ∀ d : Int, 0 ≤ d → d < 400 → 0 ≤ f d ∧ f d < 64) : zK g yX0_fullestWeek xX0_fullestWeek [zr 52] 75 M (zPp (zi (zfw (zwk f) 56)) 75 M) := by
  refine zK_of (ls0 := [zr 52, (3, 0), (3, 0)]) (by decide) rfl (by decide) rfl (Nat.le_of_ble_eq_true rfl) ?_
  refine zV_iconst (pc := 0) dX0_fullestWeek_0 ?_
  refine zV_istore_n (pc := 1) (i := 1) dX0_fullestWeek_1 rfl rfl ?_
  try dsimp only [List.set_cons_succ, List.set_cons_zero]
  refine zV_iconst (pc := 2) dX0_fullestWeek_2 ?_
  refine zV_istore_n (pc := 3) (i := 2) dX0_fullestWeek_3 rfl rfl ?_
  try dsimp only [List.set_cons_succ, List.set_cons_zero]
  exact kX0_fwL hS hC h6 56 1 0 (by omega) (by omega) rfl
end
