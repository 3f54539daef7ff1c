/-! THE CLASS: the things together, the year without its costs (printed by wip/whole/p10.py) -/
noncomputable def zso (q : Int → Prop) : Nat → Int
  | 0 => 0
  | k + 1 => zso q k + zb (q k) * 2 ^ k
theorem zso_r (q : Int → Prop) : ∀ k : Nat, 0 ≤ zso q k ∧ zso q k < 2 ^ k := by
  intro k
  induction k with
  | zero => exact ⟨Int.le_refl _, by show (0 : Int) < 2 ^ 0; decide⟩
  | succ k ih =>
    have h1 : (0 : Int) < 2 ^ k := Int.pow_pos (by decide)
    show 0 ≤ zso q k + zb (q k) * 2 ^ k ∧ zso q k + zb (q k) * 2 ^ k < 2 ^ (k + 1)
    rw [Int.pow_succ]
    rcases zb_01 (q k) with h | h <;> rw [h] <;> omega
theorem zso_t {q : Int → Prop} {i : Int} (h : 0 ≤ i) (hq : q i) : zso q (i + 1).toNat = zso q i.toNat + 2 ^ i.toNat := by
  rw [show (i + 1).toNat = i.toNat + 1 by omega]
  show zso q i.toNat + zb (q (i.toNat : Int)) * 2 ^ i.toNat = _
  rw [Int.toNat_of_nonneg h, zb_t hq, Int.one_mul]
theorem zso_f {q : Int → Prop} {i : Int} (h : 0 ≤ i) (hq : ¬ q i) : zso q (i + 1).toNat = zso q i.toNat := by
  rw [show (i + 1).toNat = i.toNat + 1 by omega]
  show zso q i.toNat + zb (q (i.toNat : Int)) * 2 ^ i.toNat = _
  rw [Int.toNat_of_nonneg h, zb_f hq, Int.zero_mul, Int.add_zero]
theorem zso_c {q q' : Int → Prop} : ∀ {n : Nat}, (∀ i : Int, 0 ≤ i → i < n → (q i ↔ q' i)) → zso q n = zso q' n := by
  intro n
  induction n with
  | zero => intro _; rfl
  | succ n ih =>
    intro h
    show zso q n + zb (q n) * 2 ^ n = zso q' n + zb (q' n) * 2 ^ n
    rw [ih (fun i h0 h1 => h i h0 (by omega)), zb_c (h n (by omega) (by omega))]
theorem zsum_n {f : Int → Int} {i : Int} (h : 0 ≤ i) : zsum f (i + 1).toNat = zsum f i.toNat + f i := by
  rw [show (i + 1).toNat = i.toNat + 1 by omega, zsum_s, Int.toNat_of_nonneg h]
/-- a thing's four numbers are such as they may be -/
def zTh (M : zM) (a : Int) : Prop := (0 ≤ M a 0 ∧ M a 0 ≤ 5) ∧ (0 ≤ M a 1 ∧ M a 1 ≤ 9) ∧ (1 ≤ M a 2 ∧ M a 2 ≤ 60) ∧ (0 ≤ M a 3 ∧ M a 3 ≤ 59)
/-- n things of the class -/
def zWf (M : zM) : Prop := (0 ≤ M 1 1 ∧ M 1 1 ≤ 6) ∧ ∀ i : Int, 0 ≤ i → i < M 1 1 → zTh M (3 + i)
/-- the things, by number and fact: the class's, the model's -/
def zTc (M : zM) : Int → Int → Int := fun i f => M (3 + i) f
def zct (T : Int → Int → Int) (h d i : Int) : Prop := zcm (T i 0) (T i 1) (T i 2) (T i 3) h d
section
variable {g : zG} {N : Nat} {M : zM}
set_option maxRecDepth 20000 in
set_option maxHeartbeats 2000000 in
theorem kX5_has (hS : zSt M) (hn : 0 ≤ M 1 1 ∧ M 1 1 ≤ 6) {i : Int} (hi : -2147483648 ≤ i ∧ i ≤ 2147483647) : zK g yX5_has xX5_has [zr 1, zi i] 75 M (zPp (zi (zb (0 ≤ i ∧ i < M 1 1))) 75 M) := by
  refine zK_of (by decide) rfl (by decide) rfl (Nat.le_of_ble_eq_true rfl) ?_
  refine zV_iload_n (pc := 0) (i := 1) dX5_has_0 rfl rfl ?_
  refine zV_if_lt (pc := 1) (tgt := 25) dX5_has_1 (by decide) (by omega) (fun c_1 => ?_) (fun c_1 => ?_)
  · refine zV_iconst (pc := 25) dX5_has_25 ?_
    refine zV_iret (pc := 26) dX5_has_26 (by first | exact zok_b1 | exact zok_b0 | exact zok_b) ⟨Nat.zero_le _, Nat.zero_le _⟩ ?_
    first
      | (exfalso; omega)
      | exact zPt (by omega)
      | exact zPf (by omega)
  · refine zV_iload_n (pc := 4) (i := 1) dX5_has_4 rfl rfl ?_
    refine zV_aload_n (pc := 5) (i := 0) dX5_has_5 rfl rfl ?_
    refine zV_get (pc := 6) (j := 1) dX5_has_6 flX5_18 (zOb_of rfl) rfl rfl ?_
    refine zV_icmp_ge (pc := 9) (tgt := 25) dX5_has_9 (by decide) (by omega) (fun c_9 => ?_) (fun c_9 => ?_)
    · refine zV_iconst (pc := 25) dX5_has_25 ?_
      refine zV_iret (pc := 26) dX5_has_26 (by first | exact zok_b1 | exact zok_b0 | exact zok_b) ⟨Nat.zero_le _, Nat.zero_le _⟩ ?_
      first
        | (exfalso; omega)
        | exact zPt (by omega)
        | exact zPf (by omega)
    · refine zV_iload_n (pc := 12) (i := 1) dX5_has_12 rfl rfl ?_
      refine zV_aload_n (pc := 13) (i := 0) dX5_has_13 rfl rfl ?_
      refine zV_get (pc := 14) (j := 0) dX5_has_14 flX5_11 (zOb_of rfl) rfl hS.e1_0 ?_
      refine zV_alen (pc := 17) dX5_has_17 (zAr_of rfl : zAr 75 2 2 6) ?_
      refine zV_icmp_ge (pc := 18) (tgt := 25) dX5_has_18 (by decide) (by omega) (fun c_18 => ?_) (fun c_18 => ?_)
      · refine zV_iconst (pc := 25) dX5_has_25 ?_
        refine zV_iret (pc := 26) dX5_has_26 (by first | exact zok_b1 | exact zok_b0 | exact zok_b) ⟨Nat.zero_le _, Nat.zero_le _⟩ ?_
        first
          | (exfalso; omega)
          | exact zPt (by omega)
          | exact zPf (by omega)
      · refine zV_iconst (pc := 21) dX5_has_21 ?_
        refine zV_goto (pc := 22) (tgt := 26) dX5_has_22 (by decide) ?_
        refine zV_iret (pc := 26) dX5_has_26 (by first | exact zok_b1 | exact zok_b0 | exact zok_b) ⟨Nat.zero_le _, Nat.zero_le _⟩ ?_
        first
          | (exfalso; omega)
          | exact zPt (by omega)
          | exact zPf (by omega)
set_option maxRecDepth 20000 in
set_option maxHeartbeats 2000000 in
theorem kX5_hasAll (hS : zSt M) (hn : 0 ≤ M 1 1 ∧ M 1 1 ≤ 6) {s : Int} (hs : -2147483648 ≤ s ∧ s ≤ 2147483647) : zK g yX5_hasAll xX5_hasAll [zr 1, zi s] 75 M (zPp (zi (zb (0 ≤ s ∧ s / 2 ^ (M 1 1).toNat = 0))) 75 M) := by
  refine zK_of (by decide) rfl (by decide) rfl (Nat.le_of_ble_eq_true rfl) ?_
  refine zV_iload_n (pc := 0) (i := 1) dX5_hasAll_0 rfl rfl ?_
  refine zV_if_lt (pc := 1) (tgt := 17) dX5_hasAll_1 (by decide) (by omega) (fun c_1 => ?_) (fun c_1 => ?_)
  · refine zV_iconst (pc := 17) dX5_hasAll_17 ?_
    refine zV_iret (pc := 18) dX5_hasAll_18 (by first | exact zok_b1 | exact zok_b0 | exact zok_b) ⟨Nat.zero_le _, Nat.zero_le _⟩ ?_
    first
      | (exfalso; omega)
      | exact zPt (by omega)
      | exact zPf (by omega)
  · refine zV_iload_n (pc := 4) (i := 1) dX5_hasAll_4 rfl rfl ?_
    refine zV_aload_n (pc := 5) (i := 0) dX5_hasAll_5 rfl rfl ?_
    refine zV_get (pc := 6) (j := 1) dX5_hasAll_6 flX5_18 (zOb_of rfl) rfl rfl ?_
    refine zV_ishr (pc := 9) dX5_hasAll_9 (z_shr hs (by omega) rfl) ?_
    refine zV_if_ne (pc := 10) (tgt := 17) dX5_hasAll_10 (by decide) (by have h1 : (1 : Int) ≤ 2 ^ (M 1 1).toNat := Int.pow_pos (by decide); have h2 := Int.ediv_le_self (b := 2 ^ (M 1 1).toNat) (show 0 ≤ s by omega); have h3 := Int.ediv_nonneg (show 0 ≤ s by omega) (show 0 ≤ 2 ^ (M 1 1).toNat by omega); omega) (fun c_10 => ?_) (fun c_10 => ?_)
    · refine zV_iconst (pc := 17) dX5_hasAll_17 ?_
      refine zV_iret (pc := 18) dX5_hasAll_18 (by first | exact zok_b1 | exact zok_b0 | exact zok_b) ⟨Nat.zero_le _, Nat.zero_le _⟩ ?_
      first
        | (exfalso; omega)
        | exact zPt (by omega)
        | exact zPf (by omega)
    · refine zV_iconst (pc := 13) dX5_hasAll_13 ?_
      refine zV_goto (pc := 14) (tgt := 18) dX5_hasAll_14 (by decide) ?_
      refine zV_iret (pc := 18) dX5_hasAll_18 (by first | exact zok_b1 | exact zok_b0 | exact zok_b) ⟨Nat.zero_le _, Nat.zero_le _⟩ ?_
      first
        | (exfalso; omega)
        | exact zPt (by omega)
        | exact zPf (by omega)
set_option maxRecDepth 20000 in
set_option maxHeartbeats 2000000 in
theorem kX5_comersL (hS : zSt M) (hW : zWf M) {d h : Int} (hd : 0 ≤ d ∧ d ≤ 900) (hh : 0 ≤ h ∧ h ≤ 127) : ∀ (k : Nat) (i acc : Int), i + k = 6 → 0 ≤ i → acc = zso (zct (zTc M) h d) (min i (M 1 1)).toNat → zV g xX5_comers (zPp (zi (zso (zct (zTc M) h d) (M 1 1).toNat)) 75 M) 5 [zr 1, zi d, zi h, zi acc, zi i] [] 75 M 0 0 := by
  intro k
  induction k with
  | zero =>
    intro i acc h0 h1 h2
    have hn := hW.1
    refine zV_iload (pc := 5) dX5_comers_5 rfl ?_
    refine zV_aload_n (pc := 7) (i := 0) dX5_comers_7 rfl rfl ?_
    refine zV_get (pc := 8) (j := 0) dX5_comers_8 flX5_11 (zOb_of rfl) rfl hS.e1_0 ?_
    refine zV_alen (pc := 11) dX5_comers_11 (zAr_of rfl : zAr 75 2 2 6) ?_
    refine zV_icmp_ge (pc := 12) (tgt := 52) dX5_comers_12 (by decide) (by omega) (fun c_12 => ?_) (fun c_12 => absurd (by omega) c_12)
    refine zV_iload_n (pc := 52) (i := 3) dX5_comers_52 rfl rfl ?_
    refine zV_iret (pc := 53) dX5_comers_53 trivial ⟨Nat.zero_le _, Nat.zero_le _⟩ ?_
    rw [show min i (M 1 1) = M 1 1 by omega] at h2
    exact zPe h2
  | succ k ih =>
    intro i acc h0 h1 h2
    have hn := hW.1
    refine zV_iload (pc := 5) dX5_comers_5 rfl ?_
    refine zV_aload_n (pc := 7) (i := 0) dX5_comers_7 rfl rfl ?_
    refine zV_get (pc := 8) (j := 0) dX5_comers_8 flX5_11 (zOb_of rfl) rfl hS.e1_0 ?_
    refine zV_alen (pc := 11) dX5_comers_11 (zAr_of rfl : zAr 75 2 2 6) ?_
    refine zV_icmp_ge (pc := 12) (tgt := 52) dX5_comers_12 (by decide) (by omega) (fun c_12 => absurd c_12 (by omega)) (fun c_12 => ?_)
    refine zV_aload_n (pc := 15) (i := 0) dX5_comers_15 rfl rfl ?_
    refine zV_iload (pc := 16) dX5_comers_16 rfl ?_
    refine zV_ivp (pc := 18) (ci := 5) dX5_comers_18 klX5_44 mX5_has ⟨by decide, rfl⟩ rfl ⟨Nat.zero_le _, Nat.zero_le _⟩ (kX5_has hS hn (by omega)) (zOb_of rfl) rfl rfl (Nat.le_of_ble_eq_true rfl) ?_
    refine zV_if_eqb (pc := 21) (tgt := 46) dX5_comers_21 (by decide) (fun c_21 => ?_) (fun c_21 => ?_)
    · refine zV_iinc (pc := 46) dX5_comers_46 rfl rfl ?_
      refine zV_goto (pc := 49) (tgt := 5) dX5_comers_49 (by decide) ?_
      first
        | exact ih (i + 1) _ (by omega) (by omega) (by rw [h2, show min (i + 1) (M 1 1) = i + 1 by omega]; exact (zso_t (q := zct (zTc M) h d) (by omega) c_36).symm)
        | exact ih (i + 1) _ (by omega) (by omega) (by rw [h2, show min (i + 1) (M 1 1) = i + 1 by omega]; exact (zso_f (q := zct (zTc M) h d) (by omega) c_36).symm)
        | exact ih (i + 1) _ (by omega) (by omega) (by rw [h2, show min (i + 1) (M 1 1) = min i (M 1 1) by omega])
    · rw [show min i (M 1 1) = i by omega] at h2
      refine zV_aload_n (pc := 24) (i := 0) dX5_comers_24 rfl rfl ?_
      refine zV_get (pc := 25) (j := 0) dX5_comers_25 flX5_11 (zOb_of rfl) rfl hS.e1_0 ?_
      refine zV_iload (pc := 28) dX5_comers_28 rfl ?_
      refine zV_aald (pc := 30) dX5_comers_30 (zAr_of rfl : zAr 75 2 2 6) ⟨rfl, rfl⟩ (by omega) (hS.th (by omega)) ?_
      refine zV_iload_n (pc := 31) (i := 1) dX5_comers_31 rfl rfl ?_
      refine zV_iload_n (pc := 32) (i := 2) dX5_comers_32 rfl rfl ?_
      refine zV_ivp (pc := 33) (ci := 8) dX5_comers_33 klX5_48 mX8_comes ⟨by decide, rfl⟩ rfl ⟨Nat.zero_le _, Nat.zero_le _⟩ (kX8_comes (zOb_th (by omega)) (hW.2 i (by omega) (by omega)).1 (hW.2 i (by omega) (by omega)).2.1 (hW.2 i (by omega) (by omega)).2.2.1 (hW.2 i (by omega) (by omega)).2.2.2 hd hh) (zOb_th (by omega)) rfl rfl (Nat.le_of_ble_eq_true rfl) ?_
      refine zV_if_eqb (pc := 36) (tgt := 46) dX5_comers_36 (by decide) (fun c_36 => ?_) (fun c_36 => ?_)
      · refine zV_iinc (pc := 46) dX5_comers_46 rfl rfl ?_
        refine zV_goto (pc := 49) (tgt := 5) dX5_comers_49 (by decide) ?_
        first
          | exact ih (i + 1) _ (by omega) (by omega) (by rw [h2, show min (i + 1) (M 1 1) = i + 1 by omega]; exact (zso_t (q := zct (zTc M) h d) (by omega) c_36).symm)
          | exact ih (i + 1) _ (by omega) (by omega) (by rw [h2, show min (i + 1) (M 1 1) = i + 1 by omega]; exact (zso_f (q := zct (zTc M) h d) (by omega) c_36).symm)
          | exact ih (i + 1) _ (by omega) (by omega) (by rw [h2, show min (i + 1) (M 1 1) = min i (M 1 1) by omega])
      · refine zV_iload_n (pc := 39) (i := 3) dX5_comers_39 rfl rfl ?_
        refine zV_iconst (pc := 40) dX5_comers_40 ?_
        refine zV_iload (pc := 41) dX5_comers_41 rfl ?_
        refine zV_ishl (pc := 43) dX5_comers_43 (z_shl (n := i.toNat) (by omega) (by omega)) ?_
        refine zV_ior (pc := 44) dX5_comers_44 (z_or2 (by rw [h2]; exact zso_r _ _)) ?_
        refine zV_istore_n (pc := 45) (i := 3) dX5_comers_45 rfl rfl ?_
        try dsimp only [List.set_cons_succ, List.set_cons_zero]
        refine zV_iinc (pc := 46) dX5_comers_46 rfl rfl ?_
        refine zV_goto (pc := 49) (tgt := 5) dX5_comers_49 (by decide) ?_
        first
          | exact ih (i + 1) _ (by omega) (by omega) (by rw [h2, show min (i + 1) (M 1 1) = i + 1 by omega]; exact (zso_t (q := zct (zTc M) h d) (by omega) c_36).symm)
          | exact ih (i + 1) _ (by omega) (by omega) (by rw [h2, show min (i + 1) (M 1 1) = i + 1 by omega]; exact (zso_f (q := zct (zTc M) h d) (by omega) c_36).symm)
          | exact ih (i + 1) _ (by omega) (by omega) (by rw [h2, show min (i + 1) (M 1 1) = min i (M 1 1) by omega])
set_option maxRecDepth 20000 in
set_option maxHeartbeats 2000000 in
theorem kX5_comers (hS : zSt M) (hW : zWf M) {d h : Int} (hd : 0 ≤ d ∧ d ≤ 900) (hh : 0 ≤ h ∧ h ≤ 127) : zK g yX5_comers xX5_comers [zr 1, zi d, zi h] 75 M (zPp (zi (zso (zct (zTc M) h d) (M 1 1).toNat)) 75 M) := by
  refine zK_of (by decide) rfl (by decide) rfl (Nat.le_of_ble_eq_true rfl) ?_
  have hn := hW.1
  refine zV_iconst (pc := 0) dX5_comers_0 ?_
  refine zV_istore_n (pc := 1) (i := 3) dX5_comers_1 rfl rfl ?_
  try dsimp only [List.set_cons_succ, List.set_cons_zero]
  refine zV_iconst (pc := 2) dX5_comers_2 ?_
  refine zV_istore (pc := 3) dX5_comers_3 rfl ?_
  try dsimp only [List.set_cons_succ, List.set_cons_zero]
  exact kX5_comersL hS hW hd hh 6 0 0 (by omega) (by omega) (by rw [show min 0 (M 1 1) = 0 by omega]; rfl)
/-- the class's row of comers holds q, on all days -/
def zCo (M : zM) (f : Int → Int) : Prop := ∀ d : Int, 0 ≤ d → d < 400 → M 57 d = f d
/-- how many days directly ahead of d have f 0 -/
def zra (f : Int → Int) : Nat → Int
  | 0 => 0
  | k + 1 => if f k = 0 then zra f k + 1 else 0
theorem zra_r (f : Int → Int) : ∀ k : Nat, 0 ≤ zra f k ∧ zra f k ≤ k := by
  intro k
  induction k with
  | zero => exact ⟨Int.le_refl _, Int.le_refl _⟩
  | succ k ih =>
    show 0 ≤ (if f k = 0 then zra f k + 1 else 0) ∧ (if f k = 0 then zra f k + 1 else 0) ≤ ((k + 1 : Nat) : Int)
    split <;> omega
theorem zra_0 {f : Int → Int} {d : Int} (h : 0 ≤ d) (hf : f d = 0) : zra f (d + 1).toNat = zra f d.toNat + 1 := by
  rw [show (d + 1).toNat = d.toNat + 1 by omega]
  show (if f (d.toNat : Int) = 0 then zra f d.toNat + 1 else 0) = _
  rw [Int.toNat_of_nonneg h, if_pos hf]
theorem zra_1 {f : Int → Int} {d : Int} (h : 0 ≤ d) (hf : ¬ f d = 0) : zra f (d + 1).toNat = 0 := by
  rw [show (d + 1).toNat = d.toNat + 1 by omega]
  show (if f (d.toNat : Int) = 0 then zra f d.toNat + 1 else 0) = _
  rw [Int.toNat_of_nonneg h, if_neg hf]
set_option maxRecDepth 20000 in
set_option maxHeartbeats 2000000 in
theorem kX0_restAheadL (hS : zSt M) {f : Int → Int} (hC : zCo M f) (h6 : ∀ d : Int, 0 ≤ d → d < 400 → 0 ≤ f d ∧ f d < 64) {d : Int} (hd : 0 ≤ d ∧ d ≤ 400) : ∀ (k : Nat) (e r : Int), e + 1 = k → zra f d.toNat = r + zra f (e + 1).toNat → e < d → zV g xX0_restAhead (zPp (zi (zra f d.toNat)) 75 M) 6 [zr 52, zi d, zi r, zi e] [] 75 M 0 0 := by
  intro k
  induction k with
  | zero =>
    intro e r h0 h1 h2
    refine zV_iload_n (pc := 6) (i := 3) dX0_restAhead_6 rfl rfl ?_
    refine zV_if_lt (pc := 7) (tgt := 28) dX0_restAhead_7 (by decide) (by omega) (fun c_7 => ?_) (fun c_7 => absurd (by omega) c_7)
    refine zV_iload_n (pc := 28) (i := 2) dX0_restAhead_28 rfl rfl ?_
    refine zV_iret (pc := 29) dX0_restAhead_29 trivial ⟨Nat.zero_le _, Nat.zero_le _⟩ ?_
    rw [show e = -1 by omega] at h1
    exact zPe (by rw [h1, show ((-1 : Int) + 1).toNat = 0 from rfl]; exact (Int.add_zero r).symm)
  | succ k ih =>
    intro e r h0 h1 h2
    refine zV_iload_n (pc := 6) (i := 3) dX0_restAhead_6 rfl rfl ?_
    refine zV_if_lt (pc := 7) (tgt := 28) dX0_restAhead_7 (by decide) (by omega) (fun c_7 => absurd c_7 (by omega)) (fun c_7 => ?_)
    refine zV_aload_n (pc := 10) (i := 0) dX0_restAhead_10 rfl rfl ?_
    refine zV_get (pc := 11) (j := 4) dX0_restAhead_11 flX0_25 (zOb_of rfl) rfl hS.e52_4 ?_
    refine zV_iload_n (pc := 14) (i := 3) dX0_restAhead_14 rfl rfl ?_
    refine zV_iald (pc := 15) dX0_restAhead_15 (zAr_of rfl : zAr 75 57 0 400) (by omega) (hC _ (by omega) (by omega)) ?_
    refine zV_if_ne (pc := 16) (tgt := 28) dX0_restAhead_16 (by decide) (by have := h6 e (by omega) (by omega); omega) (fun c_16 => ?_) (fun c_16 => ?_)
    · refine zV_iload_n (pc := 28) (i := 2) dX0_restAhead_28 rfl rfl ?_
      refine zV_iret (pc := 29) dX0_restAhead_29 trivial ⟨Nat.zero_le _, Nat.zero_le _⟩ ?_
      exact zPe (by rw [h1, zra_1 (by omega) c_16]; omega)
    · refine zV_iinc (pc := 19) dX0_restAhead_19 rfl rfl ?_
      try dsimp only [List.set_cons_succ, List.set_cons_zero]
      refine zV_iinc (pc := 22) dX0_restAhead_22 rfl rfl ?_
      try dsimp only [List.set_cons_succ, List.set_cons_zero]
      refine zV_goto (pc := 25) (tgt := 6) dX0_restAhead_25 (by decide) ?_
      exact ih (e + -1) (r + 1) (by omega) (by rw [h1, zra_0 (by omega) c_16, show (e + -1 + 1).toNat = e.toNat by omega]; omega) (by omega)
set_option maxRecDepth 20000 in
set_option maxHeartbeats 2000000 in
theorem kX0_restAhead (hS : zSt M) {f : Int → Int} (hC : zCo M f) (h6 : ∀ d : Int, 0 ≤ d → d < 400 → 0 ≤ f d ∧ f d < 64) {d : Int} (hd : 0 ≤ d ∧ d ≤ 400) : zK g yX0_restAhead xX0_restAhead [zr 52, zi d] 75 M (zPp (zi (zra f d.toNat)) 75 M) := by
  refine zK_of (by decide) rfl (by decide) rfl (Nat.le_of_ble_eq_true rfl) ?_
  refine zV_iconst (pc := 0) dX0_restAhead_0 ?_
  refine zV_istore_n (pc := 1) (i := 2) dX0_restAhead_1 rfl rfl ?_
  try dsimp only [List.set_cons_succ, List.set_cons_zero]
  refine zV_iload_n (pc := 2) (i := 1) dX0_restAhead_2 rfl rfl ?_
  refine zV_iconst (pc := 3) dX0_restAhead_3 ?_
  refine zV_isub (pc := 4) dX0_restAhead_4 ?_
  refine zV_istore_n (pc := 5) (i := 3) dX0_restAhead_5 rfl rfl ?_
  try dsimp only [List.set_cons_succ, List.set_cons_zero]
  exact kX0_restAheadL hS hC h6 hd d.toNat (d - 1) 0 (by omega) (by rw [show d - 1 + 1 = d by omega]; omega) (by omega)
theorem zpc_r (s : Int) (hs : 0 ≤ s ∧ s < 64) : 0 ≤ zpc s ∧ zpc s ≤ 6 := by
  unfold zpc
  omega
set_option maxRecDepth 20000 in
set_option maxHeartbeats 2000000 in
theorem kX0_daysWithL (hS : zSt M) {f : Int → Int} (hC : zCo M f) (h6 : ∀ d : Int, 0 ≤ d → d < 400 → 0 ≤ f d ∧ f d < 64) {l : Int} (hl : 0 ≤ l ∧ l ≤ 100) : ∀ (k : Nat) (d n : Int), d + k = 400 → 0 ≤ d → n = zsum (fun d => zb (l ≤ zpc (f d))) d.toNat → zV g xX0_daysWith (zPp (zi (zsum (fun d => zb (l ≤ zpc (f d))) 400)) 75 M) 4 [zr 52, zi l, zi n, zi d] [] 75 M 0 0 := by
  intro k
  induction k with
  | zero =>
    intro d n h0 h1 h2
    refine zV_iload_n (pc := 4) (i := 3) dX0_daysWith_4 rfl rfl ?_
    refine zV_sipush (pc := 5) dX0_daysWith_5 (by decide) ?_
    refine zV_icmp_ge (pc := 8) (tgt := 33) dX0_daysWith_8 (by decide) (by omega) (fun c_8 => ?_) (fun c_8 => absurd (by omega) c_8)
    refine zV_iload_n (pc := 33) (i := 2) dX0_daysWith_33 rfl rfl ?_
    refine zV_iret (pc := 34) dX0_daysWith_34 trivial ⟨Nat.zero_le _, Nat.zero_le _⟩ ?_
    rw [show d = 400 by omega] at h2
    exact zPe h2
  | succ k ih =>
    intro d n h0 h1 h2
    refine zV_iload_n (pc := 4) (i := 3) dX0_daysWith_4 rfl rfl ?_
    refine zV_sipush (pc := 5) dX0_daysWith_5 (by decide) ?_
    refine zV_icmp_ge (pc := 8) (tgt := 33) dX0_daysWith_8 (by decide) (by omega) (fun c_8 => absurd c_8 (by omega)) (fun c_8 => ?_)
    refine zV_aload_n (pc := 11) (i := 0) dX0_daysWith_11 rfl rfl ?_
    refine zV_get (pc := 12) (j := 4) dX0_daysWith_12 flX0_25 (zOb_of rfl) rfl hS.e52_4 ?_
    refine zV_iload_n (pc := 15) (i := 3) dX0_daysWith_15 rfl rfl ?_
    refine zV_iald (pc := 16) dX0_daysWith_16 (zAr_of rfl : zAr 75 57 0 400) (by omega) (hC d (by omega) (by omega)) ?_
    refine zV_isp (pc := 17) dX0_daysWith_17 klX0_65 mJ6_bitCount_0f7a4 rfl ⟨Nat.zero_le _, Nat.zero_le _⟩ (kJ6_bitCount (h6 d (by omega) (by omega))) rfl rfl (Nat.le_of_ble_eq_true rfl) ?_
    refine zV_iload_n (pc := 20) (i := 1) dX0_daysWith_20 rfl rfl ?_
    refine zV_icmp_lt (pc := 21) (tgt := 27) dX0_daysWith_21 (by decide) (by have := zpc_r (f d) (h6 d (by omega) (by omega)); omega) (fun c_21 => ?_) (fun c_21 => ?_)
    · refine zV_iinc (pc := 27) dX0_daysWith_27 rfl rfl ?_
      refine zV_goto (pc := 30) (tgt := 4) dX0_daysWith_30 (by decide) ?_
      first
        | exact ih (d + 1) _ (by omega) (by omega) (by rw [h2, zsum_n (by omega), zb_t (by omega)])
        | exact ih (d + 1) _ (by omega) (by omega) (by rw [h2, zsum_n (by omega), zb_f (by omega), Int.add_zero])
    · refine zV_iinc (pc := 24) dX0_daysWith_24 rfl rfl ?_
      try dsimp only [List.set_cons_succ, List.set_cons_zero]
      refine zV_iinc (pc := 27) dX0_daysWith_27 rfl rfl ?_
      refine zV_goto (pc := 30) (tgt := 4) dX0_daysWith_30 (by decide) ?_
      first
        | exact ih (d + 1) _ (by omega) (by omega) (by rw [h2, zsum_n (by omega), zb_t (by omega)])
        | exact ih (d + 1) _ (by omega) (by omega) (by rw [h2, zsum_n (by omega), zb_f (by omega), Int.add_zero])
set_option maxRecDepth 20000 in
set_option maxHeartbeats 2000000 in
theorem kX0_daysWith (hS : zSt M) {f : Int → Int} (hC : zCo M f) (h6 : ∀ d : Int, 0 ≤ d → d < 400 → 0 ≤ f d ∧ f d < 64) {l : Int} (hl : 0 ≤ l ∧ l ≤ 100) : zK g yX0_daysWith xX0_daysWith [zr 52, zi l] 75 M (zPp (zi (zsum (fun d => zb (l ≤ zpc (f d))) 400)) 75 M) := by
  refine zK_of (by decide) rfl (by decide) rfl (Nat.le_of_ble_eq_true rfl) ?_
  refine zV_iconst (pc := 0) dX0_daysWith_0 ?_
  refine zV_istore_n (pc := 1) (i := 2) dX0_daysWith_1 rfl rfl ?_
  try dsimp only [List.set_cons_succ, List.set_cons_zero]
  refine zV_iconst (pc := 2) dX0_daysWith_2 ?_
  refine zV_istore_n (pc := 3) (i := 3) dX0_daysWith_3 rfl rfl ?_
  try dsimp only [List.set_cons_succ, List.set_cons_zero]
  exact kX0_daysWithL hS hC h6 hl 400 0 0 (by omega) (by omega) rfl
/-- on a day of the year, the thing comes and another does too -/
def zcw (f : Int → Int) (t : Int) (n : Nat) : Prop := ∃ d : Int, 0 ≤ d ∧ d < n ∧ f d / 2 ^ t.toNat % 2 = 1 ∧ f d ≠ 2 ^ t.toNat
theorem z_andp : ∀ n, n < 64 → ∀ t, t < 6 → nI n &&& nI (2 ^ t) = nI (n / 2 ^ t % 2 * 2 ^ t) := by decide +kernel
theorem z_andp2 {x : Int} {t : Int} (hx : 0 ≤ x ∧ x < 64) (ht : 0 ≤ t ∧ t < 6) : Int32.ofInt x &&& Int32.ofInt (2 ^ t.toNat) = Int32.ofInt (x / 2 ^ t.toNat % 2 * 2 ^ t.toNat) := by
  have h := z_andp x.toNat (by omega) t.toNat (by omega)
  have h3 : ((2 ^ t.toNat : Nat) : Int) = (2 : Int) ^ t.toNat := by simp
  rw [zo_n hx.1, ← h3, ← zn_o, h, zn_o]
  congr 1
  rw [Int.natCast_mul, Int.natCast_emod, Int.natCast_ediv, Int.toNat_of_nonneg hx.1]
  rfl
theorem zpw {t : Int} (ht : 0 ≤ t ∧ t < 6) : 1 ≤ (2 : Int) ^ t.toNat ∧ (2 : Int) ^ t.toNat ≤ 32 := by
  rcases (show t = 0 ∨ t = 1 ∨ t = 2 ∨ t = 3 ∨ t = 4 ∨ t = 5 by omega) with rfl | rfl | rfl | rfl | rfl | rfl <;> decide
theorem zm01 (x y : Int) : x / y % 2 = 0 ∨ x / y % 2 = 1 := by omega
set_option maxRecDepth 20000 in
set_option maxHeartbeats 2000000 in
theorem kX0_cwL (hS : zSt M) {f : Int → Int} (hC : zCo M f) (h6 : ∀ d : Int, 0 ≤ d → d < 400 → 0 ≤ f d ∧ f d < 64) {t : Int} (ht : 0 ≤ t ∧ t < 6) : ∀ (k : Nat) (d : Int), d + k = 400 → 0 ≤ d → ¬ zcw f t d.toNat → zV g xX0_comesWithOthers (zPp (zi (zb (zcw f t 400))) 75 M) 6 [zr 52, zi t, zi (2 ^ t.toNat), zi d] [] 75 M 0 0 := by
  intro k
  induction k with
  | zero =>
    intro d h0 h1 h2
    have hp := zpw ht
    refine zV_iload_n (pc := 6) (i := 3) dX0_comesWithOthers_6 rfl rfl ?_
    refine zV_sipush (pc := 7) dX0_comesWithOthers_7 (by decide) ?_
    refine zV_icmp_ge (pc := 10) (tgt := 42) dX0_comesWithOthers_10 (by decide) (by omega) (fun c_10 => ?_) (fun c_10 => absurd (by omega) c_10)
    refine zV_iconst (pc := 42) dX0_comesWithOthers_42 ?_
    refine zV_iret (pc := 43) dX0_comesWithOthers_43 (by first | exact zok_b1 | exact zok_b0 | exact zok_b) ⟨Nat.zero_le _, Nat.zero_le _⟩ ?_
    exact zPf (fun ⟨e, e0, e1, e2⟩ => h2 ⟨e, e0, by omega, e2⟩)
  | succ k ih =>
    intro d h0 h1 h2
    have hp := zpw ht
    refine zV_iload_n (pc := 6) (i := 3) dX0_comesWithOthers_6 rfl rfl ?_
    refine zV_sipush (pc := 7) dX0_comesWithOthers_7 (by decide) ?_
    refine zV_icmp_ge (pc := 10) (tgt := 42) dX0_comesWithOthers_10 (by decide) (by omega) (fun c_10 => absurd c_10 (by omega)) (fun c_10 => ?_)
    refine zV_aload_n (pc := 13) (i := 0) dX0_comesWithOthers_13 rfl rfl ?_
    refine zV_get (pc := 14) (j := 4) dX0_comesWithOthers_14 flX0_25 (zOb_of rfl) rfl hS.e52_4 ?_
    refine zV_iload_n (pc := 17) (i := 3) dX0_comesWithOthers_17 rfl rfl ?_
    refine zV_iald (pc := 18) dX0_comesWithOthers_18 (zAr_of rfl : zAr 75 57 0 400) (by omega) (hC d (by omega) (by omega)) ?_
    refine zV_iload_n (pc := 19) (i := 2) dX0_comesWithOthers_19 rfl rfl ?_
    refine zV_iand (pc := 20) dX0_comesWithOthers_20 (z_andp2 (h6 d (by omega) (by omega)) ht) ?_
    refine zV_if_eq (pc := 21) (tgt := 36) dX0_comesWithOthers_21 (by decide) (by rcases zm01 (f d) (2 ^ t.toNat) with q | q <;> rw [q] <;> omega) (fun c_21 => ?_) (fun c_21 => ?_)
    · refine zV_iinc (pc := 36) dX0_comesWithOthers_36 rfl rfl ?_
      refine zV_goto (pc := 39) (tgt := 6) dX0_comesWithOthers_39 (by decide) ?_
      refine ih (d + 1) (by omega) (by omega) ?_
      rintro ⟨e, e0, e1, e2, e3⟩
      by_cases he : e = d
      · subst he
        first
          | (rw [e2] at c_21; omega)
          | exact e3 c_31
      · exact h2 ⟨e, e0, by omega, e2, e3⟩
    · refine zV_aload_n (pc := 24) (i := 0) dX0_comesWithOthers_24 rfl rfl ?_
      refine zV_get (pc := 25) (j := 4) dX0_comesWithOthers_25 flX0_25 (zOb_of rfl) rfl hS.e52_4 ?_
      refine zV_iload_n (pc := 28) (i := 3) dX0_comesWithOthers_28 rfl rfl ?_
      refine zV_iald (pc := 29) dX0_comesWithOthers_29 (zAr_of rfl : zAr 75 57 0 400) (by omega) (hC d (by omega) (by omega)) ?_
      refine zV_iload_n (pc := 30) (i := 2) dX0_comesWithOthers_30 rfl rfl ?_
      refine zV_icmp_eq (pc := 31) (tgt := 36) dX0_comesWithOthers_31 (by decide) (by have := h6 d (by omega) (by omega); omega) (fun c_31 => ?_) (fun c_31 => ?_)
      · refine zV_iinc (pc := 36) dX0_comesWithOthers_36 rfl rfl ?_
        refine zV_goto (pc := 39) (tgt := 6) dX0_comesWithOthers_39 (by decide) ?_
        refine ih (d + 1) (by omega) (by omega) ?_
        rintro ⟨e, e0, e1, e2, e3⟩
        by_cases he : e = d
        · subst he
          first
            | (rw [e2] at c_21; omega)
            | exact e3 c_31
        · exact h2 ⟨e, e0, by omega, e2, e3⟩
      · refine zV_iconst (pc := 34) dX0_comesWithOthers_34 ?_
        refine zV_iret (pc := 35) dX0_comesWithOthers_35 (by first | exact zok_b1 | exact zok_b0 | exact zok_b) ⟨Nat.zero_le _, Nat.zero_le _⟩ ?_
        refine zPt ⟨d, by omega, by omega, ?_, c_31⟩
        rcases zm01 (f d) (2 ^ t.toNat) with q | q
        · rw [q] at c_21; omega
        · exact q
set_option maxRecDepth 20000 in
set_option maxHeartbeats 2000000 in
theorem kX0_comesWithOthers (hS : zSt M) {f : Int → Int} (hC : zCo M f) (h6 : ∀ d : Int, 0 ≤ d → d < 400 → 0 ≤ f d ∧ f d < 64) {t : Int} (ht : 0 ≤ t ∧ t < 6) : zK g yX0_comesWithOthers xX0_comesWithOthers [zr 52, zi t] 75 M (zPp (zi (zb (zcw f t 400))) 75 M) := by
  refine zK_of (by decide) rfl (by decide) rfl (Nat.le_of_ble_eq_true rfl) ?_
  refine zV_iconst (pc := 0) dX0_comesWithOthers_0 ?_
  refine zV_iload_n (pc := 1) (i := 1) dX0_comesWithOthers_1 rfl rfl ?_
  refine zV_ishl (pc := 2) dX0_comesWithOthers_2 (z_shl (n := t.toNat) (by omega) (by omega)) ?_
  refine zV_istore_n (pc := 3) (i := 2) dX0_comesWithOthers_3 rfl rfl ?_
  try dsimp only [List.set_cons_succ, List.set_cons_zero]
  refine zV_iconst (pc := 4) dX0_comesWithOthers_4 ?_
  refine zV_istore_n (pc := 5) (i := 3) dX0_comesWithOthers_5 rfl rfl ?_
  try dsimp only [List.set_cons_succ, List.set_cons_zero]
  exact kX0_cwL hS hC h6 ht 400 0 (by omega) (by omega) (fun ⟨e, e0, e1, _⟩ => by omega)
/-- how many days from a on, one behind the other, have f 0, of k -/
def zrf (f : Int → Int) : Int → Nat → Int
  | _, 0 => 0
  | a, k + 1 => if f a = 0 then zrf f (a + 1) k + 1 else 0
theorem zrf_0 {f : Int → Int} {a : Int} {k : Nat} (h : f a = 0) : zrf f a (k + 1) = zrf f (a + 1) k + 1 := if_pos h
theorem zrf_1 {f : Int → Int} {a : Int} {k : Nat} (h : ¬ f a = 0) : zrf f a (k + 1) = 0 := if_neg h
set_option maxRecDepth 20000 in
set_option maxHeartbeats 2000000 in
theorem kX0_rfL (hS : zSt M) {f : Int → Int} (hC : zCo M f) (h6 : ∀ d : Int, 0 ≤ d → d < 400 → 0 ≤ f d ∧ f d < 64) {a : Int} (ha : -1 ≤ a ∧ a ≤ 399) : ∀ (k : Nat) (d n : Int), d + k = 400 → 0 ≤ d → 0 ≤ a → zrf f a (400 - a).toNat = n + zrf f d k → zV g xX0_restFrom (zPp (zi (if a < 0 then 0 else zrf f a (400 - a).toNat)) 75 M) 10 [zr 52, zi a, zi n, zi d] [] 75 M 0 0 := by
  intro k
  induction k with
  | zero =>
    intro d n h0 h1 h2 h3
    refine zV_iload_n (pc := 10) (i := 3) dX0_restFrom_10 rfl rfl ?_
    refine zV_sipush (pc := 11) dX0_restFrom_11 (by decide) ?_
    refine zV_icmp_ge (pc := 14) (tgt := 35) dX0_restFrom_14 (by decide) (by omega) (fun c_14 => ?_) (fun c_14 => absurd (by omega) c_14)
    refine zV_iload_n (pc := 35) (i := 2) dX0_restFrom_35 rfl rfl ?_
    refine zV_iret (pc := 36) dX0_restFrom_36 trivial ⟨Nat.zero_le _, Nat.zero_le _⟩ ?_
    exact zPe (by rw [if_neg (by omega), h3]; exact (Int.add_zero n).symm)
  | succ k ih =>
    intro d n h0 h1 h2 h3
    refine zV_iload_n (pc := 10) (i := 3) dX0_restFrom_10 rfl rfl ?_
    refine zV_sipush (pc := 11) dX0_restFrom_11 (by decide) ?_
    refine zV_icmp_ge (pc := 14) (tgt := 35) dX0_restFrom_14 (by decide) (by omega) (fun c_14 => absurd c_14 (by omega)) (fun c_14 => ?_)
    refine zV_aload_n (pc := 17) (i := 0) dX0_restFrom_17 rfl rfl ?_
    refine zV_get (pc := 18) (j := 4) dX0_restFrom_18 flX0_25 (zOb_of rfl) rfl hS.e52_4 ?_
    refine zV_iload_n (pc := 21) (i := 3) dX0_restFrom_21 rfl rfl ?_
    refine zV_iald (pc := 22) dX0_restFrom_22 (zAr_of rfl : zAr 75 57 0 400) (by omega) (hC d (by omega) (by omega)) ?_
    refine zV_if_ne (pc := 23) (tgt := 35) dX0_restFrom_23 (by decide) (by have := h6 d (by omega) (by omega); omega) (fun c_23 => ?_) (fun c_23 => ?_)
    · refine zV_iload_n (pc := 35) (i := 2) dX0_restFrom_35 rfl rfl ?_
      refine zV_iret (pc := 36) dX0_restFrom_36 trivial ⟨Nat.zero_le _, Nat.zero_le _⟩ ?_
      exact zPe (by rw [if_neg (by omega), h3, zrf_1 c_23]; exact (Int.add_zero n).symm)
    · refine zV_iinc (pc := 26) dX0_restFrom_26 rfl rfl ?_
      try dsimp only [List.set_cons_succ, List.set_cons_zero]
      refine zV_iinc (pc := 29) dX0_restFrom_29 rfl rfl ?_
      try dsimp only [List.set_cons_succ, List.set_cons_zero]
      refine zV_goto (pc := 32) (tgt := 10) dX0_restFrom_32 (by decide) ?_
      exact ih (d + 1) (n + 1) (by omega) (by omega) (by omega) (by rw [h3, zrf_0 c_23]; omega)
set_option maxRecDepth 20000 in
set_option maxHeartbeats 2000000 in
theorem kX0_restFrom (hS : zSt M) {f : Int → Int} (hC : zCo M f) (h6 : ∀ d : Int, 0 ≤ d → d < 400 → 0 ≤ f d ∧ f d < 64) {a : Int} (ha : -1 ≤ a ∧ a ≤ 399) : zK g yX0_restFrom xX0_restFrom [zr 52, zi a] 75 M (zPp (zi (if a < 0 then 0 else zrf f a (400 - a).toNat)) 75 M) := by
  refine zK_of (by decide) rfl (by decide) rfl (Nat.le_of_ble_eq_true rfl) ?_
  refine zV_iload_n (pc := 0) (i := 1) dX0_restFrom_0 rfl rfl ?_
  refine zV_if_ge (pc := 1) (tgt := 6) dX0_restFrom_1 (by decide) (by omega) (fun c_1 => ?_) (fun c_1 => ?_)
  · refine zV_iconst (pc := 6) dX0_restFrom_6 ?_
    refine zV_istore_n (pc := 7) (i := 2) dX0_restFrom_7 rfl rfl ?_
    try dsimp only [List.set_cons_succ, List.set_cons_zero]
    refine zV_iload_n (pc := 8) (i := 1) dX0_restFrom_8 rfl rfl ?_
    refine zV_istore_n (pc := 9) (i := 3) dX0_restFrom_9 rfl rfl ?_
    try dsimp only [List.set_cons_succ, List.set_cons_zero]
    exact kX0_rfL hS hC h6 ha (400 - a).toNat a 0 (by omega) (by omega) (by omega) (by omega)
  · refine zV_iconst (pc := 4) dX0_restFrom_4 ?_
    refine zV_iret (pc := 5) dX0_restFrom_5 trivial ⟨Nat.zero_le _, Nat.zero_le _⟩ ?_
    exact zPe (by rw [if_pos (by omega)])
end
