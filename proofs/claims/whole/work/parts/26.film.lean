/-! THE CLASS: sheet, cell, film (printed by wip/whole/p26.py) -/
theorem zRo.gen {C : Int → Int → Prop} {M M1 : zM} (h : zRo M) (f : zFr C M M1) (hst : ∀ q ∈ zstL, ¬ C q.1 q.2.1) (h1 : ¬ C 1 1 ∧ ¬ C 1 2 ∧ ¬ C 1 3) (ht : ∀ a j : Int, 3 ≤ a → a < 9 → ¬ C a j) (hx : ∀ a j : Int, 27 ≤ a → a < 44 → ¬ C a j) : zRo M1 ∧ zAg M M1 ∧ M1 1 2 = M 1 2 ∧ M1 1 3 = M 1 3 := by
  have e2 : M1 1 2 = M 1 2 := f _ _ h1.2.1
  have e3 : M1 1 3 = M 1 3 := f _ _ h1.2.2
  have hA : zAg M M1 := ⟨f _ _ h1.1, fun i j i0 i1 => f _ _ (ht _ _ (by omega) (by omega))⟩
  refine ⟨⟨h.1.fr f hst, h.2.1.ag hA, ?_, by rw [e2]; exact h.2.2.2⟩, hA, e2, e3⟩
  have hU := h.2.2.1
  have r := hU.1
  unfold zRu
  rw [e3]
  refine ⟨r, ?_⟩
  have x1 : M1 (27 + 3 * M 1 3) = M (27 + 3 * M 1 3) := by
    funext j
    exact f _ _ (hx _ _ (by omega) (by omega))
  have x2 : M1 (28 + 3 * M 1 3) = M (28 + 3 * M 1 3) := by
    funext j
    exact f _ _ (hx _ _ (by omega) (by omega))
  have := hU.2
  unfold zTx at this ⊢
  rw [x1, x2]
  exact this
/-- what a sheet's change reaches -/
def zSf (s a j : Int) : Prop := (a = 44 + 2 * s ∧ (j = 0 ∨ j = 1)) ∨ a = 45 + 2 * s
theorem zSf_st {s : Int} (hs : 0 ≤ s ∧ s < 4) : ∀ q ∈ zstL, ¬ zSf s q.1 q.2.1 := by
  unfold zSf
  rcases (show s = 0 ∨ s = 1 ∨ s = 2 ∨ s = 3 by omega) with rfl | rfl | rfl | rfl <;> decide
theorem zRo.sf {s : Int} {M M1 : zM} (h : zRo M) (hs : 0 ≤ s ∧ s < 4) (f : zFr (zSf s) M M1) : zRo M1 ∧ zAg M M1 ∧ M1 1 2 = M 1 2 ∧ M1 1 3 = M 1 3 :=
  h.gen f (zSf_st hs) (by unfold zSf; omega) (by unfold zSf; intro a j h1 h2; omega) (by unfold zSf; intro a j h1 h2; omega)
/-- the sheets' own bounds -/
def zShs (M : zM) : Prop := ∀ s : Int, 0 ≤ s → s < 4 → (-1 ≤ M (44 + 2 * s) 0 ∧ M (44 + 2 * s) 0 ≤ 2) ∧ (0 ≤ M (44 + 2 * s) 1 ∧ M (44 + 2 * s) 1 ≤ 40) ∧ ∀ i : Int, 0 ≤ i → i < 40 → -2147483648 ≤ M (45 + 2 * s) i ∧ M (45 + 2 * s) i ≤ 2147483647
/-- what sheet answers -/
def zshA (s x n : Int) : Int := if (0 ≤ s ∧ s ≤ 3) ∧ (-1 ≤ x ∧ x ≤ 2) then (if x = -1 then 1 else if 40 < n then -2 else if n < 0 then -14 else 1) else -2
/-- what cell answers -/
def zceA (M : zM) (s i : Int) : Int := if 0 ≤ s ∧ s ≤ 3 then (if M (44 + 2 * s) 0 = -1 then -11 else if 0 ≤ i ∧ i < M (44 + 2 * s) 1 then 1 else -12) else -2
/-- the comings, one after another; -1 where there is none -/
noncomputable def zfq (C : Int → Prop) : Nat → Int
  | 0 => zfst C 0 400
  | k + 1 => zfst C (zfq C k + 1) (400 - (zfq C k + 1)).toNat
theorem zct_ag {M M1 : zM} {t : Int} (hA : zAg M M1) (h2 : M1 1 2 = M 1 2) (ht : 0 ≤ t ∧ t < 6) : (fun d => zct (zTc M1) (M1 1 2) d t) = (fun d => zct (zTc M) (M 1 2) d t) := by
  funext d
  unfold zct zTc
  rw [h2, hA.2 t 0 ht.1 ht.2, hA.2 t 1 ht.1 ht.2, hA.2 t 2 ht.1 ht.2, hA.2 t 3 ht.1 ht.2]
section
variable {g : zG} {N : Nat} {M : zM}
set_option maxRecDepth 20000 in
set_option maxHeartbeats 2000000 in
theorem kX9_sheet (hS : zSt M) {s x n : Int} (hs : -2147483648 ≤ s ∧ s ≤ 2147483647) (hx : -2147483648 ≤ x ∧ x ≤ 2147483647) (hn : -2147483648 ≤ n ∧ n ≤ 2147483647) : zK g yX9_sheet xX9_sheet [zr 0, zi s, zi x, zi n] 75 M (fun w N' M1 => N' = 75 ∧ w = some (zi (zshA s x n)) ∧ (zshA s x n ≠ 1 → M1 = M) ∧ (zshA s x n = 1 → 0 ≤ s ∧ s < 4 ∧ M1 (44 + 2 * s) 0 = x ∧ M1 (44 + 2 * s) 1 = (if x = -1 then 0 else n) ∧ (∀ i : Int, 0 ≤ i → i < 40 → M1 (45 + 2 * s) i = 0) ∧ zFr (zSf s) M M1)) := by
  refine zK_of (ls0 := [zr 0, zi s, zi x, zi n]) (by decide) rfl (by decide) rfl (Nat.le_of_ble_eq_true rfl) ?_
  refine zV_iload_n (pc := 0) (i := 1) dX9_sheet_0 rfl rfl ?_
  refine zV_isp (pc := 1) dX9_sheet_1 klX9_228 mX9_isSheet rfl ⟨Nat.zero_le _, Nat.zero_le _⟩ (kX9_isSheet (by omega)) rfl rfl (Nat.le_of_ble_eq_true rfl) ?_
  refine zV_if_eqb (pc := 4) (tgt := 16) dX9_sheet_4 (by decide) (fun c_4 => ?_) (fun c_4 => ?_)
  · refine zV_bipush (pc := 16) dX9_sheet_16 (by decide) ?_
    refine zV_iret (pc := 18) dX9_sheet_18 trivial ⟨Nat.zero_le _, Nat.zero_le _⟩ ?_
    have e : zshA s x n = -2 := by unfold zshA; rw [if_neg (by omega)]
    exact ⟨rfl, by rw [e], fun _ => rfl, fun q => absurd (e.symm.trans q) (by decide)⟩
  · refine zV_iload_n (pc := 7) (i := 2) dX9_sheet_7 rfl rfl ?_
    refine zV_iconst (pc := 8) dX9_sheet_8 ?_
    refine zV_iconst (pc := 9) dX9_sheet_9 ?_
    refine zV_isp (pc := 10) dX9_sheet_10 klX9_119 mX9_within rfl ⟨Nat.zero_le _, Nat.zero_le _⟩ (kX9_within (by omega) (by omega) (by omega)) rfl rfl (Nat.le_of_ble_eq_true rfl) ?_
    refine zV_if_neb (pc := 13) (tgt := 19) dX9_sheet_13 (by decide) (fun c_13 => ?_) (fun c_13 => ?_)
    · refine zV_iload_n (pc := 19) (i := 2) dX9_sheet_19 rfl rfl ?_
      refine zV_iconst (pc := 20) dX9_sheet_20 ?_
      refine zV_icmp_ne (pc := 21) (tgt := 37) dX9_sheet_21 (by decide) (by omega) (fun c_21 => ?_) (fun c_21 => ?_)
      · refine zV_iload_n (pc := 37) (i := 3) dX9_sheet_37 rfl rfl ?_
        refine zV_bipush (pc := 38) dX9_sheet_38 (by decide) ?_
        refine zV_icmp_le (pc := 40) (tgt := 46) dX9_sheet_40 (by decide) (by omega) (fun c_40 => ?_) (fun c_40 => ?_)
        · refine zV_iload_n (pc := 46) (i := 3) dX9_sheet_46 rfl rfl ?_
          refine zV_if_ge (pc := 47) (tgt := 53) dX9_sheet_47 (by decide) (by omega) (fun c_47 => ?_) (fun c_47 => ?_)
          · refine zV_aload_n (pc := 53) (i := 0) dX9_sheet_53 rfl rfl ?_
            refine zV_get (pc := 54) (j := 10) dX9_sheet_54 flX9_55 (zOb_of rfl) rfl hS.e0_10 ?_
            refine zV_iload_n (pc := 57) (i := 1) dX9_sheet_57 rfl rfl ?_
            refine zV_aald (pc := 58) dX9_sheet_58 (zAr_of rfl : zAr 75 25 4 4) ⟨rfl, rfl⟩ (by omega) (hS.sh (by omega)) ?_
            refine zV_iload_n (pc := 59) (i := 2) dX9_sheet_59 rfl rfl ?_
            refine zV_iload_n (pc := 60) (i := 3) dX9_sheet_60 rfl rfl ?_
            refine zV_ivn (pc := 61) (ci := 6) dX9_sheet_61 klX9_262 mX6_become ⟨by decide, rfl⟩ rfl ⟨Nat.zero_le _, Nat.zero_le _⟩ (kX6_become hS (by omega)) (zOb_sh (by omega)) rfl rfl (Nat.le_of_ble_eq_true rfl) (fun M1 q => ?_)
            obtain ⟨q0, q1, q2, q3⟩ := q
            refine zV_iconst (pc := 64) dX9_sheet_64 ?_
            refine zV_iret (pc := 65) dX9_sheet_65 trivial ⟨Nat.zero_le _, Nat.zero_le _⟩ ?_
            have e : zshA s x n = 1 := by unfold zshA; rw [if_pos (by omega), if_neg (by omega), if_neg (by omega), if_neg (by omega)]
            exact ⟨rfl, by rw [e], fun q => absurd e q, fun _ => ⟨by omega, by omega, q0, q1.trans (if_neg (by omega)).symm, q2, q3⟩⟩
          · refine zV_bipush (pc := 50) dX9_sheet_50 (by decide) ?_
            refine zV_iret (pc := 52) dX9_sheet_52 trivial ⟨Nat.zero_le _, Nat.zero_le _⟩ ?_
            have e : zshA s x n = -14 := by unfold zshA; rw [if_pos (by omega), if_neg (by omega), if_neg (by omega), if_pos (by omega)]
            exact ⟨rfl, by rw [e], fun _ => rfl, fun q => absurd (e.symm.trans q) (by decide)⟩
        · refine zV_bipush (pc := 43) dX9_sheet_43 (by decide) ?_
          refine zV_iret (pc := 45) dX9_sheet_45 trivial ⟨Nat.zero_le _, Nat.zero_le _⟩ ?_
          have e : zshA s x n = -2 := by unfold zshA; rw [if_pos (by omega), if_neg (by omega), if_pos (by omega)]
          exact ⟨rfl, by rw [e], fun _ => rfl, fun q => absurd (e.symm.trans q) (by decide)⟩
      · refine zV_aload_n (pc := 24) (i := 0) dX9_sheet_24 rfl rfl ?_
        refine zV_get (pc := 25) (j := 10) dX9_sheet_25 flX9_55 (zOb_of rfl) rfl hS.e0_10 ?_
        refine zV_iload_n (pc := 28) (i := 1) dX9_sheet_28 rfl rfl ?_
        refine zV_aald (pc := 29) dX9_sheet_29 (zAr_of rfl : zAr 75 25 4 4) ⟨rfl, rfl⟩ (by omega) (hS.sh (by omega)) ?_
        refine zV_iconst (pc := 30) dX9_sheet_30 ?_
        refine zV_iconst (pc := 31) dX9_sheet_31 ?_
        refine zV_ivn (pc := 32) (ci := 6) dX9_sheet_32 klX9_262 mX6_become ⟨by decide, rfl⟩ rfl ⟨Nat.zero_le _, Nat.zero_le _⟩ (kX6_become hS (by omega)) (zOb_sh (by omega)) rfl rfl (Nat.le_of_ble_eq_true rfl) (fun M1 q => ?_)
        obtain ⟨q0, q1, q2, q3⟩ := q
        refine zV_iconst (pc := 35) dX9_sheet_35 ?_
        refine zV_iret (pc := 36) dX9_sheet_36 trivial ⟨Nat.zero_le _, Nat.zero_le _⟩ ?_
        have e : zshA s x n = 1 := by unfold zshA; rw [if_pos (by omega), if_pos (by omega)]
        exact ⟨rfl, by rw [e], fun q => absurd e q, fun _ => ⟨by omega, by omega, q0.trans (by omega), q1.trans (if_pos (by omega)).symm, q2, q3⟩⟩
    · refine zV_bipush (pc := 16) dX9_sheet_16 (by decide) ?_
      refine zV_iret (pc := 18) dX9_sheet_18 trivial ⟨Nat.zero_le _, Nat.zero_le _⟩ ?_
      have e : zshA s x n = -2 := by unfold zshA; rw [if_neg (by omega)]
      exact ⟨rfl, by rw [e], fun _ => rfl, fun q => absurd (e.symm.trans q) (by decide)⟩
set_option maxRecDepth 20000 in
set_option maxHeartbeats 2000000 in
theorem kX9_cell (hS : zSt M) (hH : zShs M) {s i v : Int} (hs : -2147483648 ≤ s ∧ s ≤ 2147483647) (hi : -2147483648 ≤ i ∧ i ≤ 2147483647) (hv : -2147483648 ≤ v ∧ v ≤ 2147483647) : zK g yX9_cell xX9_cell [zr 0, zi s, zi i, zi v] 75 M (fun w N' M1 => N' = 75 ∧ w = some (zi (zceA M s i)) ∧ M1 = if zceA M s i = 1 then zU M (45 + 2 * s) i (zct8 (M (44 + 2 * s) 0) v) else M) := by
  refine zK_of (ls0 := [zr 0, zi s, zi i, zi v, (3, 0)]) (by decide) rfl (by decide) rfl (Nat.le_of_ble_eq_true rfl) ?_
  refine zV_iload_n (pc := 0) (i := 1) dX9_cell_0 rfl rfl ?_
  refine zV_isp (pc := 1) dX9_cell_1 klX9_228 mX9_isSheet rfl ⟨Nat.zero_le _, Nat.zero_le _⟩ (kX9_isSheet (by omega)) rfl rfl (Nat.le_of_ble_eq_true rfl) ?_
  refine zV_if_neb (pc := 4) (tgt := 10) dX9_cell_4 (by decide) (fun c_4 => ?_) (fun c_4 => ?_)
  · refine zV_aload_n (pc := 10) (i := 0) dX9_cell_10 rfl rfl ?_
    refine zV_get (pc := 11) (j := 10) dX9_cell_11 flX9_55 (zOb_of rfl) rfl hS.e0_10 ?_
    refine zV_iload_n (pc := 14) (i := 1) dX9_cell_14 rfl rfl ?_
    refine zV_aald (pc := 15) dX9_cell_15 (zAr_of rfl : zAr 75 25 4 4) ⟨rfl, rfl⟩ (by omega) (hS.sh (by omega)) ?_
    refine zV_astore (pc := 16) dX9_cell_16 rfl ?_
    try dsimp only [List.set_cons_succ, List.set_cons_zero]
    refine zV_aload (pc := 18) dX9_cell_18 rfl ?_
    refine zV_ivp (pc := 20) (ci := 6) dX9_cell_20 klX9_231 mX6_isMissing ⟨by decide, rfl⟩ rfl ⟨Nat.zero_le _, Nat.zero_le _⟩ (kX6_isMissing hS (by omega) (hH s (by omega) (by omega)).1) (zOb_sh (by omega)) rfl rfl (Nat.le_of_ble_eq_true rfl) ?_
    refine zV_if_eqb (pc := 23) (tgt := 29) dX9_cell_23 (by decide) (fun c_23 => ?_) (fun c_23 => ?_)
    · refine zV_aload (pc := 29) dX9_cell_29 rfl ?_
      refine zV_iload_n (pc := 31) (i := 2) dX9_cell_31 rfl rfl ?_
      refine zV_iconst (pc := 32) dX9_cell_32 ?_
      refine zV_ivp (pc := 33) (ci := 6) dX9_cell_33 klX9_283 mX6_hasItems ⟨by decide, rfl⟩ rfl ⟨Nat.zero_le _, Nat.zero_le _⟩ (kX6_hasItems hS (by omega) (hH s (by omega) (by omega)).2.1 (by omega) (by omega)) (zOb_sh (by omega)) rfl rfl (Nat.le_of_ble_eq_true rfl) ?_
      refine zV_if_neb (pc := 36) (tgt := 42) dX9_cell_36 (by decide) (fun c_36 => ?_) (fun c_36 => ?_)
      · refine zV_aload (pc := 42) dX9_cell_42 rfl ?_
        refine zV_iload_n (pc := 44) (i := 2) dX9_cell_44 rfl rfl ?_
        refine zV_iload_n (pc := 45) (i := 3) dX9_cell_45 rfl rfl ?_
        refine zV_ivn (pc := 46) (ci := 6) dX9_cell_46 klX9_264 mX6_put ⟨by decide, rfl⟩ rfl ⟨Nat.zero_le _, Nat.zero_le _⟩ (kX6_put hS (by omega) (hH s (by omega) (by omega)).1 (by omega) (by omega)) (zOb_sh (by omega)) rfl rfl (Nat.le_of_ble_eq_true rfl) (fun M1 q => ?_)
        have hz := (hH s (by omega) (by omega)).2.1
        refine zV_iconst (pc := 49) dX9_cell_49 ?_
        refine zV_iret (pc := 50) dX9_cell_50 trivial ⟨Nat.zero_le _, Nat.zero_le _⟩ ?_
        have e : zceA M s i = 1 := by unfold zceA; rw [if_pos (by omega), if_neg (by omega), if_pos (by omega)]
        rw [e]
        exact ⟨rfl, rfl, q.trans ((if_pos (by omega)).trans (if_pos rfl).symm)⟩
      · refine zV_bipush (pc := 39) dX9_cell_39 (by decide) ?_
        refine zV_iret (pc := 41) dX9_cell_41 trivial ⟨Nat.zero_le _, Nat.zero_le _⟩ ?_
        have e : zceA M s i = -12 := by unfold zceA; rw [if_pos (by omega), if_neg (by omega), if_neg (by omega)]
        rw [e]
        exact ⟨rfl, rfl, (if_neg (by decide)).symm⟩
    · refine zV_bipush (pc := 26) dX9_cell_26 (by decide) ?_
      refine zV_iret (pc := 28) dX9_cell_28 trivial ⟨Nat.zero_le _, Nat.zero_le _⟩ ?_
      have e : zceA M s i = -11 := by unfold zceA; rw [if_pos (by omega), if_pos (by omega)]
      rw [e]
      exact ⟨rfl, rfl, (if_neg (by decide)).symm⟩
  · refine zV_bipush (pc := 7) dX9_cell_7 (by decide) ?_
    refine zV_iret (pc := 9) dX9_cell_9 trivial ⟨Nat.zero_le _, Nat.zero_le _⟩ ?_
    have e : zceA M s i = -2 := by unfold zceA; rw [if_neg (by omega)]
    rw [e]
    exact ⟨rfl, rfl, (if_neg (by decide)).symm⟩
theorem zfst_b (C : Int → Prop) : ∀ (k : Nat) (a : Int), 0 ≤ a → -1 ≤ zfst C a k ∧ (zfst C a k < a + k) := by
  intro k
  induction k with
  | zero =>
    intro a ha
    unfold zfst
    omega
  | succ k ih =>
    intro a ha
    have := ih (a + 1) (by omega)
    unfold zfst
    split <;> omega
theorem zfq_b {C : Int → Prop} (k : Nat) : -1 ≤ zfq C k ∧ zfq C k < 400 := by
  induction k with
  | zero =>
    have := zfst_b C 400 0 (by decide)
    exact ⟨this.1, by have h2 := this.2; show zfst C 0 400 < 400; omega⟩
  | succ k ih =>
    have := zfst_b C (400 - (zfq C k + 1)).toNat (zfq C k + 1) (by omega)
    exact ⟨this.1, by have h2 := this.2; show zfst C (zfq C k + 1) (400 - (zfq C k + 1)).toNat < 400; omega⟩
set_option maxRecDepth 20000 in
set_option maxHeartbeats 2000000 in
theorem kX9_fiL (hR : zRo M) {s t n : Int} (hs : 0 ≤ s ∧ s < 4) (ht : 0 ≤ t ∧ t < M 1 1) (hn2 : 1 ≤ n ∧ n ≤ 20) : ∀ (k : Nat) (i : Nat) (M1 : zM), (i : Int) + k = n → M1 (44 + 2 * s) 0 = 1 → (∀ e : Nat, e < i → zfq (fun d => zct (zTc M) (M 1 2) d t) e ≠ -1 ∧ M1 (45 + 2 * s) e = zfq (fun d => zct (zTc M) (M 1 2) d t) e) → (∀ e : Int, (i : Int) ≤ e → e < 40 → M1 (45 + 2 * s) e = 0) → zFr (zSf s) M M1 → zV g xX9_film (fun w N' M1 => N' = 75 ∧ ∃ c : Nat, w = some (zi (c : Int)) ∧ (c : Int) ≤ n ∧ (∀ e : Nat, e < c → zfq (fun d => zct (zTc M) (M 1 2) d t) e ≠ -1 ∧ M1 (45 + 2 * s) e = zfq (fun d => zct (zTc M) (M 1 2) d t) e) ∧ ((c : Int) < n → zfq (fun d => zct (zTc M) (M 1 2) d t) c = -1) ∧ (∀ e : Int, (c : Int) ≤ e → e < 40 → M1 (45 + 2 * s) e = 0) ∧ M1 (44 + 2 * s) 0 = 1 ∧ M1 (44 + 2 * s) 1 = c ∧ zFr (zSf s) M M1) 69 [zr 0, zi s, zi t, zi n, zr (44 + 2 * s), zr (3 + t), zi (i : Int), zi (zfq (fun d => zct (zTc M) (M 1 2) d t) i)] [] 75 M1 0 0 := by
  intro k
  induction k with
  | zero =>
    intro i M1 h0 h1 h2 h3 h4
    have hRM := hR.sf hs h4
    have hA1 := hRM.2.1
    have hS1 := hRM.1.1
    have ht1 : 0 ≤ t ∧ t < M1 1 1 := by rw [hA1.1]; exact ht
    have hn6 := hR.2.1.1
    have eC := zct_ag (t := t) hA1 hRM.2.2.1 (by omega)
    have hb : -1 ≤ zfq (fun d => zct (zTc M) (M 1 2) d t) i ∧ zfq (fun d => zct (zTc M) (M 1 2) d t) i < 400 := zfq_b i
    refine zV_iload (pc := 69) dX9_film_69 rfl ?_
    refine zV_iload_n (pc := 71) (i := 3) dX9_film_71 rfl rfl ?_
    refine zV_icmp_ge (pc := 72) (tgt := 108) dX9_film_72 (by decide) (by omega) (fun c_72 => ?_) (fun c_72 => absurd (by omega) c_72)
    refine zV_aload (pc := 108) dX9_film_108 rfl ?_
    refine zV_iload (pc := 110) dX9_film_110 rfl ?_
    refine zV_put (pc := 112) (j := 1) dX9_film_112 flX9_267 rfl (zOb_sh hs) rfl trivial ?_
    refine zV_iload (pc := 115) dX9_film_115 rfl ?_
    refine zV_iret (pc := 117) dX9_film_117 trivial ⟨Nat.zero_le _, Nat.zero_le _⟩ ?_
    refine ⟨rfl, i, rfl, by omega, ?_, fun q => by omega, ?_, (zU_j _ _ _ _ (by decide)).trans h1, zU_s _ _ _ _, zFr.up h4 (Or.inl ⟨rfl, Or.inr rfl⟩)⟩
    · exact fun e he => ⟨(h2 e he).1, (zU_a _ _ _ _ (by omega)).trans (h2 e he).2⟩
    · exact fun e e0 e1 => (zU_a _ _ _ _ (by omega)).trans (h3 e e0 e1)
  | succ k ih =>
    intro i M1 h0 h1 h2 h3 h4
    have hRM := hR.sf hs h4
    have hA1 := hRM.2.1
    have hS1 := hRM.1.1
    have ht1 : 0 ≤ t ∧ t < M1 1 1 := by rw [hA1.1]; exact ht
    have hn6 := hR.2.1.1
    have eC := zct_ag (t := t) hA1 hRM.2.2.1 (by omega)
    have hb : -1 ≤ zfq (fun d => zct (zTc M) (M 1 2) d t) i ∧ zfq (fun d => zct (zTc M) (M 1 2) d t) i < 400 := zfq_b i
    refine zV_iload (pc := 69) dX9_film_69 rfl ?_
    refine zV_iload_n (pc := 71) (i := 3) dX9_film_71 rfl rfl ?_
    refine zV_icmp_ge (pc := 72) (tgt := 108) dX9_film_72 (by decide) (by omega) (fun c_72 => absurd c_72 (by omega)) (fun c_72 => ?_)
    refine zV_iload (pc := 75) dX9_film_75 rfl ?_
    refine zV_iconst (pc := 77) dX9_film_77 ?_
    refine zV_icmp_eq (pc := 78) (tgt := 108) dX9_film_78 (by decide) (by omega) (fun c_78 => ?_) (fun c_78 => ?_)
    · refine zV_aload (pc := 108) dX9_film_108 rfl ?_
      refine zV_iload (pc := 110) dX9_film_110 rfl ?_
      refine zV_put (pc := 112) (j := 1) dX9_film_112 flX9_267 rfl (zOb_sh hs) rfl trivial ?_
      refine zV_iload (pc := 115) dX9_film_115 rfl ?_
      refine zV_iret (pc := 117) dX9_film_117 trivial ⟨Nat.zero_le _, Nat.zero_le _⟩ ?_
      refine ⟨rfl, i, rfl, by omega, ?_, fun q => by omega, ?_, (zU_j _ _ _ _ (by decide)).trans h1, zU_s _ _ _ _, zFr.up h4 (Or.inl ⟨rfl, Or.inr rfl⟩)⟩
      · exact fun e he => ⟨(h2 e he).1, (zU_a _ _ _ _ (by omega)).trans (h2 e he).2⟩
      · exact fun e e0 e1 => (zU_a _ _ _ _ (by omega)).trans (h3 e e0 e1)
    · refine zV_aload (pc := 81) dX9_film_81 rfl ?_
      refine zV_iload (pc := 83) dX9_film_83 rfl ?_
      refine zV_iload (pc := 85) dX9_film_85 rfl ?_
      refine zV_ivn (pc := 87) (ci := 6) dX9_film_87 klX9_264 mX6_put ⟨by decide, rfl⟩ rfl ⟨Nat.zero_le _, Nat.zero_le _⟩ (kX6_put hS1 hs (by omega) (by omega) (by omega)) (zOb_sh hs) rfl rfl (Nat.le_of_ble_eq_true rfl) (fun M2 q => ?_)
      rw [if_pos (by omega), h1] at q
      have q9 : zct8 1 (zfq (fun d => zct (zTc M) (M 1 2) d t) i) = zfq (fun d => zct (zTc M) (M 1 2) d t) i := by unfold zct8 z16; rw [if_neg (by decide), if_pos rfl]; omega
      rw [q9] at q
      subst q
      have f2 : zFr (zSf s) M (zU M1 (45 + 2 * s) i (zfq (fun d => zct (zTc M) (M 1 2) d t) i)) := zFr.up h4 (Or.inr rfl)
      have hRN := hR.sf hs f2
      have eN := zct_ag (t := t) hRN.2.1 hRN.2.2.1 (by omega)
      refine zV_iinc (pc := 90) dX9_film_90 rfl rfl ?_
      try dsimp only [List.set_cons_succ, List.set_cons_zero]
      refine zV_aload_n (pc := 93) (i := 0) dX9_film_93 rfl rfl ?_
      refine zV_aload (pc := 94) dX9_film_94 rfl ?_
      refine zV_iload (pc := 96) dX9_film_96 rfl ?_
      refine zV_iconst (pc := 98) dX9_film_98 ?_
      refine zV_iadd (pc := 99) dX9_film_99 ?_
      refine zV_ivp (pc := 100) (ci := 9) dX9_film_100 klX9_149 mX9_nextComing ⟨by decide, rfl⟩ rfl ⟨Nat.zero_le _, Nat.zero_le _⟩ (kX9_nextComing hRN.1 (by rw [hRN.2.1.1]; exact ht) (by omega)) (zOb_of rfl) rfl rfl (Nat.le_of_ble_eq_true rfl) ?_
      rw [eN]
      show zV _ _ _ (100 + 3) _ [zi (zfq (fun d => zct (zTc M) (M 1 2) d t) (i + 1))] _ _ _ _
      refine zV_istore (pc := 103) dX9_film_103 rfl ?_
      try dsimp only [List.set_cons_succ, List.set_cons_zero]
      refine zV_goto (pc := 105) (tgt := 69) dX9_film_105 (by decide) ?_
      refine ih (i + 1) _ (by omega) ((zU_a _ _ _ _ (by omega)).trans h1) ?_ ?_ f2
      · intro e he
        by_cases e2 : e = i
        · subst e2
          exact ⟨by omega, zU_s _ _ _ _⟩
        · exact ⟨(h2 e (by omega)).1, (zU_j _ _ _ _ (by omega)).trans (h2 e (by omega)).2⟩
      · intro e e0 e1
        exact (zU_j _ _ _ _ (by omega)).trans (h3 e (by omega) e1)
set_option maxRecDepth 20000 in
set_option maxHeartbeats 2000000 in
theorem kX9_film (hR : zRo M) {s t n : Int} (hs : -2147483648 ≤ s ∧ s ≤ 2147483647) (ht : -2147483648 ≤ t ∧ t ≤ 2147483647) (hn : -2147483648 ≤ n ∧ n ≤ 2147483647) : zK g yX9_film xX9_film [zr 0, zi s, zi t, zi n] 75 M (fun w N' M1 => N' = 75 ∧ ((¬ ((0 ≤ s ∧ s < 4) ∧ (0 ≤ t ∧ t < M 1 1) ∧ (1 ≤ n ∧ n ≤ 20)) ∧ w = some (zi (-2)) ∧ M1 = M) ∨ (((0 ≤ s ∧ s < 4) ∧ (0 ≤ t ∧ t < M 1 1) ∧ (1 ≤ n ∧ n ≤ 20)) ∧ ∃ c : Nat, w = some (zi (c : Int)) ∧ (c : Int) ≤ n ∧ (∀ e : Nat, e < c → zfq (fun d => zct (zTc M) (M 1 2) d t) e ≠ -1 ∧ M1 (45 + 2 * s) e = zfq (fun d => zct (zTc M) (M 1 2) d t) e) ∧ ((c : Int) < n → zfq (fun d => zct (zTc M) (M 1 2) d t) c = -1) ∧ (∀ e : Int, (c : Int) ≤ e → e < 40 → M1 (45 + 2 * s) e = 0) ∧ M1 (44 + 2 * s) 0 = 1 ∧ M1 (44 + 2 * s) 1 = c ∧ zFr (zSf s) M M1))) := by
  refine zK_of (ls0 := [zr 0, zi s, zi t, zi n, (3, 0), (3, 0), (3, 0), (3, 0)]) (by decide) rfl (by decide) rfl (Nat.le_of_ble_eq_true rfl) ?_
  obtain ⟨hS, hW, hU, hh⟩ := id hR
  have hn := hW.1
  refine zV_iload_n (pc := 0) (i := 1) dX9_film_0 rfl rfl ?_
  refine zV_isp (pc := 1) dX9_film_1 klX9_228 mX9_isSheet rfl ⟨Nat.zero_le _, Nat.zero_le _⟩ (kX9_isSheet (by omega)) rfl rfl (Nat.le_of_ble_eq_true rfl) ?_
  refine zV_if_eqb (pc := 4) (tgt := 28) dX9_film_4 (by decide) (fun c_4 => ?_) (fun c_4 => ?_)
  · refine zV_bipush (pc := 28) dX9_film_28 (by decide) ?_
    refine zV_iret (pc := 30) dX9_film_30 trivial ⟨Nat.zero_le _, Nat.zero_le _⟩ ?_
    exact ⟨rfl, Or.inl ⟨by omega, rfl, rfl⟩⟩
  · refine zV_aload_n (pc := 7) (i := 0) dX9_film_7 rfl rfl ?_
    refine zV_get (pc := 8) (j := 0) dX9_film_8 flX9_12 (zOb_of rfl) rfl hS.e0_0 ?_
    refine zV_iload_n (pc := 11) (i := 2) dX9_film_11 rfl rfl ?_
    refine zV_ivp (pc := 12) (ci := 5) dX9_film_12 klX9_100 mX5_has ⟨by decide, rfl⟩ rfl ⟨Nat.zero_le _, Nat.zero_le _⟩ (kX5_has hS hn (by omega)) (zOb_of rfl) rfl rfl (Nat.le_of_ble_eq_true rfl) ?_
    refine zV_if_eqb (pc := 15) (tgt := 28) dX9_film_15 (by decide) (fun c_15 => ?_) (fun c_15 => ?_)
    · refine zV_bipush (pc := 28) dX9_film_28 (by decide) ?_
      refine zV_iret (pc := 30) dX9_film_30 trivial ⟨Nat.zero_le _, Nat.zero_le _⟩ ?_
      exact ⟨rfl, Or.inl ⟨by omega, rfl, rfl⟩⟩
    · refine zV_iload_n (pc := 18) (i := 3) dX9_film_18 rfl rfl ?_
      refine zV_iconst (pc := 19) dX9_film_19 ?_
      refine zV_bipush (pc := 20) dX9_film_20 (by decide) ?_
      refine zV_isp (pc := 22) dX9_film_22 klX9_119 mX9_within rfl ⟨Nat.zero_le _, Nat.zero_le _⟩ (kX9_within (by omega) (by omega) (by omega)) rfl rfl (Nat.le_of_ble_eq_true rfl) ?_
      refine zV_if_neb (pc := 25) (tgt := 31) dX9_film_25 (by decide) (fun c_25 => ?_) (fun c_25 => ?_)
      · refine zV_aload_n (pc := 31) (i := 0) dX9_film_31 rfl rfl ?_
        refine zV_get (pc := 32) (j := 10) dX9_film_32 flX9_55 (zOb_of rfl) rfl hS.e0_10 ?_
        refine zV_iload_n (pc := 35) (i := 1) dX9_film_35 rfl rfl ?_
        refine zV_aald (pc := 36) dX9_film_36 (zAr_of rfl : zAr 75 25 4 4) ⟨rfl, rfl⟩ (by omega) (hS.sh (by omega)) ?_
        refine zV_astore (pc := 37) dX9_film_37 rfl ?_
        try dsimp only [List.set_cons_succ, List.set_cons_zero]
        refine zV_aload (pc := 39) dX9_film_39 rfl ?_
        refine zV_iconst (pc := 41) dX9_film_41 ?_
        refine zV_iload_n (pc := 42) (i := 3) dX9_film_42 rfl rfl ?_
        refine zV_ivn (pc := 43) (ci := 6) dX9_film_43 klX9_262 mX6_become ⟨by decide, rfl⟩ rfl ⟨Nat.zero_le _, Nat.zero_le _⟩ (kX6_become hS (by omega)) (zOb_sh (by omega)) rfl rfl (Nat.le_of_ble_eq_true rfl) (fun M1 q => ?_)
        obtain ⟨q0, q1, q2, q3⟩ := q
        have hRM := hR.sf (s := s) (by omega) q3
        have hA1 := hRM.2.1
        have eC := zct_ag (t := t) hA1 hRM.2.2.1 (by omega)
        refine zV_aload_n (pc := 46) (i := 0) dX9_film_46 rfl rfl ?_
        refine zV_get (pc := 47) (j := 0) dX9_film_47 flX9_12 (zOb_of rfl) rfl hRM.1.1.e0_0 ?_
        refine zV_get (pc := 50) (j := 0) dX9_film_50 flX9_108 (zOb_of rfl) rfl hRM.1.1.e1_0 ?_
        refine zV_iload_n (pc := 53) (i := 2) dX9_film_53 rfl rfl ?_
        refine zV_aald (pc := 54) dX9_film_54 (zAr_of rfl : zAr 75 2 2 6) ⟨rfl, rfl⟩ (by omega) (hRM.1.1.th (by omega)) ?_
        refine zV_astore (pc := 55) dX9_film_55 rfl ?_
        try dsimp only [List.set_cons_succ, List.set_cons_zero]
        refine zV_iconst (pc := 57) dX9_film_57 ?_
        refine zV_istore (pc := 58) dX9_film_58 rfl ?_
        try dsimp only [List.set_cons_succ, List.set_cons_zero]
        refine zV_aload_n (pc := 60) (i := 0) dX9_film_60 rfl rfl ?_
        refine zV_aload (pc := 61) dX9_film_61 rfl ?_
        refine zV_iconst (pc := 63) dX9_film_63 ?_
        refine zV_ivp (pc := 64) (ci := 9) dX9_film_64 klX9_149 mX9_nextComing ⟨by decide, rfl⟩ rfl ⟨Nat.zero_le _, Nat.zero_le _⟩ (kX9_nextComing hRM.1 (by rw [hA1.1]; omega) (by omega)) (zOb_of rfl) rfl rfl (Nat.le_of_ble_eq_true rfl) ?_
        rw [eC]
        refine zV_istore (pc := 67) dX9_film_67 rfl ?_
        try dsimp only [List.set_cons_succ, List.set_cons_zero]
        refine zV.mono (kX9_fiL hR (s := s) (t := t) (n := n) (by omega) (by omega) (by omega) n.toNat 0 M1 (by omega) q0 (fun e he => absurd he (Nat.not_lt_zero _)) (fun e e0 e1 => q2 e e0 e1) q3) ?_
        exact fun _ _ _ h => ⟨h.1, Or.inr ⟨by omega, h.2⟩⟩
      · refine zV_bipush (pc := 28) dX9_film_28 (by decide) ?_
        refine zV_iret (pc := 30) dX9_film_30 trivial ⟨Nat.zero_le _, Nat.zero_le _⟩ ?_
        exact ⟨rfl, Or.inl ⟨by omega, rfl, rfl⟩⟩
end
