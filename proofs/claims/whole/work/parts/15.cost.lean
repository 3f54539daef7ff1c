/-! THE CLASS: what a day costs (printed by wip/whole/p15.py) -/
noncomputable def zif (q : Prop) (a b : Int) : Int := @ite Int q (Classical.propDecidable q) a b
theorem zif_t {q : Prop} {a b : Int} (h : q) : zif q a b = a := if_pos h
theorem zif_f {q : Prop} {a b : Int} (h : ¬ q) : zif q a b = b := if_neg h
/-- a text of the class is such as texts are read -/
def zTx (M : zM) (t : Int) : Prop := (∀ j : Int, 0 ≤ j → j < 3 → 0 ≤ M (28 + 3 * t) j ∧ M (28 + 3 * t) j ≤ 160) ∧ (M (28 + 3 * t) 0 ≤ M (28 + 3 * t) 1 ∧ M (28 + 3 * t) 1 ≤ M (28 + 3 * t) 2) ∧ ∀ j : Int, 0 ≤ j → j < 160 → -2147483648 ≤ M (27 + 3 * t) j ∧ M (27 + 3 * t) j ≤ 2147483647
theorem zTx.mo {M : zM} {t k : Int} (h : zTx M t) (hk : 0 ≤ k ∧ k < 3) : 0 ≤ zE (M (28 + 3 * t)) (k - 1) ∧ zE (M (28 + 3 * t)) (k - 1) ≤ zE (M (28 + 3 * t)) k ∧ zE (M (28 + 3 * t)) k ≤ 160 := by
  have h0 := h.1 0 (by decide) (by decide)
  have h1 := h.1 1 (by decide) (by decide)
  have h2 := h.1 2 (by decide) (by decide)
  have h3 := h.2.1
  rcases (show k = 0 ∨ k = 1 ∨ k = 2 by omega) with rfl | rfl | rfl
  · show 0 ≤ (0 : Int) ∧ 0 ≤ M (28 + 3 * t) 0 ∧ M (28 + 3 * t) 0 ≤ 160
    omega
  · show 0 ≤ M (28 + 3 * t) 0 ∧ M (28 + 3 * t) 0 ≤ M (28 + 3 * t) 1 ∧ M (28 + 3 * t) 1 ≤ 160
    omega
  · show 0 ≤ M (28 + 3 * t) 1 ∧ M (28 + 3 * t) 1 ≤ M (28 + 3 * t) 2 ∧ M (28 + 3 * t) 2 ≤ 160
    omega
/-- what telling writes -/
def zSx (a j : Int) : Prop := a = 54 ∨ a = 55 ∨ (a = 53 ∧ j = 2)
theorem zSx_st : ∀ q ∈ zstL, ¬ zSx q.1 q.2.1 := by
  unfold zSx
  decide
theorem zSx_c {a j : Int} (h : zSx a j) : zSc a j := by
  unfold zSx at h
  unfold zSc
  omega
theorem zRk_x {a j : Int} (h : zRk a j) : zSx a j := by
  unfold zRk at h
  unfold zSx
  omega
theorem zTx.fr {M M1 : zM} {t : Int} (h : zTx M t) (ht : 0 ≤ t ∧ t < 6) (h1 : zFr zSc M M1) : zTx M1 t ∧ M1 (27 + 3 * t) = M (27 + 3 * t) ∧ M1 (28 + 3 * t) = M (28 + 3 * t) := by
  have e1 : M1 (27 + 3 * t) = M (27 + 3 * t) := by
    funext j
    exact h1 _ _ (by unfold zSc; omega)
  have e2 : M1 (28 + 3 * t) = M (28 + 3 * t) := by
    funext j
    exact h1 _ _ (by unfold zSc; omega)
  refine ⟨?_, e1, e2⟩
  unfold zTx
  rw [e1, e2]
  exact h
/-- what the rule tells -/
noncomputable def ztx (M : zM) (k : Int) (nm : Int → Int) : Int := ztl (M (27 + 3 * M 1 3)) (M (28 + 3 * M 1 3)) k nm
theorem ztx_r (M : zM) (k : Int) (nm : Int → Int) : 0 ≤ ztx M k nm ∧ ztx M k nm ≤ 99 := zc99_r _
def zsp (k n v : Int) : Int := if k = 1 then max (v / (n + 1)) 1 else if k = 3 then 2 * max (v / (n + 1)) 1 else if k = 2 ∨ k = 4 then v + 1 else v
theorem zsp_r {k n v : Int} (hn : 0 ≤ n) (hv : 0 ≤ v ∧ v ≤ 99) : 0 ≤ zsp k n v ∧ zsp k n v ≤ 198 := by
  have h1 : v / (n + 1) ≤ v := Int.ediv_le_self _ hv.1
  have h2 : 0 ≤ v / (n + 1) := Int.ediv_nonneg hv.1 (by omega)
  unfold zsp
  repeat' split
  all_goals omega
/-- what a day costs: by what a text tells (part, names), the things' facts, how many things, who comes when -/
noncomputable def zcost (tx : Int → (Int → Int) → Int) (T : Int → Int → Int) (n : Nat) (f : Int → Int) (d : Int) : Int :=
  if f d = 0 then 0 else zsum (fun i => zif (zbt (f d) i) (zsp (T i 0) (T i 1) (tx 0 (znm d i (zpc (f d)) (T i 2) (zra f d.toNat) (T i 1)))) 0) n + (if 2 ≤ zpc (f d) then tx 1 (znm d 0 (zpc (f d)) 0 (zra f d.toNat) 0) else 0)
section
variable {g : zG} {N : Nat} {M : zM}
set_option maxRecDepth 20000 in
set_option maxHeartbeats 2000000 in
theorem kX4_tells (hS : zSt M) {t : Int} (ht : 0 ≤ t ∧ t < 6) {k : Int} (hk : 0 ≤ k ∧ k < 3) {nm : Int → Int} (hN : zNm M nm) (hT : zTx M t) : zK g yX4_tells xX4_tells [zr 53, zr (26 + 3 * t), zi k] 75 M (zPq (zi (ztl (M (27 + 3 * t)) (M (28 + 3 * t)) k nm)) 75 (fun M1 => zFr zRk M M1)) := by
  refine zK_of (ls0 := [zr 53, zr (26 + 3 * t), zi k, (3, 0), (3, 0)]) (by decide) rfl (by decide) rfl (Nat.le_of_ble_eq_true rfl) ?_
  refine zV_aload_n (pc := 0) (i := 0) dX4_tells_0 rfl rfl ?_
  refine zV_iconst (pc := 1) dX4_tells_1 ?_
  refine zV_put (pc := 2) (j := 2) dX4_tells_2 flX4_18 rfl (zOb_of rfl) rfl trivial ?_
  have f1 : zFr zRk M (zU M 53 2 0) := zFr.up zFr.rf (Or.inr ⟨rfl, rfl⟩)
  have h53 : (zU M 53 2 0) 53 2 = 0 := zU_s _ _ _ _
  generalize zU M 53 2 0 = M1 at f1 h53 ⊢
  have hS1 : zSt M1 := hS.fr f1 zRk_st
  have e1 : M1 (27 + 3 * t) = M (27 + 3 * t) := by funext j; exact f1 _ _ (by unfold zRk; omega)
  have e2 : M1 (28 + 3 * t) = M (28 + 3 * t) := by funext j; exact f1 _ _ (by unfold zRk; omega)
  have hm := hT.mo hk
  refine zV_aload_n (pc := 5) (i := 1) dX4_tells_5 rfl rfl ?_
  refine zV_iload_n (pc := 6) (i := 2) dX4_tells_6 rfl rfl ?_
  refine zV_ivp (pc := 7) (ci := 7) dX4_tells_7 klX4_22 mX7_endOf ⟨by decide, rfl⟩ rfl ⟨Nat.zero_le _, Nat.zero_le _⟩ (kX7_endOf hS1 ht (by omega)) (zOb_tx ht) rfl rfl (Nat.le_of_ble_eq_true rfl) ?_
  refine zV_aload_n (pc := 10) (i := 1) dX4_tells_10 rfl rfl ?_
  refine zV_get (pc := 11) (j := 0) dX4_tells_11 flX4_28 (zOb_tx ht) rfl (hS1.tss ht) ?_
  refine zV_alen (pc := 14) dX4_tells_14 (zAr_ts ht) ?_
  rw [e2]
  refine zV_mmin (pc := 15) dX4_tells_15 klX4_31 (by omega) (by decide) ⟨Nat.zero_le _, Nat.zero_le _⟩ (Nat.le_of_ble_eq_true rfl) ?_
  refine zV_istore_n (pc := 18) (i := 3) dX4_tells_18 rfl rfl ?_
  try dsimp only [List.set_cons_succ, List.set_cons_zero]
  refine zV_aload_n (pc := 19) (i := 1) dX4_tells_19 rfl rfl ?_
  refine zV_iload_n (pc := 20) (i := 2) dX4_tells_20 rfl rfl ?_
  refine zV_ivp (pc := 21) (ci := 7) dX4_tells_21 klX4_37 mX7_startOf ⟨by decide, rfl⟩ rfl ⟨Nat.zero_le _, Nat.zero_le _⟩ (kX7_startOf hS1 ht (by omega)) (zOb_tx ht) rfl rfl (Nat.le_of_ble_eq_true rfl) ?_
  refine zV_iconst (pc := 24) dX4_tells_24 ?_
  refine zV_mmax (pc := 25) dX4_tells_25 klX4_40 (by rw [e2]; omega) (by decide) ⟨Nat.zero_le _, Nat.zero_le _⟩ (Nat.le_of_ble_eq_true rfl) ?_
  refine zV_istore (pc := 28) dX4_tells_28 rfl ?_
  try dsimp only [List.set_cons_succ, List.set_cons_zero]
  have a1 : min (zE (M (28 + 3 * t)) k) ((160 : Nat) : Int) = zE (M (28 + 3 * t)) k := by omega
  have a2 : max (zE (M1 (28 + 3 * t)) (k - 1)) 0 = zE (M (28 + 3 * t)) (k - 1) := by rw [e2]; omega
  rw [a1, a2]
  have h := kX4_tellsL (g := g) (M := M) hS ht hk hN hT.1 hT.2.2 (e := zE (M (28 + 3 * t)) k) (by omega) (zE (M (28 + 3 * t)) k - zE (M (28 + 3 * t)) (k - 1)).toNat (zE (M (28 + 3 * t)) (k - 1)) [] M1 (by omega) (by omega) (zSk.nil h53) rfl f1
  exact h
set_option maxRecDepth 20000 in
set_option maxHeartbeats 2000000 in
theorem kX0_rule (hS : zSt M) (hr : 0 ≤ M 1 3 ∧ M 1 3 < 6) : zK g yX0_rule xX0_rule [zr 52] 75 M (zPp (zr (26 + 3 * M 1 3)) 75 M) := by
  refine zK_of (ls0 := [zr 52]) (by decide) rfl (by decide) rfl (Nat.le_of_ble_eq_true rfl) ?_
  refine zV_aload_n (pc := 0) (i := 0) dX0_rule_0 rfl rfl ?_
  refine zV_get (pc := 1) (j := 0) dX0_rule_1 flX0_29 (zOb_of rfl) rfl hS.e52_0 ?_
  refine zV_get (pc := 4) (j := 3) dX0_rule_4 flX0_101 (zOb_of rfl) rfl rfl ?_
  refine zV_if_lt (pc := 7) (tgt := 40) dX0_rule_7 (by decide) (by omega) (fun c_7 => absurd c_7 (by omega)) (fun c_7 => ?_)
  refine zV_aload_n (pc := 10) (i := 0) dX0_rule_10 rfl rfl ?_
  refine zV_get (pc := 11) (j := 0) dX0_rule_11 flX0_29 (zOb_of rfl) rfl hS.e52_0 ?_
  refine zV_get (pc := 14) (j := 3) dX0_rule_14 flX0_101 (zOb_of rfl) rfl rfl ?_
  refine zV_aload_n (pc := 17) (i := 0) dX0_rule_17 rfl rfl ?_
  refine zV_get (pc := 18) (j := 1) dX0_rule_18 flX0_33 (zOb_of rfl) rfl hS.e52_1 ?_
  refine zV_alen (pc := 21) dX0_rule_21 (zAr_of rfl : zAr 75 17 3 6) ?_
  refine zV_icmp_ge (pc := 22) (tgt := 40) dX0_rule_22 (by decide) (by omega) (fun c_22 => absurd c_22 (by omega)) (fun c_22 => ?_)
  refine zV_aload_n (pc := 25) (i := 0) dX0_rule_25 rfl rfl ?_
  refine zV_get (pc := 26) (j := 1) dX0_rule_26 flX0_33 (zOb_of rfl) rfl hS.e52_1 ?_
  refine zV_aload_n (pc := 29) (i := 0) dX0_rule_29 rfl rfl ?_
  refine zV_get (pc := 30) (j := 0) dX0_rule_30 flX0_29 (zOb_of rfl) rfl hS.e52_0 ?_
  refine zV_get (pc := 33) (j := 3) dX0_rule_33 flX0_101 (zOb_of rfl) rfl rfl ?_
  refine zV_aald (pc := 36) dX0_rule_36 (zAr_of rfl : zAr 75 17 3 6) ⟨rfl, rfl⟩ (by omega) (hS.tx hr) ?_
  refine zV_goto (pc := 37) (tgt := 46) dX0_rule_37 (by decide) ?_
  refine zV_aret (pc := 46) dX0_rule_46 (show 0 ≤ 26 + 3 * M 1 3 by omega) ⟨Nat.zero_le _, Nat.zero_le _⟩ ?_
  exact ⟨rfl, rfl, rfl⟩
set_option maxRecDepth 20000 in
set_option maxHeartbeats 2000000 in
theorem kX8_lastingSpends {a : Int} (hO : zOb N a 8) (hk : 0 ≤ M a 0 ∧ M a 0 ≤ 5) (hn : 0 ≤ M a 1 ∧ M a 1 ≤ 9) {v : Int} (hv : 0 ≤ v ∧ v ≤ 99) : zK g yX8_lastingSpends xX8_lastingSpends [zr a, zi v] N M (zPp (zi (max (v / (M a 1 + 1)) 1)) N M) := by
  refine zK_of (ls0 := [zr a, zi v, (3, 0)]) (by decide) rfl (by decide) rfl (Nat.le_of_ble_eq_true rfl) ?_
  refine zV_aload_n (pc := 0) (i := 0) dX8_lastingSpends_0 rfl rfl ?_
  refine zV_get (pc := 1) (j := 1) dX8_lastingSpends_1 flX8_18 hO rfl rfl ?_
  refine zV_iconst (pc := 4) dX8_lastingSpends_4 ?_
  refine zV_iadd (pc := 5) dX8_lastingSpends_5 ?_
  refine zV_istore_n (pc := 6) (i := 2) dX8_lastingSpends_6 rfl rfl ?_
  try dsimp only [List.set_cons_succ, List.set_cons_zero]
  refine zV_iload_n (pc := 7) (i := 2) dX8_lastingSpends_7 rfl rfl ?_
  refine zV_if_le (pc := 8) (tgt := 21) dX8_lastingSpends_8 (by decide) (by omega) (fun c_8 => absurd c_8 (by omega)) (fun c_8 => ?_)
  refine zV_iload_n (pc := 11) (i := 1) dX8_lastingSpends_11 rfl rfl ?_
  refine zV_iload_n (pc := 12) (i := 2) dX8_lastingSpends_12 rfl rfl ?_
  refine zV_idivN (pc := 13) dX8_lastingSpends_13 (by omega) (by omega) ?_
  refine zV_iconst (pc := 14) dX8_lastingSpends_14 ?_
  refine zV_mmax (pc := 15) dX8_lastingSpends_15 klX8_46 (by have := Int.ediv_le_self (b := M a 1 + 1) hv.1; have := Int.ediv_nonneg hv.1 (show 0 ≤ M a 1 + 1 by omega); omega) (by decide) ⟨Nat.zero_le _, Nat.zero_le _⟩ (Nat.le_of_ble_eq_true rfl) ?_
  refine zV_goto (pc := 18) (tgt := 22) dX8_lastingSpends_18 (by decide) ?_
  refine zV_iret (pc := 22) dX8_lastingSpends_22 trivial ⟨Nat.zero_le _, Nat.zero_le _⟩ ?_
  exact ⟨rfl, rfl, rfl⟩
set_option maxRecDepth 20000 in
set_option maxHeartbeats 2000000 in
theorem kX8_spends {a : Int} (hO : zOb N a 8) (hk : 0 ≤ M a 0 ∧ M a 0 ≤ 5) (hn : 0 ≤ M a 1 ∧ M a 1 ≤ 9) {v : Int} (hv : 0 ≤ v ∧ v ≤ 99) : zK g yX8_spends xX8_spends [zr a, zi v] N M (zPp (zi (zsp (M a 0) (M a 1) v)) N M) := by
  refine zK_of (ls0 := [zr a, zi v]) (by decide) rfl (by decide) rfl (Nat.le_of_ble_eq_true rfl) ?_
  refine zV_aload_n (pc := 0) (i := 0) dX8_spends_0 rfl rfl ?_
  refine zV_get (pc := 1) (j := 0) dX8_spends_1 flX8_9 hO rfl rfl ?_
  rcases (show M a 0 = 1 ∨ M a 0 = 2 ∨ M a 0 = 3 ∨ M a 0 = 4 ∨ M a 0 = 0 ∨ M a 0 = 5  by omega) with c_4 | c_4 | c_4 | c_4 | c_4 | c_4
  · refine zV_tin (pc := 4) (tgt := 36) 0 dX8_spends_4 (by omega) (by decide) (by decide) rfl (by decide) ?_
    refine zV_aload_n (pc := 36) (i := 0) dX8_spends_36 rfl rfl ?_
    refine zV_iload_n (pc := 37) (i := 1) dX8_spends_37 rfl rfl ?_
    refine zV_ivp (pc := 38) (ci := 8) dX8_spends_38 klX8_42 mX8_lastingSpends ⟨by decide, rfl⟩ rfl ⟨Nat.zero_le _, Nat.zero_le _⟩ (kX8_lastingSpends hO hk hn hv) hO rfl rfl (Nat.le_of_ble_eq_true rfl) ?_
    refine zV_iret (pc := 41) dX8_spends_41 trivial ⟨Nat.zero_le _, Nat.zero_le _⟩ ?_
    first
      | exact zPe (by rw [c_4]; simp [zsp])
  · refine zV_tin (pc := 4) (tgt := 50) 1 dX8_spends_4 (by omega) (by decide) (by decide) rfl (by decide) ?_
    refine zV_iload_n (pc := 50) (i := 1) dX8_spends_50 rfl rfl ?_
    refine zV_iconst (pc := 51) dX8_spends_51 ?_
    refine zV_iadd (pc := 52) dX8_spends_52 ?_
    refine zV_iret (pc := 53) dX8_spends_53 trivial ⟨Nat.zero_le _, Nat.zero_le _⟩ ?_
    first
      | exact zPe (by rw [c_4]; simp [zsp])
  · refine zV_tin (pc := 4) (tgt := 42) 2 dX8_spends_4 (by omega) (by decide) (by decide) rfl (by decide) ?_
    refine zV_iconst (pc := 42) dX8_spends_42 ?_
    refine zV_aload_n (pc := 43) (i := 0) dX8_spends_43 rfl rfl ?_
    refine zV_iload_n (pc := 44) (i := 1) dX8_spends_44 rfl rfl ?_
    refine zV_ivp (pc := 45) (ci := 8) dX8_spends_45 klX8_42 mX8_lastingSpends ⟨by decide, rfl⟩ rfl ⟨Nat.zero_le _, Nat.zero_le _⟩ (kX8_lastingSpends hO hk hn hv) hO rfl rfl (Nat.le_of_ble_eq_true rfl) ?_
    refine zV_imul (pc := 48) dX8_spends_48 ?_
    refine zV_iret (pc := 49) dX8_spends_49 trivial ⟨Nat.zero_le _, Nat.zero_le _⟩ ?_
    first
      | exact zPe (by rw [c_4]; simp [zsp])
  · refine zV_tin (pc := 4) (tgt := 50) 3 dX8_spends_4 (by omega) (by decide) (by decide) rfl (by decide) ?_
    refine zV_iload_n (pc := 50) (i := 1) dX8_spends_50 rfl rfl ?_
    refine zV_iconst (pc := 51) dX8_spends_51 ?_
    refine zV_iadd (pc := 52) dX8_spends_52 ?_
    refine zV_iret (pc := 53) dX8_spends_53 trivial ⟨Nat.zero_le _, Nat.zero_le _⟩ ?_
    first
      | exact zPe (by rw [c_4]; simp [zsp])
  · refine zV_tout (pc := 4) (tgt := 54) dX8_spends_4 (by omega) (by omega) (by decide) ?_
    refine zV_iload_n (pc := 54) (i := 1) dX8_spends_54 rfl rfl ?_
    refine zV_iret (pc := 55) dX8_spends_55 trivial ⟨Nat.zero_le _, Nat.zero_le _⟩ ?_
    first
      | exact zPe (by rw [c_4]; simp [zsp])
  · refine zV_tout (pc := 4) (tgt := 54) dX8_spends_4 (by omega) (by omega) (by decide) ?_
    refine zV_iload_n (pc := 54) (i := 1) dX8_spends_54 rfl rfl ?_
    refine zV_iret (pc := 55) dX8_spends_55 trivial ⟨Nat.zero_le _, Nat.zero_le _⟩ ?_
    first
      | exact zPe (by rw [c_4]; simp [zsp])
end
