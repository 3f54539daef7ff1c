/-! THE CLASS: what writes things; the row of days filled, one thing shifted (printed by wip/whole/p12.py) -/
/-- what the class's askings write: no fact of anything told -/
def zSc (a j : Int) : Prop := a = 20 ∨ a = 22 ∨ a = 23 ∨ a = 24 ∨ a = 54 ∨ a = 55 ∨ a = 56 ∨ a = 57 ∨ (a = 21 ∧ 1 ≤ j ∧ j ≤ 3) ∨ (a = 52 ∧ j = 5) ∨ (a = 53 ∧ j = 2)
theorem zSc_st : ∀ q ∈ zstL, ¬ zSc q.1 q.2.1 := by
  unfold zSc
  decide
/-- two memories have the same things -/
def zAg (M M1 : zM) : Prop := M1 1 1 = M 1 1 ∧ ∀ i f : Int, 0 ≤ i → i < 6 → M1 (3 + i) f = M (3 + i) f
theorem zAg.rf {M : zM} : zAg M M := ⟨rfl, fun _ _ _ _ => rfl⟩
theorem zAg.of {M M1 : zM} (h : zFr zSc M M1) : zAg M M1 := ⟨h _ _ (by unfold zSc; omega), fun i f h0 h1 => h _ _ (by unfold zSc; omega)⟩
theorem zWf.ag {M M1 : zM} (h : zAg M M1) (hW : zWf M) : zWf M1 := by
  refine ⟨by rw [h.1]; exact hW.1, fun i h0 h1 => ?_⟩
  rw [h.1] at h1
  have hq := hW.2 i h0 h1
  have hn := hW.1
  unfold zTh at hq ⊢
  rw [h.2 i 0 h0 (by omega), h.2 i 1 h0 (by omega), h.2 i 2 h0 (by omega), h.2 i 3 h0 (by omega)]
  exact hq
/-- who comes on d, of the class's things -/
noncomputable def zsn (M : zM) (h d : Int) : Int := zso (zct (zTc M) h d) (M 1 1).toNat
theorem zsn_ag {M M1 : zM} (h : zAg M M1) (hn : 0 ≤ M 1 1 ∧ M 1 1 ≤ 6) (ho d : Int) : zsn M1 ho d = zsn M ho d := by
  unfold zsn
  rw [h.1]
  refine zso_c (fun i h0 h1 => ?_)
  unfold zct zTc
  rw [h.2 i 0 h0 (by omega), h.2 i 1 h0 (by omega), h.2 i 2 h0 (by omega), h.2 i 3 h0 (by omega)]
theorem zsn_r {M : zM} (hn : 0 ≤ M 1 1 ∧ M 1 1 ≤ 6) (ho d : Int) : 0 ≤ zsn M ho d ∧ zsn M ho d < 64 := by
  have h := zso_r (zct (zTc M) ho d) (M 1 1).toNat
  have h2 : (2 : Int) ^ (M 1 1).toNat ≤ 64 := by
    rcases (show M 1 1 = 0 ∨ M 1 1 = 1 ∨ M 1 1 = 2 ∨ M 1 1 = 3 ∨ M 1 1 = 4 ∨ M 1 1 = 5 ∨ M 1 1 = 6 by omega) with q | q | q | q | q | q | q <;> rw [q] <;> decide
  unfold zsn
  omega
section
variable {g : zG} {N : Nat} {M : zM}
set_option maxRecDepth 20000 in
set_option maxHeartbeats 2000000 in
theorem kX8_become {a b : Int} (hO : zOb N a 8) (hO2 : zOb N b 8) : zK g yX8_become xX8_become [zr a, zr b] N M (zPn N (fun M1 => M1 a 0 = M b 0 ∧ M1 a 1 = M b 1 ∧ M1 a 2 = M b 2 ∧ M1 a 3 = M b 3 ∧ zFr (fun x _ => x = a) M M1)) := by
  refine zK_of (ls0 := [zr a, zr b]) (by decide) rfl (by decide) rfl (Nat.le_of_ble_eq_true rfl) ?_
  refine zV_aload_n (pc := 0) (i := 0) dX8_become_0 rfl rfl ?_
  refine zV_aload_n (pc := 1) (i := 1) dX8_become_1 rfl rfl ?_
  refine zV_get (pc := 2) (j := 0) dX8_become_2 flX8_9 hO2 rfl rfl ?_
  refine zV_put (pc := 5) (j := 0) dX8_become_5 flX8_9 rfl hO rfl trivial ?_
  refine zV_aload_n (pc := 8) (i := 0) dX8_become_8 rfl rfl ?_
  refine zV_aload_n (pc := 9) (i := 1) dX8_become_9 rfl rfl ?_
  refine zV_get (pc := 10) (j := 1) dX8_become_10 flX8_18 hO2 rfl rfl ?_
  refine zV_put (pc := 13) (j := 1) dX8_become_13 flX8_18 rfl hO rfl trivial ?_
  refine zV_aload_n (pc := 16) (i := 0) dX8_become_16 rfl rfl ?_
  refine zV_aload_n (pc := 17) (i := 1) dX8_become_17 rfl rfl ?_
  refine zV_get (pc := 18) (j := 2) dX8_become_18 flX8_15 hO2 rfl rfl ?_
  refine zV_put (pc := 21) (j := 2) dX8_become_21 flX8_15 rfl hO rfl trivial ?_
  refine zV_aload_n (pc := 24) (i := 0) dX8_become_24 rfl rfl ?_
  refine zV_aload_n (pc := 25) (i := 1) dX8_become_25 rfl rfl ?_
  refine zV_get (pc := 26) (j := 3) dX8_become_26 flX8_21 hO2 rfl rfl ?_
  refine zV_put (pc := 29) (j := 3) dX8_become_29 flX8_21 rfl hO rfl trivial ?_
  refine zV_vret (pc := 32) dX8_become_32 trivial ⟨Nat.zero_le _, Nat.zero_le _⟩ ?_
  refine ⟨rfl, rfl, ?_, ?_, ?_, ?_, ?_⟩
  · by_cases hab : b = a <;> simp [zU, hab]
  · by_cases hab : b = a <;> simp [zU, hab]
  · by_cases hab : b = a <;> simp [zU, hab]
  · by_cases hab : b = a <;> simp [zU, hab]
  · refine zFr.up (zFr.up (zFr.up (zFr.up zFr.rf ?_) ?_) ?_) ?_ <;> rfl
set_option maxRecDepth 20000 in
set_option maxHeartbeats 2000000 in
theorem kX8_becomeShifted {a b s : Int} (hO : zOb N a 8) (hO2 : zOb N b 8) (hab : a ≠ b) (hb : 0 ≤ M b 3 ∧ M b 3 ≤ 59) (hs : 0 ≤ s ∧ s ≤ 59) : zK g yX8_becomeShifted xX8_becomeShifted [zr a, zr b, zi s] N M (zPn N (fun M1 => M1 a 0 = M b 0 ∧ M1 a 1 = M b 1 ∧ M1 a 2 = M b 2 ∧ M1 a 3 = (M b 3 + s) % 60 ∧ zFr (fun x _ => x = a) M M1)) := by
  refine zK_of (ls0 := [zr a, zr b, zi s]) (by decide) rfl (by decide) rfl (Nat.le_of_ble_eq_true rfl) ?_
  refine zV_aload_n (pc := 0) (i := 0) dX8_becomeShifted_0 rfl rfl ?_
  refine zV_aload_n (pc := 1) (i := 1) dX8_becomeShifted_1 rfl rfl ?_
  refine zV_ivn (pc := 2) (ci := 8) dX8_becomeShifted_2 klX8_24 mX8_become ⟨by decide, rfl⟩ rfl ⟨Nat.zero_le _, Nat.zero_le _⟩ (kX8_become hO hO2) hO rfl rfl (Nat.le_of_ble_eq_true rfl) (fun M1 q => ?_)
  obtain ⟨q0, q1, q2, q3, q4⟩ := q
  refine zV_aload_n (pc := 5) (i := 0) dX8_becomeShifted_5 rfl rfl ?_
  refine zV_aload_n (pc := 6) (i := 0) dX8_becomeShifted_6 rfl rfl ?_
  refine zV_get (pc := 7) (j := 3) dX8_becomeShifted_7 flX8_21 hO rfl q3 ?_
  refine zV_iload_n (pc := 10) (i := 2) dX8_becomeShifted_10 rfl rfl ?_
  refine zV_iadd (pc := 11) dX8_becomeShifted_11 ?_
  refine zV_bipush (pc := 12) dX8_becomeShifted_12 (by decide) ?_
  refine zV_iremN (pc := 14) dX8_becomeShifted_14 (by omega) (by omega) ?_
  refine zV_put (pc := 15) (j := 3) dX8_becomeShifted_15 flX8_21 rfl hO rfl trivial ?_
  refine zV_vret (pc := 18) dX8_becomeShifted_18 trivial ⟨Nat.zero_le _, Nat.zero_le _⟩ ?_
  exact ⟨rfl, rfl, by simp [zU, q0], by simp [zU, q1], by simp [zU, q2], by simp [zU], zFr.up q4 rfl⟩
set_option maxRecDepth 20000 in
set_option maxHeartbeats 2000000 in
theorem kX0_fillL (hS : zSt M) (hW : zWf M) {h : Int} (hh : 0 ≤ h ∧ h ≤ 127) : ∀ (k : Nat) (d : Int) (M1 : zM), d + k = 400 → 0 ≤ d → M1 52 5 = h → (∀ e : Int, 0 ≤ e → e < d → M1 57 e = zsn M h e) → zFr (fun a j => (a = 52 ∧ j = 5) ∨ a = 57) M M1 → zV g xX0_fill (zPn 75 (fun M1 => M1 52 5 = h ∧ zCo M1 (zsn M h) ∧ zFr (fun a j => (a = 52 ∧ j = 5) ∨ a = 57) M M1)) 7 [zr 52, zi h, zi d] [] 75 M1 0 0 := by
  intro k
  induction k with
  | zero =>
    intro d M1 h0 h1 h2 h3 h4
    have hn := hW.1
    have hA : zAg M M1 := zAg.of (h4.mono (fun a j q => by unfold zSc; omega))
    have hS1 : zSt M1 := hS.fr (h4.mono (fun a j q => by unfold zSc; omega)) zSc_st
    have hW1 : zWf M1 := hW.ag hA
    refine zV_iload_n (pc := 7) (i := 2) dX0_fill_7 rfl rfl ?_
    refine zV_sipush (pc := 8) dX0_fill_8 (by decide) ?_
    refine zV_icmp_ge (pc := 11) (tgt := 38) dX0_fill_11 (by decide) (by omega) (fun c_11 => ?_) (fun c_11 => absurd (by omega) c_11)
    refine zV_vret (pc := 38) dX0_fill_38 trivial ⟨Nat.zero_le _, Nat.zero_le _⟩ ?_
    exact ⟨rfl, rfl, h2, fun e e0 e1 => h3 e e0 (by omega), h4⟩
  | succ k ih =>
    intro d M1 h0 h1 h2 h3 h4
    have hn := hW.1
    have hA : zAg M M1 := zAg.of (h4.mono (fun a j q => by unfold zSc; omega))
    have hS1 : zSt M1 := hS.fr (h4.mono (fun a j q => by unfold zSc; omega)) zSc_st
    have hW1 : zWf M1 := hW.ag hA
    refine zV_iload_n (pc := 7) (i := 2) dX0_fill_7 rfl rfl ?_
    refine zV_sipush (pc := 8) dX0_fill_8 (by decide) ?_
    refine zV_icmp_ge (pc := 11) (tgt := 38) dX0_fill_11 (by decide) (by omega) (fun c_11 => absurd c_11 (by omega)) (fun c_11 => ?_)
    refine zV_aload_n (pc := 14) (i := 0) dX0_fill_14 rfl rfl ?_
    refine zV_get (pc := 15) (j := 4) dX0_fill_15 flX0_25 (zOb_of rfl) rfl hS1.e52_4 ?_
    refine zV_iload_n (pc := 18) (i := 2) dX0_fill_18 rfl rfl ?_
    refine zV_aload_n (pc := 19) (i := 0) dX0_fill_19 rfl rfl ?_
    refine zV_get (pc := 20) (j := 0) dX0_fill_20 flX0_29 (zOb_of rfl) rfl hS1.e52_0 ?_
    refine zV_iload_n (pc := 23) (i := 2) dX0_fill_23 rfl rfl ?_
    refine zV_aload_n (pc := 24) (i := 0) dX0_fill_24 rfl rfl ?_
    refine zV_get (pc := 25) (j := 5) dX0_fill_25 flX0_37 (zOb_of rfl) rfl h2 ?_
    refine zV_ivp (pc := 28) (ci := 5) dX0_fill_28 klX0_41 mX5_comers ⟨by decide, rfl⟩ rfl ⟨Nat.zero_le _, Nat.zero_le _⟩ (kX5_comers hS1 hW1 (by omega) hh) (zOb_of rfl) rfl rfl (Nat.le_of_ble_eq_true rfl) ?_
    refine zV_iast (pc := 31) dX0_fill_31 (zAr_of rfl : zAr 75 57 0 400) (by omega) ?_
    refine zV_iinc (pc := 32) dX0_fill_32 rfl rfl ?_
    try dsimp only [List.set_cons_succ, List.set_cons_zero]
    refine zV_goto (pc := 35) (tgt := 7) dX0_fill_35 (by decide) ?_
    refine ih (d + 1) _ (by omega) (by omega) (by rw [zU_a _ _ _ _ (by decide)]; exact h2) (fun e e0 e1 => ?_) (h4.up (Or.inr rfl))
    by_cases he : e = d
    · subst he
      rw [zU_s]
      exact zsn_ag hA hn h e
    · rw [zU_j _ _ _ _ he]
      exact h3 e e0 (by omega)
set_option maxRecDepth 20000 in
set_option maxHeartbeats 2000000 in
theorem kX0_fill (hS : zSt M) (hW : zWf M) {h : Int} (hh : 0 ≤ h ∧ h ≤ 127) : zK g yX0_fill xX0_fill [zr 52, zi h] 75 M (zPn 75 (fun M1 => M1 52 5 = h ∧ zCo M1 (zsn M h) ∧ zFr (fun a j => (a = 52 ∧ j = 5) ∨ a = 57) M M1)) := by
  refine zK_of (ls0 := [zr 52, zi h, (3, 0)]) (by decide) rfl (by decide) rfl (Nat.le_of_ble_eq_true rfl) ?_
  have hn := hW.1
  refine zV_aload_n (pc := 0) (i := 0) dX0_fill_0 rfl rfl ?_
  refine zV_iload_n (pc := 1) (i := 1) dX0_fill_1 rfl rfl ?_
  refine zV_put (pc := 2) (j := 5) dX0_fill_2 flX0_37 rfl (zOb_of rfl) rfl trivial ?_
  refine zV_iconst (pc := 5) dX0_fill_5 ?_
  refine zV_istore_n (pc := 6) (i := 2) dX0_fill_6 rfl rfl ?_
  try dsimp only [List.set_cons_succ, List.set_cons_zero]
  exact kX0_fillL hS hW hh 400 0 _ (by omega) (by omega) (zU_s _ _ _ _) (fun e e0 e1 => absurd e0 (by omega)) (zFr.rf.up (Or.inl ⟨rfl, rfl⟩))
end
