/-! THE CLASS: image, back, sheet, cell (printed by wip/whole/p25.py) -/
section
variable {g : zG} {N : Nat} {M : zM}
set_option maxRecDepth 20000 in
set_option maxHeartbeats 2000000 in
theorem kX5_beIL (hS : zSt M) : ∀ (k : Nat) (i : Int) (M1 : zM), i + k = 6 → 0 ≤ i → (∀ e : Int, 0 ≤ e → e < i → ∀ f : Int, 0 ≤ f → f ≤ 3 → M1 (11 + e) f = M (3 + e) f) → zFr (fun a _ => 11 ≤ a ∧ a < 17) M M1 → zV g xX5_become (zPn 75 (fun M1 => M1 9 1 = M 1 1 ∧ M1 9 2 = M 1 2 ∧ M1 9 3 = M 1 3 ∧ (∀ e : Int, 0 ≤ e → e < 6 → ∀ f : Int, 0 ≤ f → f ≤ 3 → M1 (11 + e) f = M (3 + e) f) ∧ zFr (fun a j => (11 ≤ a ∧ a < 17) ∨ (a = 9 ∧ (j = 1 ∨ j = 2 ∨ j = 3))) M M1)) 2 [zr 9, zr 1, zi i] [] 75 M1 0 0 := by
  intro k
  induction k with
  | zero =>
    intro i M1 h0 h1 h2 h3
    refine zV_iload_n (pc := 2) (i := 2) dX5_become_2 rfl rfl ?_
    refine zV_aload_n (pc := 3) (i := 0) dX5_become_3 rfl rfl ?_
    refine zV_get (pc := 4) (j := 0) dX5_become_4 flX5_11 (zOb_of rfl) rfl ((h3 _ _ (by omega)).trans hS.e9_0) ?_
    refine zV_alen (pc := 7) dX5_become_7 (zAr_of rfl : zAr 75 10 2 6) ?_
    refine zV_icmp_ge (pc := 8) (tgt := 32) dX5_become_8 (by decide) (by omega) (fun c_8 => ?_) (fun c_8 => absurd (by omega) c_8)
    refine zV_aload_n (pc := 32) (i := 0) dX5_become_32 rfl rfl ?_
    refine zV_aload_n (pc := 33) (i := 1) dX5_become_33 rfl rfl ?_
    refine zV_get (pc := 34) (j := 1) dX5_become_34 flX5_18 (zOb_of rfl) rfl rfl ?_
    refine zV_put (pc := 37) (j := 1) dX5_become_37 flX5_18 rfl (zOb_of rfl) rfl trivial ?_
    refine zV_aload_n (pc := 40) (i := 0) dX5_become_40 rfl rfl ?_
    refine zV_aload_n (pc := 41) (i := 1) dX5_become_41 rfl rfl ?_
    refine zV_get (pc := 42) (j := 2) dX5_become_42 flX5_38 (zOb_of rfl) rfl rfl ?_
    refine zV_put (pc := 45) (j := 2) dX5_become_45 flX5_38 rfl (zOb_of rfl) rfl trivial ?_
    refine zV_aload_n (pc := 48) (i := 0) dX5_become_48 rfl rfl ?_
    refine zV_aload_n (pc := 49) (i := 1) dX5_become_49 rfl rfl ?_
    refine zV_get (pc := 50) (j := 3) dX5_become_50 flX5_41 (zOb_of rfl) rfl rfl ?_
    refine zV_put (pc := 53) (j := 3) dX5_become_53 flX5_41 rfl (zOb_of rfl) rfl trivial ?_
    refine zV_vret (pc := 56) dX5_become_56 trivial ⟨Nat.zero_le _, Nat.zero_le _⟩ ?_
    refine ⟨rfl, rfl, ?_, ?_, ?_, ?_, ?_⟩
    · exact h3 1 1 (by omega)
    · exact h3 1 2 (by omega)
    · exact h3 1 3 (by omega)
    · intro e e0 e1 f f0 f1
      exact (zU_a _ _ _ _ (by omega)).trans ((zU_a _ _ _ _ (by omega)).trans ((zU_a _ _ _ _ (by omega)).trans (h2 e e0 (by omega) f f0 f1)))
    · exact ((h3.mono (fun a j e => Or.inl e)).up (Or.inr ⟨rfl, Or.inl rfl⟩)).up (Or.inr ⟨rfl, Or.inr (Or.inl rfl)⟩) |>.up (Or.inr ⟨rfl, Or.inr (Or.inr rfl)⟩)
  | succ k ih =>
    intro i M1 h0 h1 h2 h3
    refine zV_iload_n (pc := 2) (i := 2) dX5_become_2 rfl rfl ?_
    refine zV_aload_n (pc := 3) (i := 0) dX5_become_3 rfl rfl ?_
    refine zV_get (pc := 4) (j := 0) dX5_become_4 flX5_11 (zOb_of rfl) rfl ((h3 _ _ (by omega)).trans hS.e9_0) ?_
    refine zV_alen (pc := 7) dX5_become_7 (zAr_of rfl : zAr 75 10 2 6) ?_
    refine zV_icmp_ge (pc := 8) (tgt := 32) dX5_become_8 (by decide) (by omega) (fun c_8 => absurd c_8 (by omega)) (fun c_8 => ?_)
    refine zV_aload_n (pc := 11) (i := 0) dX5_become_11 rfl rfl ?_
    refine zV_get (pc := 12) (j := 0) dX5_become_12 flX5_11 (zOb_of rfl) rfl ((h3 _ _ (by omega)).trans hS.e9_0) ?_
    refine zV_iload_n (pc := 15) (i := 2) dX5_become_15 rfl rfl ?_
    refine zV_aald (pc := 16) dX5_become_16 (zAr_of rfl : zAr 75 10 2 6) ⟨rfl, rfl⟩ (by omega) ((h3 _ _ (by omega)).trans (hS.tk (by omega))) ?_
    refine zV_aload_n (pc := 17) (i := 1) dX5_become_17 rfl rfl ?_
    refine zV_get (pc := 18) (j := 0) dX5_become_18 flX5_11 (zOb_of rfl) rfl ((h3 _ _ (by omega)).trans hS.e1_0) ?_
    refine zV_iload_n (pc := 21) (i := 2) dX5_become_21 rfl rfl ?_
    refine zV_aald (pc := 22) dX5_become_22 (zAr_of rfl : zAr 75 2 2 6) ⟨rfl, rfl⟩ (by omega) ((h3 _ _ (by omega)).trans (hS.th (by omega))) ?_
    refine zV_ivn (pc := 23) (ci := 8) dX5_become_23 klX5_34 mX8_become ⟨by decide, rfl⟩ rfl ⟨Nat.zero_le _, Nat.zero_le _⟩ (kX8_become (zOb_tk (by omega)) (zOb_th (by omega))) (zOb_tk (by omega)) rfl rfl (Nat.le_of_ble_eq_true rfl) (fun M2 q => ?_)
    obtain ⟨q0, q1, q2, q3, q4⟩ := q
    refine zV_iinc (pc := 26) dX5_become_26 rfl rfl ?_
    try dsimp only [List.set_cons_succ, List.set_cons_zero]
    refine zV_goto (pc := 29) (tgt := 2) dX5_become_29 (by decide) ?_
    refine ih (i + 1) M2 (by omega) (by omega) ?_ (h3.tr (q4.mono (fun a j e => by omega)))
    · intro e e0 e1 f f0 f1
      by_cases e2 : e = i
      · subst e2
        have hb : ∀ f, M1 (3 + e) f = M (3 + e) f := fun f => h3 _ _ (by omega)
        rcases (show f = 0 ∨ f = 1 ∨ f = 2 ∨ f = 3 by omega) with rfl | rfl | rfl | rfl
        · exact q0.trans (hb _)
        · exact q1.trans (hb _)
        · exact q2.trans (hb _)
        · exact q3.trans (hb _)
      · exact (q4 _ _ (by omega)).trans (h2 e e0 (by omega) f f0 f1)
set_option maxRecDepth 20000 in
set_option maxHeartbeats 2000000 in
theorem kX5_becomeI (hS : zSt M) : zK g yX5_become xX5_become [zr 9, zr 1] 75 M (zPn 75 (fun M1 => M1 9 1 = M 1 1 ∧ M1 9 2 = M 1 2 ∧ M1 9 3 = M 1 3 ∧ (∀ e : Int, 0 ≤ e → e < 6 → ∀ f : Int, 0 ≤ f → f ≤ 3 → M1 (11 + e) f = M (3 + e) f) ∧ zFr (fun a j => (11 ≤ a ∧ a < 17) ∨ (a = 9 ∧ (j = 1 ∨ j = 2 ∨ j = 3))) M M1)) := by
  refine zK_of (ls0 := [zr 9, zr 1, (3, 0)]) (by decide) rfl (by decide) rfl (Nat.le_of_ble_eq_true rfl) ?_
  refine zV_iconst (pc := 0) dX5_become_0 ?_
  refine zV_istore_n (pc := 1) (i := 2) dX5_become_1 rfl rfl ?_
  try dsimp only [List.set_cons_succ, List.set_cons_zero]
  exact kX5_beIL hS 6 0 M (by omega) (by omega) (fun e e0 e1 => absurd e0 (by omega)) zFr.rf
set_option maxRecDepth 20000 in
set_option maxHeartbeats 2000000 in
theorem kX5_beBL (hS : zSt M) : ∀ (k : Nat) (i : Int) (M1 : zM), i + k = 6 → 0 ≤ i → (∀ e : Int, 0 ≤ e → e < i → ∀ f : Int, 0 ≤ f → f ≤ 3 → M1 (3 + e) f = M (11 + e) f) → zFr (fun a _ => 3 ≤ a ∧ a < 9) M M1 → zV g xX5_become (zPn 75 (fun M1 => M1 1 1 = M 9 1 ∧ M1 1 2 = M 9 2 ∧ M1 1 3 = M 9 3 ∧ (∀ e : Int, 0 ≤ e → e < 6 → ∀ f : Int, 0 ≤ f → f ≤ 3 → M1 (3 + e) f = M (11 + e) f) ∧ zFr (fun a j => (3 ≤ a ∧ a < 9) ∨ (a = 1 ∧ (j = 1 ∨ j = 2 ∨ j = 3))) M M1)) 2 [zr 1, zr 9, zi i] [] 75 M1 0 0 := by
  intro k
  induction k with
  | zero =>
    intro i M1 h0 h1 h2 h3
    refine zV_iload_n (pc := 2) (i := 2) dX5_become_2 rfl rfl ?_
    refine zV_aload_n (pc := 3) (i := 0) dX5_become_3 rfl rfl ?_
    refine zV_get (pc := 4) (j := 0) dX5_become_4 flX5_11 (zOb_of rfl) rfl ((h3 _ _ (by omega)).trans hS.e1_0) ?_
    refine zV_alen (pc := 7) dX5_become_7 (zAr_of rfl : zAr 75 2 2 6) ?_
    refine zV_icmp_ge (pc := 8) (tgt := 32) dX5_become_8 (by decide) (by omega) (fun c_8 => ?_) (fun c_8 => absurd (by omega) c_8)
    refine zV_aload_n (pc := 32) (i := 0) dX5_become_32 rfl rfl ?_
    refine zV_aload_n (pc := 33) (i := 1) dX5_become_33 rfl rfl ?_
    refine zV_get (pc := 34) (j := 1) dX5_become_34 flX5_18 (zOb_of rfl) rfl rfl ?_
    refine zV_put (pc := 37) (j := 1) dX5_become_37 flX5_18 rfl (zOb_of rfl) rfl trivial ?_
    refine zV_aload_n (pc := 40) (i := 0) dX5_become_40 rfl rfl ?_
    refine zV_aload_n (pc := 41) (i := 1) dX5_become_41 rfl rfl ?_
    refine zV_get (pc := 42) (j := 2) dX5_become_42 flX5_38 (zOb_of rfl) rfl rfl ?_
    refine zV_put (pc := 45) (j := 2) dX5_become_45 flX5_38 rfl (zOb_of rfl) rfl trivial ?_
    refine zV_aload_n (pc := 48) (i := 0) dX5_become_48 rfl rfl ?_
    refine zV_aload_n (pc := 49) (i := 1) dX5_become_49 rfl rfl ?_
    refine zV_get (pc := 50) (j := 3) dX5_become_50 flX5_41 (zOb_of rfl) rfl rfl ?_
    refine zV_put (pc := 53) (j := 3) dX5_become_53 flX5_41 rfl (zOb_of rfl) rfl trivial ?_
    refine zV_vret (pc := 56) dX5_become_56 trivial ⟨Nat.zero_le _, Nat.zero_le _⟩ ?_
    refine ⟨rfl, rfl, ?_, ?_, ?_, ?_, ?_⟩
    · exact h3 9 1 (by omega)
    · exact h3 9 2 (by omega)
    · exact h3 9 3 (by omega)
    · intro e e0 e1 f f0 f1
      exact (zU_a _ _ _ _ (by omega)).trans ((zU_a _ _ _ _ (by omega)).trans ((zU_a _ _ _ _ (by omega)).trans (h2 e e0 (by omega) f f0 f1)))
    · exact ((h3.mono (fun a j e => Or.inl e)).up (Or.inr ⟨rfl, Or.inl rfl⟩)).up (Or.inr ⟨rfl, Or.inr (Or.inl rfl)⟩) |>.up (Or.inr ⟨rfl, Or.inr (Or.inr rfl)⟩)
  | succ k ih =>
    intro i M1 h0 h1 h2 h3
    refine zV_iload_n (pc := 2) (i := 2) dX5_become_2 rfl rfl ?_
    refine zV_aload_n (pc := 3) (i := 0) dX5_become_3 rfl rfl ?_
    refine zV_get (pc := 4) (j := 0) dX5_become_4 flX5_11 (zOb_of rfl) rfl ((h3 _ _ (by omega)).trans hS.e1_0) ?_
    refine zV_alen (pc := 7) dX5_become_7 (zAr_of rfl : zAr 75 2 2 6) ?_
    refine zV_icmp_ge (pc := 8) (tgt := 32) dX5_become_8 (by decide) (by omega) (fun c_8 => absurd c_8 (by omega)) (fun c_8 => ?_)
    refine zV_aload_n (pc := 11) (i := 0) dX5_become_11 rfl rfl ?_
    refine zV_get (pc := 12) (j := 0) dX5_become_12 flX5_11 (zOb_of rfl) rfl ((h3 _ _ (by omega)).trans hS.e1_0) ?_
    refine zV_iload_n (pc := 15) (i := 2) dX5_become_15 rfl rfl ?_
    refine zV_aald (pc := 16) dX5_become_16 (zAr_of rfl : zAr 75 2 2 6) ⟨rfl, rfl⟩ (by omega) ((h3 _ _ (by omega)).trans (hS.th (by omega))) ?_
    refine zV_aload_n (pc := 17) (i := 1) dX5_become_17 rfl rfl ?_
    refine zV_get (pc := 18) (j := 0) dX5_become_18 flX5_11 (zOb_of rfl) rfl ((h3 _ _ (by omega)).trans hS.e9_0) ?_
    refine zV_iload_n (pc := 21) (i := 2) dX5_become_21 rfl rfl ?_
    refine zV_aald (pc := 22) dX5_become_22 (zAr_of rfl : zAr 75 10 2 6) ⟨rfl, rfl⟩ (by omega) ((h3 _ _ (by omega)).trans (hS.tk (by omega))) ?_
    refine zV_ivn (pc := 23) (ci := 8) dX5_become_23 klX5_34 mX8_become ⟨by decide, rfl⟩ rfl ⟨Nat.zero_le _, Nat.zero_le _⟩ (kX8_become (zOb_th (by omega)) (zOb_tk (by omega))) (zOb_th (by omega)) rfl rfl (Nat.le_of_ble_eq_true rfl) (fun M2 q => ?_)
    obtain ⟨q0, q1, q2, q3, q4⟩ := q
    refine zV_iinc (pc := 26) dX5_become_26 rfl rfl ?_
    try dsimp only [List.set_cons_succ, List.set_cons_zero]
    refine zV_goto (pc := 29) (tgt := 2) dX5_become_29 (by decide) ?_
    refine ih (i + 1) M2 (by omega) (by omega) ?_ (h3.tr (q4.mono (fun a j e => by omega)))
    · intro e e0 e1 f f0 f1
      by_cases e2 : e = i
      · subst e2
        have hb : ∀ f, M1 (11 + e) f = M (11 + e) f := fun f => h3 _ _ (by omega)
        rcases (show f = 0 ∨ f = 1 ∨ f = 2 ∨ f = 3 by omega) with rfl | rfl | rfl | rfl
        · exact q0.trans (hb _)
        · exact q1.trans (hb _)
        · exact q2.trans (hb _)
        · exact q3.trans (hb _)
      · exact (q4 _ _ (by omega)).trans (h2 e e0 (by omega) f f0 f1)
set_option maxRecDepth 20000 in
set_option maxHeartbeats 2000000 in
theorem kX5_becomeB (hS : zSt M) : zK g yX5_become xX5_become [zr 1, zr 9] 75 M (zPn 75 (fun M1 => M1 1 1 = M 9 1 ∧ M1 1 2 = M 9 2 ∧ M1 1 3 = M 9 3 ∧ (∀ e : Int, 0 ≤ e → e < 6 → ∀ f : Int, 0 ≤ f → f ≤ 3 → M1 (3 + e) f = M (11 + e) f) ∧ zFr (fun a j => (3 ≤ a ∧ a < 9) ∨ (a = 1 ∧ (j = 1 ∨ j = 2 ∨ j = 3))) M M1)) := by
  refine zK_of (ls0 := [zr 1, zr 9, (3, 0)]) (by decide) rfl (by decide) rfl (Nat.le_of_ble_eq_true rfl) ?_
  refine zV_iconst (pc := 0) dX5_become_0 ?_
  refine zV_istore_n (pc := 1) (i := 2) dX5_become_1 rfl rfl ?_
  try dsimp only [List.set_cons_succ, List.set_cons_zero]
  exact kX5_beBL hS 6 0 M (by omega) (by omega) (fun e e0 e1 => absurd e0 (by omega)) zFr.rf
set_option maxRecDepth 20000 in
set_option maxHeartbeats 2000000 in
theorem kX9_image (hR : zRo M) : zK g yX9_image xX9_image [zr 0] 75 M (zPq (zi (M 1 1)) 75 (fun M1 => M1 0 2 = 1 ∧ M1 9 1 = M 1 1 ∧ M1 9 2 = M 1 2 ∧ M1 9 3 = M 1 3 ∧ (∀ e : Int, 0 ≤ e → e < 6 → ∀ f : Int, 0 ≤ f → f ≤ 3 → M1 (11 + e) f = M (3 + e) f) ∧ zFr (fun a j => ((11 ≤ a ∧ a < 17) ∨ (a = 9 ∧ (j = 1 ∨ j = 2 ∨ j = 3))) ∨ (a = 0 ∧ j = 2)) M M1)) := by
  refine zK_of (ls0 := [zr 0]) (by decide) rfl (by decide) rfl (Nat.le_of_ble_eq_true rfl) ?_
  obtain ⟨hS, hW, hU, hh⟩ := id hR
  have hn := hW.1
  refine zV_aload_n (pc := 0) (i := 0) dX9_image_0 rfl rfl ?_
  refine zV_get (pc := 1) (j := 1) dX9_image_1 flX9_16 (zOb_of rfl) rfl hS.e0_1 ?_
  refine zV_aload_n (pc := 4) (i := 0) dX9_image_4 rfl rfl ?_
  refine zV_get (pc := 5) (j := 0) dX9_image_5 flX9_12 (zOb_of rfl) rfl hS.e0_0 ?_
  refine zV_ivn (pc := 8) (ci := 5) dX9_image_8 klX9_274 mX5_become ⟨by decide, rfl⟩ rfl ⟨Nat.zero_le _, Nat.zero_le _⟩ (kX5_becomeI hS) (zOb_of rfl) rfl rfl (Nat.le_of_ble_eq_true rfl) (fun M1 q => ?_)
  obtain ⟨q0, q1, q2, q3, q4⟩ := q
  refine zV_aload_n (pc := 11) (i := 0) dX9_image_11 rfl rfl ?_
  refine zV_iconst (pc := 12) dX9_image_12 ?_
  refine zV_put (pc := 13) (j := 2) dX9_image_13 flX9_277 rfl (zOb_of rfl) rfl (Or.inr rfl) ?_
  refine zV_aload_n (pc := 16) (i := 0) dX9_image_16 rfl rfl ?_
  refine zV_get (pc := 17) (j := 1) dX9_image_17 flX9_16 (zOb_of rfl) rfl ((q4 0 1 (by omega)).trans hS.e0_1) ?_
  refine zV_get (pc := 20) (j := 1) dX9_image_20 flX9_281 (zOb_of rfl) rfl q0 ?_
  refine zV_iret (pc := 23) dX9_image_23 trivial ⟨Nat.zero_le _, Nat.zero_le _⟩ ?_
  exact ⟨rfl, rfl, rfl, q0, q1, q2, fun e e0 e1 f f0 f1 => (zU_a _ _ _ _ (by omega)).trans (q3 e e0 e1 f f0 f1), (q4.mono (fun a j e => Or.inl e)).up (Or.inr ⟨rfl, rfl⟩)⟩
set_option maxRecDepth 20000 in
set_option maxHeartbeats 2000000 in
theorem kX9_back (hR : zRo M) (hi : M 0 2 = 0 ∨ M 0 2 = 1) : zK g yX9_back xX9_back [zr 0] 75 M (fun w N' M1 => N' = 75 ∧ ((M 0 2 = 0 ∧ w = some (zi (-3)) ∧ M1 = M) ∨ (M 0 2 = 1 ∧ w = some (zi (M 9 1)) ∧ M1 1 1 = M 9 1 ∧ M1 1 2 = M 9 2 ∧ M1 1 3 = M 9 3 ∧ (∀ e : Int, 0 ≤ e → e < 6 → ∀ f : Int, 0 ≤ f → f ≤ 3 → M1 (3 + e) f = M (11 + e) f) ∧ zFr (fun a j => (3 ≤ a ∧ a < 9) ∨ (a = 1 ∧ (j = 1 ∨ j = 2 ∨ j = 3))) M M1))) := by
  refine zK_of (ls0 := [zr 0]) (by decide) rfl (by decide) rfl (Nat.le_of_ble_eq_true rfl) ?_
  obtain ⟨hS, hW, hU, hh⟩ := id hR
  have hn := hW.1
  refine zV_aload_n (pc := 0) (i := 0) dX9_back_0 rfl rfl ?_
  refine zV_get (pc := 1) (j := 2) dX9_back_1 flX9_277 (zOb_of rfl) rfl rfl ?_
  refine zV_if_ne (pc := 4) (tgt := 10) dX9_back_4 (by decide) (by omega) (fun c_4 => ?_) (fun c_4 => ?_)
  · refine zV_aload_n (pc := 10) (i := 0) dX9_back_10 rfl rfl ?_
    refine zV_get (pc := 11) (j := 0) dX9_back_11 flX9_12 (zOb_of rfl) rfl hS.e0_0 ?_
    refine zV_aload_n (pc := 14) (i := 0) dX9_back_14 rfl rfl ?_
    refine zV_get (pc := 15) (j := 1) dX9_back_15 flX9_16 (zOb_of rfl) rfl hS.e0_1 ?_
    refine zV_ivn (pc := 18) (ci := 5) dX9_back_18 klX9_274 mX5_become ⟨by decide, rfl⟩ rfl ⟨Nat.zero_le _, Nat.zero_le _⟩ (kX5_becomeB hS) (zOb_of rfl) rfl rfl (Nat.le_of_ble_eq_true rfl) (fun M1 q => ?_)
    obtain ⟨q0, q1, q2, q3, q4⟩ := q
    refine zV_aload_n (pc := 21) (i := 0) dX9_back_21 rfl rfl ?_
    refine zV_get (pc := 22) (j := 0) dX9_back_22 flX9_12 (zOb_of rfl) rfl ((q4 0 0 (by omega)).trans hS.e0_0) ?_
    refine zV_get (pc := 25) (j := 1) dX9_back_25 flX9_281 (zOb_of rfl) rfl q0 ?_
    refine zV_iret (pc := 28) dX9_back_28 trivial ⟨Nat.zero_le _, Nat.zero_le _⟩ ?_
    exact ⟨rfl, Or.inr ⟨by omega, rfl, q0, q1, q2, q3, q4⟩⟩
  · refine zV_bipush (pc := 7) dX9_back_7 (by decide) ?_
    refine zV_iret (pc := 9) dX9_back_9 trivial ⟨Nat.zero_le _, Nat.zero_le _⟩ ?_
    exact ⟨rfl, Or.inl ⟨by omega, rfl, rfl⟩⟩
end
