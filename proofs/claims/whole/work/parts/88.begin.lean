/-! THE LAW: from its first instruction to its loop (by hand) -/
theorem zmi_lo {M : zM} {a j : Int} (h : a < 58) : zmi M a j = M a j := by
  have e : zmi M a j = zNw M 58 (fun j => zdf (zty 10 j.toNat)) a j := zmdl_fr a j (by unfold zB75; omega)
  rw [e]
  exact zNw_a _ _ _ (by omega)
theorem zJ_0 {M : zM} (hS : zSt M) (hR : zRT M 0 ytc 43) (hv : M 1 1 = 0 ∧ M 1 2 = 0 ∧ M 1 3 = 0 ∧ M 0 2 = 0 ∧ M 0 4 = 1 ∧ M 18 1 = 0) (hsh : ∀ s : Int, 0 ≤ s → s < 4 → M (44 + 2 * s) 0 = -1 ∧ M (44 + 2 * s) 1 = 0 ∧ ∀ i : Int, M (45 + 2 * s) i = 0) : zJ (zmi M) := by
  obtain ⟨v1, v2, v3, v4, v5, v6⟩ := hv
  obtain ⟨⟨w1, w2, w3, w4, w5, w6⟩, w7, w8⟩ := zmi_v (M := M)
  have e1 : zmi M 1 1 = 0 := (zmi_lo (by decide)).trans v1
  have e2 : zmi M 1 2 = 0 := (zmi_lo (by decide)).trans v2
  have e3 : zmi M 1 3 = 0 := (zmi_lo (by decide)).trans v3
  have e4 : zmi M 0 2 = 0 := (zmi_lo (by decide)).trans v4
  have e5 : zmi M 0 4 = 1 := (zmi_lo (by decide)).trans v5
  have e6 : zmi M 18 1 = 0 := (zmi_lo (by decide)).trans v6
  have hT : zRT (zmi M) 0 ytm 48 := by
    have q : zRT M 0 ytm 48 := zRT_0 hR
    exact q.fr (C := fun a _ => 58 ≤ a) (fun a j y => zmi_lo (by omega)) (by omega) (fun j => by omega) (fun j => by omega)
  generalize hg : zmi M = M2 at e1 e2 e3 e4 e5 e6 hT w1 w2 w3 w4 w5 w6 w7 w8 ⊢
  have lo : ∀ a j : Int, a < 58 → M2 a j = M a j := fun a j y => by rw [← hg]; exact zmi_lo y
  have ht : ∀ j : Int, 0 ≤ j → j < 48 → M2 59 j = ytm j := fun j j0 j1 => by rw [← hg]; exact zmi_t j j0 j1
  have hSt : zSt M2 := by
    rw [← hg]
    exact zmdl_st (fun q hq hlt => (zNw_a _ _ _ (by omega)).trans (hS q hq))
  refine ⟨hSt, ⟨e1.trans w1.symm, by omega, e2.trans w2.symm, fun i i0 i1 => by omega⟩, ⟨by omega, fun i i0 i1 => by omega⟩, by omega, ⟨e3.trans w3.symm, by omega, e5.trans w4.symm, by omega⟩, ⟨e6.trans w5.symm, by omega, fun j j0 j1 => by omega⟩, Or.inl ⟨e4, w6⟩, zJs_of (fun s s0 s1 => ?_), fun t t0 t1 => ?_⟩
  · obtain ⟨q1, q2, q3⟩ := hsh s s0 s1
    have p1 : M2 (44 + 2 * s) 0 = -1 := (lo _ _ (by omega)).trans q1
    have p2 : M2 (44 + 2 * s) 1 = 0 := (lo _ _ (by omega)).trans q2
    have p3 : ∀ i : Int, M2 (45 + 2 * s) i = 0 := fun i => (lo _ _ (by omega)).trans (q3 i)
    obtain ⟨x1, x2, x3, -⟩ := w8 s
    unfold zJh
    rw [p1, p2, x1, x2, x3]
    refine ⟨⟨by decide, by decide, fun i i0 i1 => by rw [p3 i]; decide⟩, ⟨Or.inl rfl, by decide, by decide, fun y => absurd y (by decide)⟩, fun e e0 e1 => by rw [(w8 (40 * s + e)).2.2.2]; decide, Or.inl ⟨rfl, rfl⟩⟩
  · have t2 : t = 0 := by omega
    subst t2
    exact ⟨ytm, 48, hT, ytm_t, ytm_F, w7, fun j j0 j1 => by rw [show (160 : Int) * 0 + j = j by omega]; exact ht j j0 j1⟩
section
variable {g : zG}
theorem lw_begin (hL : g.2.2.2.2 301 ≤ 3072) {M0 : zM} (h0 : ∀ q ∈ zstL, 52 ≤ q.1 → M0 q.1 q.2.1 = q.2.2) : zV g xL_law (fun v _ _ => v = some (zi 1)) 0 [zr 1000300, (3, 0), (3, 0), (3, 0)] [] 0 M0 0 0 := by
  refine zV_new (ci := 9) (pc := 0) dL_law_0 (by decide) clL_7 icX9 ncX9 rfl zht_9 (by decide) ⟨Nat.le_of_ble_eq_true rfl, Nat.le_of_ble_eq_true rfl⟩ ?_
  refine zV_dup (pc := 3) dL_law_3 (by decide) ?_
  refine zV_ii (pc := 4) dL_law_4 klL_9 mX9_init rfl ⟨by decide, by decide, Nat.le_of_ble_eq_true rfl, Nat.le_of_ble_eq_true rfl⟩ (kX9_init (fun q hq h52 => (zNw_a _ _ _ (by omega)).trans (h0 q hq h52))) (by decide) rfl rfl (Nat.le_of_ble_eq_true rfl) ?_
  rintro w N1 M1 ⟨rfl, rfl, hS, hR, hv, hsh, -⟩
  refine zV_astore_n (pc := 7) (i := 1) dL_law_7 rfl rfl ?_
  refine zV_new (ci := 10) (pc := 8) dL_law_8 (by decide) clL_10 icX10 ncX10 rfl zht_10 (by decide) ⟨Nat.le_of_ble_eq_true rfl, Nat.le_of_ble_eq_true rfl⟩ ?_
  refine zV_dup (pc := 11) dL_law_11 (by decide) ?_
  refine zV_ii (pc := 12) dL_law_12 klL_12 mX10_init rfl ⟨by decide, by decide, Nat.le_of_ble_eq_true rfl, Nat.le_of_ble_eq_true rfl⟩ kX10_init (by decide) rfl rfl (Nat.le_of_ble_eq_true rfl) ?_
  rintro w N2 M2 ⟨rfl, rfl, rfl⟩
  refine zV_astore_n (pc := 15) (i := 2) dL_law_15 rfl rfl ?_
  refine zV_iconst (pc := 16) dL_law_16 ?_
  refine zV_istore_n (pc := 17) (i := 3) dL_law_17 rfl rfl ?_
  have hJ : zJ (zmi M1) := zJ_0 hS hR ⟨hv.1, hv.2.1, hv.2.2.1, hv.2.2.2.1.trans rfl, hv.2.2.2.2.1, hv.2.2.2.2.2⟩ hsh
  exact lw_loop ⟨Nat.le_of_ble_eq_true rfl, Nat.le_of_ble_eq_true rfl⟩ hL (g.2.2.2.2 301) 0 _ (Int.le_refl _) (by omega) (by omega) hJ
end
