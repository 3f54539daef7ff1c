/-! STEPS: image, back (by hand) -/
section
variable {g : zG} {M : zM}
theorem s_image (h : zJn M) : zK g yX9_image xX9_image [zr 0] 75 M (zS1 g yX10_image xX10_image [zr 58]) := by
  have hJ := h.1
  obtain ⟨hS, hT, hW, hh, hr, ht, hi, hs, hX⟩ := id hJ
  have n6 := hT.2.1
  refine (kX9_image h.ro).mono (fun w N' M1 q => ?_)
  obtain ⟨rfl, rfl, c2, c91, c92, c93, c11, f1⟩ := q
  have st1 : ∀ q ∈ zstL, ¬ ((fun a j => ((11 ≤ a ∧ a < 17) ∨ (a = 9 ∧ (j = 1 ∨ j = 2 ∨ j = 3))) ∨ (a = 0 ∧ j = 2)) : Int → Int → Prop) q.1 q.2.1 := by decide
  refine ⟨rfl, _, rfl, (kX10_image (hS.fr f1 st1)).mono (fun w2 N2 M2 q2 => ?_)⟩
  obtain ⟨rfl, rfl, d36, d37, d38, d70, f2⟩ := q2
  have e12 := f1 58 12 (by omega)
  have f : zFr (fun a j => (11 ≤ a ∧ a < 17) ∨ (a = 9 ∧ (j = 1 ∨ j = 2 ∨ j = 3)) ∨ (a = 0 ∧ j = 2) ∨ a = 70 ∨ (a = 58 ∧ (36 ≤ j ∧ j ≤ 38))) M M2 := (f1.mono (fun a j y => by omega)).tr (f2.mono (fun a j y => by unfold zImM at y; omega))
  have st2 : ∀ q ∈ zstL, ¬ ((fun a j => (11 ≤ a ∧ a < 17) ∨ (a = 9 ∧ (j = 1 ∨ j = 2 ∨ j = 3)) ∨ (a = 0 ∧ j = 2) ∨ a = 70 ∨ (a = 58 ∧ (36 ≤ j ∧ j ≤ 38))) : Int → Int → Prop) q.1 q.2.1 := by decide
  refine ⟨rfl, by rw [e12, hT.1], ?_⟩
  refine ⟨hS.fr f st2, hT.fr f ?_ ?_ ?_ ?_ ?_, hW.frm f ?_ ?_, ?_, hr.fr f ?_ ?_ ?_ ?_, ht.fr f ?_ ?_ ?_, ?_, hs.fr f ?_ ?_, hX.fr f ?_ ?_ ?_ hr.2.2.2.2⟩
  case refine_8 =>
    rw [f 1 2 (by omega)]
    exact hh
  case refine_16 =>
    have g2 : ∀ a j : Int, (a < 58 ∨ (58 < a ∧ a < 70)) → M2 a j = M1 a j := fun a j y => f2 _ _ (by unfold zImM; omega)
    have a0 : M2 0 2 = 1 := (g2 _ _ (by omega)).trans c2
    have a1 : M2 9 1 = M 1 1 := (g2 _ _ (by omega)).trans c91
    have a2 : M2 9 2 = M 1 2 := (g2 _ _ (by omega)).trans c92
    have a3 : M2 9 3 = M 1 3 := (g2 _ _ (by omega)).trans c93
    have b6 : M2 58 36 = M 58 12 := d36.trans e12
    have b7 : M2 58 37 = M 58 7 := d37.trans (f1 58 7 (by omega))
    have b8 : M2 58 38 = M 58 4 := d38.trans (f1 58 4 (by omega))
    unfold zJi
    rw [a0, a1, a2, a3, b6, b7, b8, f 1 1 (by omega), f 58 3 (by omega)]
    refine Or.inr ⟨rfl, hT.1.symm, by omega, ⟨hT.2.2.1, hh⟩, ⟨hr.1, hr.2.1⟩, fun i i0 i1 => ?_⟩
    have cc := c11 i i0 (by omega)
    have dd := d70 i i0 (by omega)
    have tt := hW.2 i i0 i1
    have T := hT.2.2.2 i i0 i1
    unfold zTh at tt
    have k0 : M2 (11 + i) 0 = M (3 + i) 0 := (g2 _ _ (by omega)).trans (cc 0 (by decide) (by decide))
    have k1 : M2 (11 + i) 1 = M (3 + i) 1 := (g2 _ _ (by omega)).trans (cc 1 (by decide) (by decide))
    have k2 : M2 (11 + i) 2 = M (3 + i) 2 := (g2 _ _ (by omega)).trans (cc 2 (by decide) (by decide))
    have k3 : M2 (11 + i) 3 = M (3 + i) 3 := (g2 _ _ (by omega)).trans (cc 3 (by decide) (by decide))
    have T1 : M (3 + i) 1 = M 63 i := T 1 (by decide) (by decide)
    have T2 : M (3 + i) 2 = M 64 i := T 2 (by decide) (by decide)
    have T3 : M (3 + i) 3 = M 65 i := T 3 (by decide) (by decide)
    have m1 : M2 70 i = M 63 i := dd.1.trans (f1 63 i (by omega))
    have m2 : M2 70 (6 + i) = M 64 i := dd.2.1.trans (f1 64 i (by omega))
    have m3 : M2 70 (12 + i) = M 65 i := dd.2.2.trans (f1 65 i (by omega))
    rw [k0, k1, k2, k3, m1, m2, m3, f (3 + i) 0 (by omega)]
    omega
  all_goals (intros; omega)
end
