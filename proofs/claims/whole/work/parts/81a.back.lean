/-! STEPS: back (by hand) -/
def zBk (a j : Int) : Prop := (3 ≤ a ∧ a < 9) ∨ (a = 1 ∧ (j = 1 ∨ j = 2 ∨ j = 3)) ∨ (63 ≤ a ∧ a ≤ 65) ∨ (a = 58 ∧ (j = 12 ∨ j = 7 ∨ j = 4))
theorem zBk_st : ∀ q ∈ zstL, ¬ zBk q.1 q.2.1 := by
  unfold zBk
  decide
theorem zJt.bk {M M1 : zM} (h : zJt M) (f : zFr zBk M M1) : zJt M1 := by
  refine h.fr f ?_ ?_ ?_
  all_goals (intros; unfold zBk; omega)
theorem zJs.bk {M M1 : zM} (h : zJs M) (f : zFr zBk M M1) : zJs M1 := by
  refine h.fr f ?_ ?_
  all_goals (intros; unfold zBk; omega)
theorem zJx.bk {M M1 : zM} (h : zJx M) (f : zFr zBk M M1) (h6 : M 58 3 ≤ 6) : zJx M1 := by
  refine h.fr f ?_ ?_ ?_ h6
  all_goals (intros; unfold zBk; omega)
theorem zBk_n : ¬ zBk 58 3 ∧ ¬ zBk 0 4 ∧ ¬ zBk 0 2 ∧ ¬ zBk 58 36 ∧ ¬ zBk 58 37 ∧ ¬ zBk 58 38 ∧ ¬ zBk 9 1 ∧ ¬ zBk 9 2 ∧ ¬ zBk 9 3 := by
  unfold zBk
  refine ⟨?_, ?_, ?_, ?_, ?_, ?_, ?_, ?_, ?_⟩
  all_goals omega
section
variable {g : zG} {M : zM}
theorem s_back (h : zJn M) : zK g yX9_back xX9_back [zr 0] 75 M (zS1 g yX10_back xX10_back [zr 58]) := by
  have hJ := h.1
  obtain ⟨hS, hT, hW, hh, hr, ht, hi, hs, hX⟩ := id hJ
  have n6 := hT.2.1
  refine (kX9_back h.ro (by rcases hi with q | q <;> omega)).mono (fun w N' M1 q => ?_)
  rcases q with ⟨rfl, ⟨c, rfl, rfl⟩ | ⟨c, rfl, c1, c2, c3, c11, f1⟩⟩
  · have d36 : M1 58 36 = -1 := by
      rcases hi with q | q
      · exact q.2
      · omega
    refine ⟨rfl, _, rfl, (kX10_back hS (by omega)).mono (fun w2 N2 M2 q2 => ?_)⟩
    rcases q2 with ⟨rfl, ⟨-, rfl, rfl⟩ | ⟨d, -⟩⟩
    · exact ⟨rfl, rfl, hJ⟩
    · exact absurd d36 d
  · rcases hi with q | ⟨-, i2, i3, i4, i5, i6⟩
    · omega
    have st1 : ∀ q ∈ zstL, ¬ ((fun a j => (3 ≤ a ∧ a < 9) ∨ (a = 1 ∧ (j = 1 ∨ j = 2 ∨ j = 3))) : Int → Int → Prop) q.1 q.2.1 := by decide
    have e36 := f1 58 36 (by omega)
    refine ⟨rfl, _, rfl, (kX10_back (hS.fr f1 st1) (by rw [e36]; omega)).mono (fun w2 N2 M2 q2 => ?_)⟩
    rcases q2 with ⟨rfl, ⟨d, -⟩ | ⟨-, rfl, d12, d7, d4, d63, f2⟩⟩
    · rw [e36] at d
      omega
    · refine ⟨rfl, by rw [e36, i2], ?_⟩
      have f : zFr zBk M M2 := (f1.mono (fun a j y => by unfold zBk; omega)).tr (f2.mono (fun a j y => by unfold zBaM at y; unfold zBk; omega))
      have g2 : ∀ a j : Int, a < 58 → M2 a j = M1 a j := fun a j y => f2 _ _ (by unfold zBaM; omega)
      have a1 : M2 1 1 = M 9 1 := (g2 _ _ (by omega)).trans c1
      have a2 : M2 1 2 = M 9 2 := (g2 _ _ (by omega)).trans c2
      have a3 : M2 1 3 = M 9 3 := (g2 _ _ (by omega)).trans c3
      have b1 : M2 58 12 = M 58 36 := d12.trans e36
      have b2 : M2 58 7 = M 58 37 := d7.trans (f1 58 37 (by omega))
      have b3 : M2 58 4 = M 58 38 := d4.trans (f1 58 38 (by omega))
      have kk : ∀ i : Int, 0 ≤ i → i < M 9 1 → (M2 (3 + i) 0 = M (3 + i) 0 ∧ M2 (3 + i) 1 = M 70 i ∧ M2 (3 + i) 2 = M 70 (6 + i) ∧ M2 (3 + i) 3 = M 70 (12 + i)) ∧ M2 62 i = M 62 i ∧ M2 63 i = M 70 i ∧ M2 64 i = M 70 (6 + i) ∧ M2 65 i = M 70 (12 + i) := by
        intro i i0 i1
        have cc := c11 i i0 (by omega)
        have dd := d63 i i0 (by omega)
        have q := i6 i i0 i1
        rw [f1 70 _ (by omega), f1 70 _ (by omega), f1 70 _ (by omega)] at dd
        exact ⟨⟨(g2 _ _ (by omega)).trans ((cc 0 (by decide) (by decide)).trans q.1), (g2 _ _ (by omega)).trans ((cc 1 (by decide) (by decide)).trans q.2.1.1), (g2 _ _ (by omega)).trans ((cc 2 (by decide) (by decide)).trans q.2.2.1.1), (g2 _ _ (by omega)).trans ((cc 3 (by decide) (by decide)).trans q.2.2.2.1)⟩, f 62 i (by unfold zBk; omega), dd.1, dd.2.1, dd.2.2⟩
      refine ⟨hS.fr f zBk_st, ?_, ?_, ?_, ?_, ht.bk f, ?_, hs.bk f, hX.bk f hr.2.2.2.2⟩
      case refine_1 =>
        unfold zTi
        rw [a1, a2, b1, b2]
        refine ⟨i2.symm, ⟨i3.1, Int.le_trans i3.2 n6.2⟩, i4.1, fun i i0 i1 k' k0 k1 => ?_⟩
        show M2 (3 + i) k' = M2 (62 + k') i
        have q := kk i i0 i1
        have t0 : M (3 + i) 0 = M 62 i := hT.2.2.2 i i0 (by omega) 0 (by decide) (by decide)
        rcases (show k' = 0 ∨ k' = 1 ∨ k' = 2 ∨ k' = 3 by omega) with rfl | rfl | rfl | rfl
        · exact q.1.1.trans (t0.trans q.2.1.symm)
        · exact q.1.2.1.trans q.2.2.1.symm
        · exact q.1.2.2.1.trans q.2.2.2.1.symm
        · exact q.1.2.2.2.trans q.2.2.2.2.symm
      case refine_2 =>
        unfold zWf
        rw [a1]
        refine ⟨⟨i3.1, Int.le_trans i3.2 n6.2⟩, fun i i0 i1 => ?_⟩
        have q := (kk i i0 i1).1
        have tt := (hW.2 i i0 (by omega)).1
        have r := i6 i i0 i1
        unfold zTh
        rw [q.1, q.2.1, q.2.2.1, q.2.2.2]
        exact ⟨tt, r.2.1.2, r.2.2.1.2, r.2.2.2.2⟩
      case refine_3 =>
        rw [a2]
        exact i4.2
      case refine_4 =>
        unfold zJr
        rw [a3, b3, f 58 3 (by unfold zBk; omega), f 0 4 (by unfold zBk; omega)]
        exact ⟨i5.1, i5.2, hr.2.2⟩
      case refine_5 =>
        unfold zJi
        rw [a1, f 0 2 (by unfold zBk; omega), f 58 36 (by unfold zBk; omega), f 58 37 (by unfold zBk; omega), f 58 38 (by unfold zBk; omega), f 58 3 (by unfold zBk; omega), f 9 1 (by unfold zBk; omega), f 9 2 (by unfold zBk; omega), f 9 3 (by unfold zBk; omega)]
        refine Or.inr ⟨c, i2, ⟨i3.1, Int.le_refl _⟩, i4, i5, fun i i0 i1 => ?_⟩
        rw [f (11 + i) 0 (by unfold zBk; omega), f (11 + i) 1 (by unfold zBk; omega), f (11 + i) 2 (by unfold zBk; omega), f (11 + i) 3 (by unfold zBk; omega), (kk i i0 i1).1.1, f 70 _ (by unfold zBk; omega), f 70 _ (by unfold zBk; omega), f 70 _ (by unfold zBk; omega)]
        exact i6 i i0 i1
end
