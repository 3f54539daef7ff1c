/-! STEPS: text (by hand) -/
def zTX (c a j : Int) : Prop := (a = 18 ∧ 1 ≤ j ∧ j ≤ 7) ∨ (a = 26 + 3 * c ∧ j = 2) ∨ a = 27 + 3 * c ∨ a = 28 + 3 * c ∨ (a = 59 ∧ 160 * c ≤ j ∧ j < 160 * c + 160) ∨ (a = 60 ∧ j = c) ∨ (a = 58 ∧ j = 6) ∨ (a = 58 ∧ 19 ≤ j ∧ j ≤ 27)
section
variable {g : zG} {M : zM}
theorem s_text (h : zJn M) : zK g yX9_text xX9_text [zr 0] 75 M (zS1 g yX10_text xX10_text [zr 58]) := by
  have hJ := h.1
  obtain ⟨hS, hT, hW, hh, hr, ht, hi, hs, hX⟩ := id hJ
  have hc : 1 ≤ M 0 4 ∧ M 0 4 ≤ 6 := by rw [hr.2.2.1]; exact hr.2.2.2
  have hn := hr.2.2.1
  have hz := ht.1
  have tp0 : ztp (M 61) (M 18 1) := ⟨ht.2.1, fun j j0 j1 => by have := ht.2.2 j j0 j1; omega⟩
  refine (kX9_text hS hc rfl tp0 (fun j j0 j1 => (ht.2.2 j j0 j1).1)).mono (fun w N' M1 q => ?_)
  rcases q with ⟨rfl, ⟨c, rfl, rfl⟩ | ⟨c, cF, rfl, c18, f1⟩ | ⟨c, cF, rfl, c18, c04, cR, f1⟩⟩
  · refine ⟨rfl, _, rfl, (kX10_text hS hr.2.2.2 hz.symm tp0 h.2.1).mono (fun w2 N2 M2 q2 => ?_)⟩
    rcases q2 with ⟨rfl, ⟨d, rfl, rfl⟩ | ⟨d, -⟩ | ⟨d, -⟩⟩
    · exact ⟨rfl, rfl, hJ⟩
    · omega
    · omega
  · have g1 : ∀ a j : Int, 44 ≤ a → M1 a j = M a j := fun a j y => f1 _ _ (by unfold zXF; omega)
    have e61 : M1 61 = M 61 := by
      funext j
      exact g1 61 j (by decide)
    have e3 := g1 58 3 (by decide)
    have e6 := g1 58 6 (by decide)
    have S1 : zSt M1 := hS.fr f1 (fun q hq y => y.elim (zXF_st (by omega) q hq) (fun y => by revert q; decide))
    refine ⟨rfl, _, rfl, (kX10_text S1 (by rw [e3]; exact hr.2.2.2) (z := M 18 1) (by rw [e6]; exact hz.symm) (by rw [e61]; exact tp0) (fun j j0 j1 => by rw [g1 _ _ (by decide)]; exact h.2.1 j j0 j1)).mono (fun w2 N2 M2 q2 => ?_)⟩
    rw [e61, e3] at q2
    rcases q2 with ⟨rfl, ⟨d, -⟩ | ⟨d, d6, dF, rfl, f2⟩ | ⟨d, -, dF, -⟩⟩
    · omega
    · refine ⟨rfl, rfl, ?_⟩
      have f : zFr (zTX (M 58 3)) M M2 := (f1.mono (fun a j y => by rw [hn] at y; unfold zXF at y; unfold zTX; omega)).tr (f2.mono (fun a j y => by unfold zTF2 at y; unfold zTX; omega))
      refine ⟨S1.fr f2 zTF2_st, hT.fr f ?_ ?_ ?_ ?_ ?_, hW.frm f ?_ ?_, ?_, hr.fr f ?_ ?_ ?_ ?_, ?_, hi.fr f ?_ ?_ ?_ ?_ hT.2.1, hs.fr f ?_ ?_, ?_⟩
      case refine_8 =>
        rw [f 1 2 (by unfold zTX; omega)]
        exact hh
      case refine_13 =>
        have a1 : M2 18 1 = 0 := (f2 18 1 (by unfold zTF2; omega)).trans c18
        unfold zJt
        rw [a1, d6]
        exact ⟨rfl, by omega, fun j j0 j1 => by omega⟩
      case refine_20 =>
        intro t t0 t1
        rw [f 58 3 (by unfold zTX; omega)] at t1
        obtain ⟨tp, z, q⟩ := hX t t0 t1
        exact ⟨tp, z, q.fr f (by unfold zTX; omega) (fun j => by unfold zTX; omega) (fun j => by unfold zTX; omega) (by unfold zTX; omega) (fun j j0 j1 => by unfold zTX; omega)⟩
      all_goals (intros; unfold zTX; omega)
    · exact absurd dF cF
  · have g1 : ∀ a j : Int, 44 ≤ a → M1 a j = M a j := fun a j y => f1 _ _ (by unfold zXF; omega)
    have e61 : M1 61 = M 61 := by
      funext j
      exact g1 61 j (by decide)
    have e3 := g1 58 3 (by decide)
    have e6 := g1 58 6 (by decide)
    have S1 : zSt M1 := hS.fr f1 (fun q hq y => y.elim (zXF_st (by omega) q hq) (fun y => by revert q; decide))
    refine ⟨rfl, _, rfl, (kX10_text S1 (by rw [e3]; exact hr.2.2.2) (z := M 18 1) (by rw [e6]; exact hz.symm) (by rw [e61]; exact tp0) (fun j j0 j1 => by rw [g1 _ _ (by decide)]; exact h.2.1 j j0 j1)).mono (fun w2 N2 M2 q2 => ?_)⟩
    rw [e61, e3] at q2
    rcases q2 with ⟨rfl, ⟨d, -⟩ | ⟨d, d6, dF, -⟩ | ⟨d, d6, dF, rfl, d3, d60, d59, f2⟩⟩
    · omega
    · exact absurd cF dF
    · refine ⟨rfl, by rw [hn], ?_⟩
      have f : zFr (fun a j => zTX (M 58 3) a j ∨ (a = 0 ∧ j = 4) ∨ (a = 58 ∧ j = 3)) M M2 := (f1.mono (fun a j y => by rw [hn] at y; unfold zXF at y; unfold zTX; omega)).tr (f2.mono (fun a j y => by unfold zTF2 at y; unfold zTX; omega))
      have S2 : zSt M2 := S1.fr f2 (fun q hq y => y.elim (zTF2_st q hq) (fun y => by revert q; decide))
      have a04 : M2 0 4 = M 58 3 + 1 := by
        rw [f2 0 4 (by unfold zTF2; omega), c04, hn]
      refine ⟨S2, hT.fr f ?_ ?_ ?_ ?_ ?_, hW.frm f ?_ ?_, ?_, ?_, ?_, ?_, hs.fr f ?_ ?_, ?_⟩
      case refine_8 =>
        rw [f 1 2 (by unfold zTX; omega)]
        exact hh
      case refine_9 =>
        unfold zJr
        rw [f 1 3 (by unfold zTX; omega), f 58 4 (by unfold zTX; omega), d3, a04]
        have := hr.2.1
        have := hr.2.2.2
        exact ⟨hr.1, by omega, rfl, by omega⟩
      case refine_10 =>
        have a1 : M2 18 1 = 0 := (f2 18 1 (by unfold zTF2; omega)).trans c18
        unfold zJt
        rw [a1, d6]
        exact ⟨rfl, by omega, fun j j0 j1 => by omega⟩
      case refine_11 =>
        unfold zJi
        rw [f 0 2 (by unfold zTX; omega), f 58 36 (by unfold zTX; omega), f 58 37 (by unfold zTX; omega), f 58 38 (by unfold zTX; omega), f 1 1 (by unfold zTX; omega), f 9 1 (by unfold zTX; omega), f 9 2 (by unfold zTX; omega), f 9 3 (by unfold zTX; omega), d3]
        rcases hi with hi | ⟨a, b, c2, d2, e, q⟩
        · exact Or.inl hi
        · refine Or.inr ⟨a, b, c2, d2, by omega, fun i i0 i1 => ?_⟩
          have n6 := hT.2.1
          rw [f (11 + i) 0 (by unfold zTX; omega), f (11 + i) 1 (by unfold zTX; omega), f (11 + i) 2 (by unfold zTX; omega), f (11 + i) 3 (by unfold zTX; omega), f (3 + i) 0 (by unfold zTX; omega), f 70 _ (by unfold zTX; omega), f 70 _ (by unfold zTX; omega), f 70 _ (by unfold zTX; omega)]
          exact q i i0 i1
      case refine_14 =>
        intro t t0 t1
        rw [d3] at t1
        by_cases e : t = M 58 3
        · subst e
          rw [hn] at cR
          have h6 := hr.2.2.2
          refine ⟨M 61, M 18 1, cR.fr f2 (by unfold zTF2; omega) (fun j => by unfold zTF2; omega) (fun j => by unfold zTF2; omega), tp0, cF, d60, d59⟩
        · obtain ⟨tp, z, q⟩ := hX t t0 (by omega)
          exact ⟨tp, z, q.fr f (by unfold zTX; omega) (fun j => by unfold zTX; omega) (fun j => by unfold zTX; omega) (by unfold zTX; omega) (fun j j0 j1 => by unfold zTX; omega)⟩
      all_goals (intros; unfold zTX; omega)
end
