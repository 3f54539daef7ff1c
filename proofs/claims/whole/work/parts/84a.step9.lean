/-! STEPS: text (by hand) -/
section
variable {g : zG} {M : zM}
theorem s_text (h : zJn M) : zK g yX9_text xX9_text [zr 0] 75 M (zS1 g yX10_text xX10_text [zr 58]) := by
  have hJ := h.1
  obtain ⟨hS, hT, hW, hh, hr, ht, hi, hs, hX⟩ := id hJ
  have hc : 1 ≤ M 0 4 ∧ M 0 4 ≤ 6 := by rw [hr.2.2.1]; exact hr.2.2.2
  have hn := hr.2.2.1
  have hz := ht.1
  have tp0 : ztp (M 61) (M 18 1) := ⟨ht.2.1, fun j j0 j1 => by have := ht.2.2 j j0 j1; omega⟩
  refine (kX9_text hS hc rfl tp0 (fun j j0 j1 => (ht.2.2 j j0 j1).1)).mono (fun w N' M1 q => ?_)
  rcases q with ⟨rfl, ⟨c, rfl, rfl⟩ | ⟨c, cF, rfl, c18, f1⟩ | ⟨c, cF, rfl, c18, c04, cR, f1⟩⟩
  · refine ⟨rfl, _, rfl, (kX10_text hS hr.2.2.2 hz.symm tp0 h.2.1).mono (fun w2 N2 M2 q2 => ?_)⟩
    rcases q2 with ⟨rfl, ⟨d, rfl, rfl⟩ | ⟨d, -⟩ | ⟨d, -⟩⟩
    · exact ⟨rfl, rfl, hJ⟩
    · omega
    · omega
  · have g1 : ∀ a j : Int, 44 ≤ a → M1 a j = M a j := fun a j y => f1 a j (fun w => by rcases w with w | w; (have q := zTY_5 w; omega); omega)
    have e61 : M1 61 = M 61 := by
      funext j
      exact g1 61 j (by decide)
    have e3 := g1 58 3 (by decide)
    have e6 := g1 58 6 (by decide)
    have S1 : zSt M1 := hS.fr f1 (fun q hq y => y.elim (zXF_st (by omega) q hq) (fun y => zst_18 q hq (Or.inl y)))
    refine ⟨rfl, _, rfl, (kX10_text S1 (by rw [e3]; exact hr.2.2.2) (z := M 18 1) (by rw [e6]; exact hz.symm) (by rw [e61]; exact tp0) (fun j j0 j1 => by rw [g1 _ _ (by decide)]; exact h.2.1 j j0 j1)).mono (fun w2 N2 M2 q2 => ?_)⟩
    rw [e61, e3] at q2
    rcases q2 with ⟨rfl, ⟨d, -⟩ | ⟨d, d6, dF, rfl, f2⟩ | ⟨d, -, dF, -⟩⟩
    · omega
    · have nf : ∀ a j : Int, a < 58 → ¬ zTF2 (M 58 3) a j := fun a j y w => by unfold zTF2 at w; omega
      have e33 : M2 58 3 = M 58 3 := (f2 58 3 (fun w => by unfold zTF2 at w; omega)).trans e3
      have e04 : M2 0 4 = M 0 4 := (f2 0 4 (nf _ _ (by decide))).trans (f1 0 4 (fun w => by rcases w with w | w; (have q := zTY_5 w; omega); omega))
      rw [hn] at f1
      refine ⟨rfl, rfl, hJ.ty rfl d (S1.fr f2 zTF2_st) ((f1.mono (fun a j y => zTY_1 y)).tr (f2.mono (fun a j y => zTY_3 y))) ((f2 18 1 (nf _ _ (by decide))).trans c18) d6 (by rw [e04, e33, hn]) (Or.inl e33) (fun y => by omega)⟩
    · exact absurd dF cF
  · have g1 : ∀ a j : Int, 44 ≤ a → M1 a j = M a j := fun a j y => f1 a j (fun w => by rcases w with w | w; (have q := zTY_5 w; omega); omega)
    have e61 : M1 61 = M 61 := by
      funext j
      exact g1 61 j (by decide)
    have e3 := g1 58 3 (by decide)
    have e6 := g1 58 6 (by decide)
    have S1 : zSt M1 := hS.fr f1 (fun q hq y => y.elim (zXF_st (by omega) q hq) (fun y => zst_18 q hq y))
    refine ⟨rfl, _, rfl, (kX10_text S1 (by rw [e3]; exact hr.2.2.2) (z := M 18 1) (by rw [e6]; exact hz.symm) (by rw [e61]; exact tp0) (fun j j0 j1 => by rw [g1 _ _ (by decide)]; exact h.2.1 j j0 j1)).mono (fun w2 N2 M2 q2 => ?_)⟩
    rw [e61, e3] at q2
    rcases q2 with ⟨rfl, ⟨d, -⟩ | ⟨d, d6, dF, -⟩ | ⟨d, d6, dF, rfl, d3, d60, d59, f2⟩⟩
    · omega
    · exact absurd cF dF
    · have nf : ∀ a j : Int, a < 58 → ¬ (zTF2 (M 58 3) a j ∨ (a = 58 ∧ j = 3)) := fun a j y w => by unfold zTF2 at w; omega
      have a04 : M2 0 4 = M 58 3 + 1 := by
        rw [f2 0 4 (nf _ _ (by decide)), c04, hn]
      rw [hn] at f1 cR
      have h6 := hr.2.2.2
      refine ⟨rfl, by rw [hn], hJ.ty rfl d (S1.fr f2 (fun q hq y => y.elim (zTF2_st q hq) (zst_58 q hq))) ((f1.mono (fun a j y => zTY_2 y)).tr (f2.mono (fun a j y => zTY_4 y))) ((f2 18 1 (nf _ _ (by decide))).trans c18) d6 (by rw [a04, d3]) (Or.inr d3) (fun _ => ⟨M 61, M 18 1, cR.fr f2 (nf _ _ (by omega)) (fun j => nf _ _ (by omega)) (fun j => nf _ _ (by omega)), tp0, cF, d60, d59⟩)⟩
end
