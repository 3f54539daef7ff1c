/-! STEPS: text (by hand) -/
/-- what a call of text reaches, on both sides -/
def zTY (c a j : Int) : Prop := (a = 18 ∧ 1 ≤ j ∧ j ≤ 7) ∨ (a = 26 + 3 * c ∧ j = 2) ∨ a = 27 + 3 * c ∨ a = 28 + 3 * c ∨ (a = 59 ∧ 160 * c ≤ j ∧ j < 160 * c + 160) ∨ (a = 60 ∧ j = c) ∨ (a = 58 ∧ (j = 3 ∨ j = 6)) ∨ (a = 58 ∧ 19 ≤ j ∧ j ≤ 27) ∨ (a = 0 ∧ j = 4)
theorem zTY_a {c a j : Int} (hc : 0 ≤ c ∧ c < 6) (h : (a < 18 ∧ ¬ (a = 0 ∧ j = 4)) ∨ (a = 19) ∨ (44 ≤ a ∧ a ≠ 58 ∧ a ≠ 59 ∧ a ≠ 60) ∨ (a = 58 ∧ (j < 3 ∨ j = 4 ∨ j = 5 ∨ (7 ≤ j ∧ j < 19) ∨ 27 < j))) : ¬ zTY c a j := by
  unfold zTY
  omega
theorem zTY_1 {c a j : Int} (h : zXF c a j ∨ (a = 18 ∧ j = 1)) : zTY c a j := by
  unfold zTY
  rcases h with (h | h | h | h) | h
  · exact Or.inl ⟨h.1, by omega, h.2.2⟩
  · exact Or.inr (Or.inl h)
  · exact Or.inr (Or.inr (Or.inl h))
  · exact Or.inr (Or.inr (Or.inr (Or.inl h)))
  · exact Or.inl ⟨h.1, by omega, by omega⟩
theorem zTY_2 {c a j : Int} (h : zXF c a j ∨ (a = 18 ∧ j = 1) ∨ (a = 0 ∧ j = 4)) : zTY c a j := by
  rcases h with h | h | h
  · exact zTY_1 (Or.inl h)
  · exact zTY_1 (Or.inr h)
  · exact Or.inr (Or.inr (Or.inr (Or.inr (Or.inr (Or.inr (Or.inr (Or.inr h)))))))
theorem zTY_3 {c a j : Int} (h : zTF2 c a j) : zTY c a j := by
  unfold zTY
  rcases h with h | h | h | h
  · exact Or.inr (Or.inr (Or.inr (Or.inr (Or.inl h))))
  · exact Or.inr (Or.inr (Or.inr (Or.inr (Or.inr (Or.inl h)))))
  · exact Or.inr (Or.inr (Or.inr (Or.inr (Or.inr (Or.inr (Or.inl ⟨h.1, Or.inr h.2⟩))))))
  · exact Or.inr (Or.inr (Or.inr (Or.inr (Or.inr (Or.inr (Or.inr (Or.inl h)))))))
theorem zTY_4 {c a j : Int} (h : zTF2 c a j ∨ (a = 58 ∧ j = 3)) : zTY c a j := by
  rcases h with h | h
  · exact zTY_3 h
  · exact Or.inr (Or.inr (Or.inr (Or.inr (Or.inr (Or.inr (Or.inl ⟨h.1, Or.inl h.2⟩))))))
theorem zst_18 : ∀ q ∈ zstL, ¬ ((q.1 = 18 ∧ q.2.1 = 1) ∨ (q.1 = 0 ∧ q.2.1 = 4)) := by decide
theorem zst_58 : ∀ q ∈ zstL, ¬ (q.1 = 58 ∧ q.2.1 = 3) := by decide
theorem zTY_5 {c a j : Int} (h : zXF c a j) : a = 18 ∨ a = 26 + 3 * c ∨ a = 27 + 3 * c ∨ a = 28 + 3 * c := by
  unfold zXF at h
  omega
theorem zJx.ty {M M2 : zM} {c : Int} (hX : zJx M) (hc : M 58 3 = c) (h6 : 0 ≤ c ∧ c < 6) (f : zFr (zTY c) M M2) {t : Int} (t0 : 0 ≤ t) (t1 : t < c) : ∃ (tp : Int → Int) (z : Int), zJy M2 t tp z := by
  obtain ⟨tp, z, q⟩ := hX t t0 (by omega)
  refine ⟨tp, z, q.fr f ?_ (fun j => ?_) (fun j => ?_) ?_ (fun j j0 j1 => ?_)⟩
  all_goals (unfold zTY; omega)
theorem zJi.ty {M M2 : zM} {c : Int} (hi : zJi M) (hc : M 58 3 = c) (h6 : 0 ≤ c ∧ c < 6) (f : zFr (zTY c) M M2) (e3 : c ≤ M2 58 3) (n6 : 0 ≤ M 1 1 ∧ M 1 1 ≤ 6) : zJi M2 := by
  unfold zJi
  rw [f 0 2 (zTY_a h6 (by omega)), f 58 36 (zTY_a h6 (by omega)), f 58 37 (zTY_a h6 (by omega)), f 58 38 (zTY_a h6 (by omega)), f 1 1 (zTY_a h6 (by omega)), f 9 1 (zTY_a h6 (by omega)), f 9 2 (zTY_a h6 (by omega)), f 9 3 (zTY_a h6 (by omega))]
  rcases hi with hi | ⟨a, b, c2, d2, e, q⟩
  · exact Or.inl hi
  · refine Or.inr ⟨a, b, c2, d2, ⟨e.1, e.2.1, by omega⟩, fun i i0 i1 => ?_⟩
    rw [f (11 + i) 0 (zTY_a h6 (by omega)), f (11 + i) 1 (zTY_a h6 (by omega)), f (11 + i) 2 (zTY_a h6 (by omega)), f (11 + i) 3 (zTY_a h6 (by omega)), f (3 + i) 0 (zTY_a h6 (by omega)), f 70 _ (zTY_a h6 (by omega)), f 70 _ (zTY_a h6 (by omega)), f 70 _ (zTY_a h6 (by omega))]
    exact q i i0 i1
theorem zJ.ty {M M2 : zM} {c : Int} (hJ : zJ M) (hc : M 58 3 = c) (h6 : c < 6) (hSt : zSt M2) (f : zFr (zTY c) M M2) (e18 : M2 18 1 = 0) (e58 : M2 58 6 = 0) (e4 : M2 0 4 = M2 58 3) (e3 : M2 58 3 = c ∨ M2 58 3 = c + 1) (hy : M2 58 3 = c + 1 → ∃ (tp : Int → Int) (z : Int), zJy M2 c tp z) : zJ M2 := by
  obtain ⟨hS, hT, hW, hh, hr, ht, hi, hs, hX⟩ := hJ
  have h1 := hr.2.2.2
  have hcc : 0 ≤ c ∧ c < 6 := by omega
  refine ⟨hSt, hT.fr f ?_ ?_ ?_ ?_ ?_, hW.frm f ?_ ?_, ?_, ?_, ⟨e18.trans e58.symm, ?_, fun j j0 j1 => ?_⟩, hi.ty hc hcc f (by omega) hT.2.1, hs.fr f ?_ ?_, fun t t0 t1 => ?_⟩
  case refine_5 => exact fun i k i0 i1 k0 k1 => ⟨zTY_a hcc (by omega), zTY_a hcc (by omega)⟩
  case refine_8 =>
    rw [f 1 2 (zTY_a hcc (by omega))]
    exact hh
  case refine_9 =>
    unfold zJr
    rw [f 1 3 (zTY_a hcc (by omega)), f 58 4 (zTY_a hcc (by omega)), e4]
    have h2 := hr.2.1
    exact ⟨hr.1, ⟨h2.1, by omega⟩, rfl, by omega⟩
  case refine_10 => omega
  case refine_11 => omega
  case refine_14 =>
    by_cases q : t < c
    · exact hX.ty hc hcc f t0 q
    · have et : t = c := by omega
      rw [et]
      exact hy (by omega)
  all_goals (intros; exact zTY_a hcc (by omega))
