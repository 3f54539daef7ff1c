/-! WHAT STANDS BETWEEN TWO CALLS (by hand) -/
def zJr (M : zM) : Prop := M 1 3 = M 58 4 ∧ (0 ≤ M 1 3 ∧ M 1 3 < M 58 3) ∧ M 0 4 = M 58 3 ∧ (1 ≤ M 58 3 ∧ M 58 3 ≤ 6)
def zJt (M : zM) : Prop := M 18 1 = M 58 6 ∧ (0 ≤ M 18 1 ∧ M 18 1 ≤ 160) ∧ ∀ j : Int, 0 ≤ j → j < M 18 1 → M 19 j = M 61 j ∧ 0 ≤ M 19 j ∧ M 19 j ≤ 255
/-- the image -/
def zJi (M : zM) : Prop := (M 0 2 = 0 ∧ M 58 36 = -1) ∨ (M 0 2 = 1 ∧ M 58 36 = M 9 1 ∧ (0 ≤ M 9 1 ∧ M 9 1 ≤ M 1 1) ∧ (M 9 2 = M 58 37 ∧ 0 ≤ M 9 2 ∧ M 9 2 ≤ 127) ∧ (M 9 3 = M 58 38 ∧ 0 ≤ M 9 3 ∧ M 9 3 < M 58 3) ∧ ∀ i : Int, 0 ≤ i → i < M 9 1 → M (11 + i) 0 = M (3 + i) 0 ∧ (M (11 + i) 1 = M 70 i ∧ 0 ≤ M 70 i ∧ M 70 i ≤ 9) ∧ (M (11 + i) 2 = M 70 (6 + i) ∧ 1 ≤ M 70 (6 + i) ∧ M 70 (6 + i) ≤ 60) ∧ (M (11 + i) 3 = M 70 (12 + i) ∧ 0 ≤ M 70 (12 + i) ∧ M 70 (12 + i) ≤ 59))
def zJs (M : zM) : Prop := zShs M ∧ zShg M ∧ ∀ s : Int, 0 ≤ s → s < 4 → (M 71 s = 0 ∧ M (44 + 2 * s) 0 = -1) ∨ (M 71 s = 1 ∧ M (44 + 2 * s) 0 = M 72 s ∧ 0 ≤ M 72 s ∧ M (44 + 2 * s) 1 = M 73 s ∧ ∀ i : Int, 0 ≤ i → i < M 73 s → M (45 + 2 * s) i = M 74 (40 * s + i))
/-- text t stands on both sides -/
def zJy (M : zM) (t : Int) (tp : Int → Int) (z : Int) : Prop := zRT M t tp z ∧ ztp tp z ∧ zpF tp z = -1 ∧ M 60 t = z ∧ ∀ j : Int, 0 ≤ j → j < z → M 59 (160 * t + j) = tp j
def zJx (M : zM) : Prop := ∀ t : Int, 0 ≤ t → t < M 58 3 → ∃ (tp : Int → Int) (z : Int), zJy M t tp z
def zJ (M : zM) : Prop := zSt M ∧ zTi M M ∧ zWf M ∧ (0 ≤ M 1 2 ∧ M 1 2 ≤ 127) ∧ zJr M ∧ zJt M ∧ zJi M ∧ zJs M ∧ zJx M
def zFA (a j : Int) : Prop := zSc a j ∨ zMs a j
theorem zFA_st : ∀ q ∈ zstL, ¬ zFA q.1 q.2.1 := by
  unfold zFA zSc zMs
  decide
theorem zRT.fr {C : Int → Int → Prop} {M M1 : zM} {t z : Int} {tp : Int → Int} (h : zRT M t tp z) (f : zFr C M M1) (h1 : ¬ C (26 + 3 * t) 2) (h2 : ∀ j, ¬ C (27 + 3 * t) j) (h3 : ∀ j, ¬ C (28 + 3 * t) j) : zRT M1 t tp z := by
  obtain ⟨⟨a, b⟩, c, d, e⟩ := h
  exact ⟨⟨(f _ _ h1).trans a, fun j x hx => (f _ _ (h2 j)).trans (b j x hx)⟩, (f _ _ (h3 0)).trans c, (f _ _ (h3 1)).trans d, (f _ _ (h3 2)).trans e⟩
theorem zJy.fr {C : Int → Int → Prop} {M M1 : zM} {t z : Int} {tp : Int → Int} (h : zJy M t tp z) (f : zFr C M M1) (h1 : ¬ C (26 + 3 * t) 2) (h2 : ∀ j, ¬ C (27 + 3 * t) j) (h3 : ∀ j, ¬ C (28 + 3 * t) j) (h4 : ¬ C 60 t) (h5 : ∀ j : Int, 0 ≤ j → j < 160 → ¬ C 59 (160 * t + j)) : zJy M1 t tp z :=
  ⟨h.1.fr f h1 h2 h3, h.2.1, h.2.2.1, (f _ _ h4).trans h.2.2.2.1, fun j j0 j1 => (f _ _ (h5 j j0 (by have := h.2.1.1; omega))).trans (h.2.2.2.2 j j0 j1)⟩
/-! each part, by the places it reads -/
theorem zTi.fr {C : Int → Int → Prop} {M M1 : zM} (h : zTi M M) (f : zFr C M M1) (h1 : ¬ C 1 1) (h2 : ¬ C 1 2) (h3 : ¬ C 58 12) (h4 : ¬ C 58 7) (h5 : ∀ i f : Int, 0 ≤ i → i < 6 → 0 ≤ f → f ≤ 3 → ¬ C (3 + i) f ∧ ¬ C (62 + f) i) : zTi M1 M1 := by
  obtain ⟨a, b, c, d⟩ := h
  unfold zTi
  rw [f _ _ h1, f _ _ h2, f _ _ h3, f _ _ h4]
  refine ⟨a, b, c, fun i i0 i1 k k0 k1 => ?_⟩
  have g := h5 i k i0 (by omega) k0 k1
  exact (f _ _ g.1).trans ((d i i0 i1 k k0 k1).trans (f _ _ g.2).symm)
theorem zWf.frm {C : Int → Int → Prop} {M M1 : zM} (h : zWf M) (f : zFr C M M1) (h1 : ¬ C 1 1) (h5 : ∀ i f : Int, 0 ≤ i → i < 6 → 0 ≤ f → f ≤ 3 → ¬ C (3 + i) f) : zWf M1 := by
  obtain ⟨a, b⟩ := h
  unfold zWf
  rw [f _ _ h1]
  refine ⟨a, fun i i0 i1 => ?_⟩
  have t := b i i0 i1
  unfold zTh at t ⊢
  rw [f _ _ (h5 i 0 i0 (by omega) (by decide) (by decide)), f _ _ (h5 i 1 i0 (by omega) (by decide) (by decide)), f _ _ (h5 i 2 i0 (by omega) (by decide) (by decide)), f _ _ (h5 i 3 i0 (by omega) (by decide) (by decide))]
  exact t
theorem zJr.fr {C : Int → Int → Prop} {M M1 : zM} (h : zJr M) (f : zFr C M M1) (h1 : ¬ C 1 3) (h2 : ¬ C 58 4) (h3 : ¬ C 58 3) (h4 : ¬ C 0 4) : zJr M1 := by
  unfold zJr
  rw [f _ _ h1, f _ _ h2, f _ _ h3, f _ _ h4]
  exact h
theorem zJt.fr {C : Int → Int → Prop} {M M1 : zM} (h : zJt M) (f : zFr C M M1) (h1 : ¬ C 18 1) (h2 : ¬ C 58 6) (h3 : ∀ j, ¬ C 19 j ∧ ¬ C 61 j) : zJt M1 := by
  unfold zJt
  rw [f _ _ h1, f _ _ h2]
  refine ⟨h.1, h.2.1, fun j j0 j1 => ?_⟩
  rw [f _ _ (h3 j).1, f _ _ (h3 j).2]
  exact h.2.2 j j0 j1
theorem zJi.fr {C : Int → Int → Prop} {M M1 : zM} (h : zJi M) (f : zFr C M M1) (h1 : ¬ C 0 2 ∧ ¬ C 58 36 ∧ ¬ C 58 37 ∧ ¬ C 58 38 ∧ ¬ C 58 3 ∧ ¬ C 1 1) (h2 : ¬ C 9 1 ∧ ¬ C 9 2 ∧ ¬ C 9 3) (h3 : ∀ i : Int, 0 ≤ i → i < 6 → ¬ C (3 + i) 0 ∧ ¬ C (11 + i) 0 ∧ ¬ C (11 + i) 1 ∧ ¬ C (11 + i) 2 ∧ ¬ C (11 + i) 3) (h4 : ∀ j, ¬ C 70 j) (h5 : 0 ≤ M 1 1 ∧ M 1 1 ≤ 6) : zJi M1 := by
  unfold zJi
  rw [f _ _ h1.1, f _ _ h1.2.1, f _ _ h1.2.2.1, f _ _ h1.2.2.2.1, f _ _ h1.2.2.2.2.1, f _ _ h1.2.2.2.2.2, f _ _ h2.1, f _ _ h2.2.1, f _ _ h2.2.2]
  rcases h with h | ⟨a, b, c, d, e, g⟩
  · exact Or.inl h
  · refine Or.inr ⟨a, b, c, d, e, fun i i0 i1 => ?_⟩
    have q := h3 i i0 (by omega)
    rw [f _ _ q.1, f _ _ q.2.1, f _ _ q.2.2.1, f _ _ q.2.2.2.1, f _ _ q.2.2.2.2, f _ _ (h4 _), f _ _ (h4 _), f _ _ (h4 _)]
    exact g i i0 i1
theorem zShs.fr {C : Int → Int → Prop} {M M1 : zM} (h : zShs M) (f : zFr C M M1) (h1 : ∀ a j : Int, 44 ≤ a → a < 52 → ¬ C a j) : zShs M1 := by
  intro s s0 s1
  have q := h s s0 s1
  rw [f _ _ (h1 (44 + 2 * s) 0 (by omega) (by omega)), f _ _ (h1 (44 + 2 * s) 1 (by omega) (by omega))]
  refine ⟨q.1, q.2.1, fun i i0 i1 => ?_⟩
  rw [f _ _ (h1 (45 + 2 * s) i (by omega) (by omega))]
  exact q.2.2 i i0 i1
theorem zShg.fr {C : Int → Int → Prop} {M M1 : zM} (h : zShg M) (f : zFr C M M1) (h1 : ∀ a j : Int, 71 ≤ a → a < 75 → ¬ C a j) : zShg M1 := by
  refine ⟨fun s s0 s1 => ?_, fun i i0 i1 => ?_⟩
  · rw [f _ _ (h1 71 s (by decide) (by decide)), f _ _ (h1 72 s (by decide) (by decide)), f _ _ (h1 73 s (by decide) (by decide))]
    exact h.1 s s0 s1
  · rw [f _ _ (h1 74 i (by decide) (by decide))]
    exact h.2 i i0 i1
theorem zJs.fr {C : Int → Int → Prop} {M M1 : zM} (h : zJs M) (f : zFr C M M1) (h1 : ∀ a j : Int, 44 ≤ a → a < 52 → ¬ C a j) (h2 : ∀ a j : Int, 71 ≤ a → a < 75 → ¬ C a j) : zJs M1 := by
  refine ⟨h.1.fr f h1, h.2.1.fr f h2, fun s s0 s1 => ?_⟩
  rw [f _ _ (h1 (44 + 2 * s) 0 (by omega) (by omega)), f _ _ (h1 (44 + 2 * s) 1 (by omega) (by omega)), f _ _ (h2 71 s (by decide) (by decide)), f _ _ (h2 72 s (by decide) (by decide)), f _ _ (h2 73 s (by decide) (by decide))]
  rcases h.2.2 s s0 s1 with q | ⟨a, b, c, d, e⟩
  · exact Or.inl q
  · refine Or.inr ⟨a, b, c, d, fun i i0 i1 => ?_⟩
    rw [f _ _ (h1 (45 + 2 * s) i (by omega) (by omega)), f _ _ (h2 74 (40 * s + i) (by decide) (by decide))]
    exact e i i0 i1
theorem zJx.fr {C : Int → Int → Prop} {M M1 : zM} (h : zJx M) (f : zFr C M M1) (h0 : ¬ C 58 3) (h1 : ∀ a j : Int, 26 ≤ a → a < 44 → ¬ C a j) (h2 : ∀ j, ¬ C 59 j ∧ ¬ C 60 j) (h3 : M 58 3 ≤ 6) : zJx M1 := by
  intro t t0 t1
  rw [f _ _ h0] at t1
  obtain ⟨tp, z, q⟩ := h t t0 t1
  exact ⟨tp, z, q.fr f (h1 _ _ (by omega) (by omega)) (fun j => h1 _ _ (by omega) (by omega)) (fun j => h1 _ _ (by omega) (by omega)) (h2 _).2 (fun j _ _ => (h2 _).1)⟩
theorem zJ.fr {M M1 : zM} (h : zJ M) (f : zFr zFA M M1) : zJ M1 := by
  obtain ⟨hS, hT, hW, hh, hr, ht, hi, hs, hx⟩ := h
  refine ⟨hS.fr f zFA_st, hT.fr f ?_ ?_ ?_ ?_ ?_, hW.frm f ?_ ?_, ?_, hr.fr f ?_ ?_ ?_ ?_, ht.fr f ?_ ?_ ?_, hi.fr f ?_ ?_ ?_ ?_ hT.2.1, hs.fr f ?_ ?_, hx.fr f ?_ ?_ ?_ hr.2.2.2.2⟩
  case refine_8 =>
    rw [f 1 2 (by unfold zFA zSc zMs; omega)]
    exact hh
  all_goals (intros; unfold zFA zSc zMs; omega)
