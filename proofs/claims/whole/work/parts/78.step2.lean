/-! STEPS: taken, count, force, diary, rounds (by hand) -/
section
variable {g : zG} {M : zM}
theorem s_taken (h : zJn M) {i k : Int} (hi : -2147483648 ≤ i ∧ i ≤ 2147483647) (hk : -2147483648 ≤ k ∧ k ≤ 2147483647) : zK g yX9_taken xX9_taken [zr 0, zi i, zi k] 75 M (zS1 g yX10_taken xX10_taken [zr 58, zi i, zi k]) := by
  have hJ := h.1
  have hT := hJ.2.1
  refine zS1_q hJ ((kX9_taken h.ro hi hk).mono zPp.q) (fun M1 f J1 => ?_)
  have T := hT.up f
  have W := hJ.2.2.1
  have e : (if 0 ≤ k ∧ k ≤ 5 then (if 0 ≤ i ∧ i < M 1 1 then zif (zun (M (3 + i) 0) k) (M (3 + i) 1) (-13) else -11) else -2) = (if 0 ≤ k ∧ k ≤ 5 then (if 0 ≤ i ∧ i < M1 58 12 then zif (zun (M1 62 i) k) (M1 63 i) (-13) else -11) else -2) := by
    rw [← T.1]
    by_cases c : 0 ≤ k ∧ k ≤ 5
    · rw [if_pos c, if_pos c]
      by_cases d : 0 ≤ i ∧ i < M 1 1
      · rw [if_pos d, if_pos d]
        have a := T.2.2.2 i d.1 d.2 0 (by decide) (by decide)
        have b := T.2.2.2 i d.1 d.2 1 (by decide) (by decide)
        have a : M (3 + i) 0 = M1 62 i := a
        have b : M (3 + i) 1 = M1 63 i := b
        rw [a, b]
      · rw [if_neg d, if_neg d]
    · rw [if_neg c, if_neg c]
  rw [e]
  refine (kX10_taken J1.1 (by rw [← T.1]; exact T.2.1) (fun i i0 i1 => ?_) hi hk).mono zPp.q
  have a : M (3 + i) 0 = M1 62 i := T.2.2.2 i i0 (by rw [T.1]; exact i1) 0 (by decide) (by decide)
  rw [← a]
  exact (W.2 i i0 (by rw [T.1]; exact i1)).1
theorem s_count (h : zJn M) {k : Int} (hk : -2147483648 ≤ k ∧ k ≤ 2147483647) : zK g yX9_count xX9_count [zr 0, zi k] 75 M (zS1 g yX10_count xX10_count [zr 58, zi k]) := by
  have hJ := h.1
  refine zS1_q hJ ((kX9_count hJ.1 hk).mono zPp.q) (fun M1 f J1 => ?_)
  obtain ⟨-, T, -, -, r, t, -⟩ := hJ
  have e : (if k = 0 then M 1 1 else if k = 1 then M 1 2 else if k = 2 then M 0 4 else if k = 3 then M 18 1 else if k = 4 then M 1 3 else -2) = (if k = 0 then M1 58 12 else if k = 1 then M1 58 7 else if k = 2 then M1 58 3 else if k = 3 then M1 58 6 else if k = 4 then M1 58 4 else -2) := by
    rw [T.1, T.2.2.1, r.2.2.1, t.1, r.1, f 58 12 (by unfold zSc; omega), f 58 7 (by unfold zSc; omega), f 58 3 (by unfold zSc; omega), f 58 6 (by unfold zSc; omega), f 58 4 (by unfold zSc; omega)]
  rw [e]
  exact (kX10_count hk).mono zPp.q
theorem s_force (h : zJn M) {t : Int} (ht : -2147483648 ≤ t ∧ t ≤ 2147483647) : zK g yX9_force xX9_force [zr 0, zi t] 75 M (zS1 g yX10_force xX10_force [zr 58, zi t]) := by
  have hJ := h.1
  obtain ⟨hS, hT, hW, hh, hr, htp, hi, hs, hx⟩ := id hJ
  refine (kX9_force hS (by rw [hr.2.2.1]; exact hr.2.2.2) ht).mono (fun w N' M1 q => ?_)
  rcases q with ⟨rfl, ⟨c, rfl, rfl⟩ | ⟨c, rfl, rfl⟩⟩
  · have e3 : zU M 1 3 t 58 3 = M 58 3 := zU_a _ _ _ _ (by decide)
    have e4 : zU M 1 3 t 58 4 = M 58 4 := zU_a _ _ _ _ (by decide)
    refine ⟨rfl, _, rfl, (kX10_force (by rw [e3]; exact hr.2.2.2) ht).mono (fun w2 N2 M2 q2 => ?_)⟩
    rcases q2 with ⟨rfl, ⟨c2, rfl, rfl⟩ | ⟨c2, rfl, rfl⟩⟩
    · refine ⟨rfl, by rw [e4, hr.1], ?_⟩
      have f : zFr (fun a j => (a = 1 ∧ j = 3) ∨ (a = 58 ∧ j = 4)) M (zU (zU M 1 3 t) 58 4 t) := zFr.up (zFr.up zFr.rf (Or.inl ⟨rfl, rfl⟩)) (Or.inr ⟨rfl, rfl⟩)
      refine ⟨hS.fr f (by decide), hT.fr f ?_ ?_ ?_ ?_ ?_, hW.frm f ?_ ?_, ?_, ?_, htp.fr f ?_ ?_ ?_, hi.fr f ?_ ?_ ?_ ?_ hT.2.1, hs.fr f ?_ ?_, hx.fr f ?_ ?_ ?_ hr.2.2.2.2⟩
      case refine_8 =>
        rw [f 1 2 (by omega)]
        exact hh
      case refine_9 =>
        have a1 : zU (zU M 1 3 t) 58 4 t 1 3 = t := (zU_a _ _ _ _ (by decide)).trans (zU_s _ _ _ _)
        have a2 : zU (zU M 1 3 t) 58 4 t 58 4 = t := zU_s _ _ _ _
        unfold zJr
        rw [a1, a2, f 58 3 (by omega), f 0 4 (by omega)]
        have := hr.2.2.1
        exact ⟨rfl, by omega, hr.2.2⟩
      all_goals (intros; omega)
    · exact absurd (by rw [e3]; have := hr.2.2.1; omega) c2
  · refine ⟨rfl, _, rfl, (kX10_force hr.2.2.2 ht).mono (fun w2 N2 M2 q2 => ?_)⟩
    rcases q2 with ⟨rfl, ⟨c2, rfl, rfl⟩ | ⟨c2, rfl, rfl⟩⟩
    · exact absurd (by have := hr.2.2.1; omega) c
    · exact ⟨rfl, rfl, hJ⟩
end
/-! diaries -/
theorem zdo_c {R R' : Int → Int} {m : Int} (h : ∀ j : Int, 0 ≤ j → j < m → R j = R' j) (d : zdo R m) : zdo R' m := by
  intro j j0 j1
  have a := d j j0 j1
  rw [← h j j0 j1]
  refine ⟨a.1, fun p => ?_⟩
  rw [← h (j - 1) (by omega) (by omega)]
  exact a.2 p
theorem zis_c {R R' : Int → Int} {m : Int} {C C' : Int → Prop} (hm : 1 ≤ m) (h : ∀ j : Int, 0 ≤ j → j < m → R j = R' j) (hC : ∀ d, C d ↔ C' d) (d : zis R m C) : zis R' m C' := by
  intro e e0 e1
  rw [← h (m - 1) (by omega) (by omega)] at e1
  rw [← hC]
  refine Iff.trans ?_ (d e e0 e1)
  exact ⟨fun ⟨j, jj, q⟩ => ⟨j, jj, by rw [h j jj.1 jj.2]; exact q⟩, fun ⟨j, jj, q⟩ => ⟨j, jj, by rw [← h j jj.1 jj.2]; exact q⟩⟩
theorem zis_e {R R' : Int → Int} {m : Int} {C C' : Int → Prop} (hm : 1 ≤ m) (h : ∀ j : Int, 0 ≤ j → j < m → R j = R' j) (hC : ∀ d, C d ↔ C' d) : zis R m C ↔ zis R' m C' :=
  ⟨zis_c hm h hC, zis_c hm (fun j j0 j1 => (h j j0 j1).symm) (fun d => (hC d).symm)⟩
section
variable {g : zG} {M : zM}
theorem t_diary {M1 : zM} (T : zTi M M1) (hs : ∀ s : Int, 0 ≤ s → s < 4 → (M1 71 s = 0 ∧ M (44 + 2 * s) 0 = -1) ∨ (M1 71 s = 1 ∧ M (44 + 2 * s) 0 = M1 72 s ∧ 0 ≤ M1 72 s ∧ M (44 + 2 * s) 1 = M1 73 s ∧ ∀ i : Int, 0 ≤ i → i < M1 73 s → M (45 + 2 * s) i = M1 74 (40 * s + i))) {s k t : Int} : zdiA M s k t = zdiG M1 s k t := by
  unfold zdiA zdiG
  refine zif_cc (by rw [T.1]) (fun q => ?_)
  rcases hs s q.1.1 (by omega) with ⟨a, b⟩ | ⟨a, b, c, d, e⟩
  · rw [zif_t b, zif_t a]
  · rw [zif_f (q := M (44 + 2 * s) 0 = -1) (by omega), zif_f (q := M1 71 s = 0) (by omega), d]
    refine zif_cc (and_congr Iff.rfl ⟨zdo_c e, zdo_c (fun j j0 j1 => (e j j0 j1).symm)⟩) (fun q2 => ?_)
    by_cases hk : k = 0
    · rw [if_pos hk, if_pos hk, ← T.1]
      refine zso_c (fun i i0 i1 => ?_)
      exact zis_e q2.1.1 e (fun d => by rw [T.2.2.1, T.ct (by have := T.2.1; omega)])
    · rw [if_neg hk, if_neg hk]
      have tt := q.2.2 (by omega)
      have g1 := T.2.2.2 t tt.1 tt.2
      rw [g1 1 (by decide) (by decide), g1 2 (by decide) (by decide), g1 3 (by decide) (by decide), T.2.2.1]
      exact zso_c (fun i i0 i1 => zis_e q2.1.1 e (fun d => Iff.rfl))
theorem zJs.up {M1 : zM} (h : zJs M) (f : zFr zSc M M1) : ∀ s : Int, 0 ≤ s → s < 4 → (M1 71 s = 0 ∧ M (44 + 2 * s) 0 = -1) ∨ (M1 71 s = 1 ∧ M (44 + 2 * s) 0 = M1 72 s ∧ 0 ≤ M1 72 s ∧ M (44 + 2 * s) 1 = M1 73 s ∧ ∀ i : Int, 0 ≤ i → i < M1 73 s → M (45 + 2 * s) i = M1 74 (40 * s + i)) := by
  intro s s0 s1
  have g : ∀ a j : Int, 58 ≤ a → M1 a j = M a j := fun a j h => f _ _ (by unfold zSc; omega)
  rw [g 71 s (by decide), g 72 s (by decide), g 73 s (by decide)]
  rcases h.2.2 s s0 s1 with q | ⟨a, b, c, d, e⟩
  · exact Or.inl q
  · exact Or.inr ⟨a, b, c, d, fun i i0 i1 => by rw [g 74 _ (by decide)]; exact e i i0 i1⟩
theorem s_diary (h : zJn M) {s k t : Int} (hs : -2147483648 ≤ s ∧ s ≤ 2147483647) (hk : -2147483648 ≤ k ∧ k ≤ 2147483647) (ht : -2147483648 ≤ t ∧ t ≤ 2147483647) : zK g yX9_diary xX9_diary [zr 0, zi s, zi k, zi t] 75 M (zS1 g yX10_diary xX10_diary [zr 58, zi s, zi k, zi t]) := by
  have hJ := h.1
  obtain ⟨tp, z, R2, hx⟩ := hJ.ro2
  have hG := hJ.2.2.2.2.2.2.2.1
  refine zS1_q hJ (kX9_diary h.ro hG.1 hs hk ht) (fun M1 f J1 => ?_)
  rw [t_diary (hJ.2.1.up f) (hG.up f)]
  have U := R2.upc f
  exact (kX10_diary U.1 U.2.1 U.2.2.2 J1.2.2.2.2.2.2.2.1.2.1 hs hk ht).mono zPp.q
end
