/-! STEPS: sheet, cell, copy, film (by hand) -/
/-- what the calls on sheets reach -/
def zHC (a j : Int) : Prop := (44 ≤ a ∧ a < 52 ∧ (a % 2 = 0 → j = 0 ∨ j = 1)) ∨ (71 ≤ a ∧ a < 75)
theorem zHC_st : ∀ q ∈ zstL, ¬ zHC q.1 q.2.1 := by
  unfold zHC
  decide
theorem zJ.hc {M M1 : zM} (h : zJ M) (f : zFr zHC M M1) (hs : zJs M1) : zJ M1 := by
  obtain ⟨hS, hT, hW, hh, hr, ht, hi, -, hX⟩ := h
  refine ⟨hS.fr f zHC_st, hT.fr f ?_ ?_ ?_ ?_ ?_, hW.frm f ?_ ?_, ?_, hr.fr f ?_ ?_ ?_ ?_, ht.fr f ?_ ?_ ?_, hi.fr f ?_ ?_ ?_ ?_ hT.2.1, hs, hX.fr f ?_ ?_ ?_ hr.2.2.2.2⟩
  case refine_8 =>
    rw [f 1 2 (by unfold zHC; omega)]
    exact hh
  all_goals (intros; unfold zHC; omega)
/-- one sheet -/
def zJh (M : zM) (s : Int) : Prop := ((-1 ≤ M (44 + 2 * s) 0 ∧ M (44 + 2 * s) 0 ≤ 2) ∧ (0 ≤ M (44 + 2 * s) 1 ∧ M (44 + 2 * s) 1 ≤ 40) ∧ ∀ i : Int, 0 ≤ i → i < 40 → -2147483648 ≤ M (45 + 2 * s) i ∧ M (45 + 2 * s) i ≤ 2147483647) ∧ ((M 71 s = 0 ∨ M 71 s = 1) ∧ (-1 ≤ M 72 s ∧ M 72 s ≤ 2) ∧ (-2147483648 ≤ M 73 s ∧ M 73 s ≤ 2147483647) ∧ (M 71 s = 1 → 0 ≤ M 72 s ∧ 0 ≤ M 73 s ∧ M 73 s ≤ 40)) ∧ (∀ e : Int, 0 ≤ e → e < 40 → -2147483648 ≤ M 74 (40 * s + e) ∧ M 74 (40 * s + e) ≤ 2147483647) ∧ ((M 71 s = 0 ∧ M (44 + 2 * s) 0 = -1) ∨ (M 71 s = 1 ∧ M (44 + 2 * s) 0 = M 72 s ∧ 0 ≤ M 72 s ∧ M (44 + 2 * s) 1 = M 73 s ∧ ∀ i : Int, 0 ≤ i → i < M 73 s → M (45 + 2 * s) i = M 74 (40 * s + i)))
theorem zJs.h {M : zM} (h : zJs M) {s : Int} (s0 : 0 ≤ s) (s1 : s < 4) : zJh M s := ⟨h.1 s s0 s1, h.2.1.1 s s0 s1, fun e e0 e1 => h.2.1.2 _ (by omega) (by omega), h.2.2 s s0 s1⟩
theorem zJs_of {M : zM} (h : ∀ s : Int, 0 ≤ s → s < 4 → zJh M s) : zJs M := by
  refine ⟨fun s s0 s1 => (h s s0 s1).1, ⟨fun s s0 s1 => (h s s0 s1).2.1, fun i i0 i1 => ?_⟩, fun s s0 s1 => (h s s0 s1).2.2.2⟩
  have q := (h (i / 40) (by omega) (by omega)).2.2.1 (i % 40) (by omega) (by omega)
  rw [show 40 * (i / 40) + i % 40 = i by omega] at q
  exact q
theorem zJh.fr {C : Int → Int → Prop} {M M1 : zM} {s : Int} (h : zJh M s) (f : zFr C M M1) (h1 : ∀ j, ¬ C (44 + 2 * s) j) (h2 : ∀ j, ¬ C (45 + 2 * s) j) (h3 : ¬ C 71 s ∧ ¬ C 72 s ∧ ¬ C 73 s) (h4 : ∀ e : Int, 0 ≤ e → e < 40 → ¬ C 74 (40 * s + e)) : zJh M1 s := by
  have e1 : M1 (44 + 2 * s) = M (44 + 2 * s) := by
    funext j
    exact f _ _ (h1 j)
  have e2 : M1 (45 + 2 * s) = M (45 + 2 * s) := by
    funext j
    exact f _ _ (h2 j)
  obtain ⟨a, b, c, d⟩ := h
  unfold zJh
  rw [e1, e2, f _ _ h3.1, f _ _ h3.2.1, f _ _ h3.2.2]
  refine ⟨a, b, fun e e0 x1 => ?_, ?_⟩
  · rw [f _ _ (h4 e e0 x1)]
    exact c e e0 x1
  · rcases d with d | ⟨d1, d2, d3, d4, d5⟩
    · exact Or.inl d
    · refine Or.inr ⟨d1, d2, d3, d4, fun i i0 i1 => ?_⟩
      rw [f _ _ (h4 i i0 (by have := (b.2.2.2 d1).2.2; omega))]
      exact d5 i i0 i1
theorem zct8_in {x v : Int} (hv : -2147483648 ≤ v ∧ v ≤ 2147483647) : -2147483648 ≤ zct8 x v ∧ zct8 x v ≤ 2147483647 := by
  unfold zct8 z8 z16
  (repeat' split) <;> omega
section
variable {g : zG} {M : zM}
theorem s_sheet (h : zJn M) {s x n : Int} (hs0 : -2147483648 ≤ s ∧ s ≤ 2147483647) (hx : -2147483648 ≤ x ∧ x ≤ 2147483647) (hn : -2147483648 ≤ n ∧ n ≤ 2147483647) : zK g yX9_sheet xX9_sheet [zr 0, zi s, zi x, zi n] 75 M (zS1 g yX10_sheet xX10_sheet [zr 58, zi s, zi x, zi n]) := by
  have hJ := h.1
  have hS := hJ.1
  have hs := hJ.2.2.2.2.2.2.2.1
  refine (kX9_sheet hS hs0 hx hn).mono (fun w N' M1 q => ?_)
  obtain ⟨rfl, rfl, a, b⟩ := q
  by_cases c : zshA s x n = 1
  · obtain ⟨s0, s1, k0, k1, ki, f1⟩ := b c
    refine ⟨rfl, _, rfl, (kX10_sheet (hS.fr f1 (zSf_st ⟨s0, s1⟩)) hs0 hx hn).mono (fun w2 N2 M2 q2 => ?_)⟩
    obtain ⟨rfl, rfl, -, b2⟩ := q2
    obtain ⟨-, -, g1, g2, g3, gi, f2⟩ := b2 c
    have xn : (-1 ≤ x ∧ x ≤ 2) ∧ (x ≠ -1 → 0 ≤ n ∧ n ≤ 40) := by
      unfold zshA at c
      (repeat' split at c) <;> omega
    have f2' : ∀ a j : Int, ¬ (((a = 71 ∨ a = 72 ∨ a = 73) ∧ j = s) ∨ (a = 74 ∧ 40 * s ≤ j ∧ (0 ≤ x ∧ j < 40 * s + n))) → M2 a j = M1 a j := by
      intro a j y
      refine f2 a j ?_
      unfold zSg
      by_cases cx : 0 ≤ x
      · rw [if_pos cx]
        omega
      · rw [if_neg cx]
        omega
    have f1' : ∀ a j : Int, ¬ ((a = 44 + 2 * s ∧ (j = 0 ∨ j = 1)) ∨ a = 45 + 2 * s) → M1 a j = M a j := fun a j y => f1 a j (by unfold zSf; exact y)
    have f : ∀ a j : Int, ¬ (((a = 71 ∨ a = 72 ∨ a = 73) ∧ j = s) ∨ (a = 74 ∧ 40 * s ≤ j ∧ (0 ≤ x ∧ j < 40 * s + n)) ∨ (a = 44 + 2 * s ∧ (j = 0 ∨ j = 1)) ∨ a = 45 + 2 * s) → M2 a j = M a j := fun a j y => (f2' a j (by omega)).trans (f1' a j (by omega))
    refine ⟨rfl, rfl, hJ.hc (fun a j y => f a j (by unfold zHC at y; omega)) (zJs_of (fun r r0 r1 => ?_))⟩
    by_cases e : r = s
    · subst e
      have H := hs.h r0 r1
      have a0 : M2 (44 + 2 * r) 0 = x := (f2' _ _ (by omega)).trans k0
      have a1 : M2 (44 + 2 * r) 1 = if x = -1 then 0 else n := (f2' _ _ (by omega)).trans k1
      have ai : ∀ i : Int, 0 ≤ i → i < 40 → M2 (45 + 2 * r) i = 0 := fun i i0 i1 => (f2' _ _ (by omega)).trans (ki i i0 i1)
      have b4 : ∀ e : Int, 0 ≤ e → e < 40 → -2147483648 ≤ M2 74 (40 * r + e) ∧ M2 74 (40 * r + e) ≤ 2147483647 := by
        intro e e0 e1
        by_cases cc : 0 ≤ x ∧ e < n
        · rw [gi cc.1 e e0 cc.2]
          omega
        · rw [f 74 (40 * r + e) (by omega)]
          exact H.2.2.1 e e0 e1
      unfold zJh
      rw [a0, a1, g1, g2, g3]
      refine ⟨⟨xn.1, by split <;> omega, fun i i0 i1 => by rw [ai i i0 i1]; omega⟩, ⟨by have := zb_01 (0 ≤ x); omega, xn.1, hn, fun y => ?_⟩, b4, ?_⟩
      · have := zb_1.mp y
        omega
      · by_cases cx : 0 ≤ x
        · refine Or.inr ⟨zb_t cx, rfl, cx, by rw [if_neg (by omega)], fun i i0 i1 => ?_⟩
          rw [ai i i0 (by omega), gi cx i i0 i1]
        · exact Or.inl ⟨zb_f cx, by omega⟩
    · exact (hs.h r0 r1).fr (C := fun a j => ((a = 71 ∨ a = 72 ∨ a = 73) ∧ j = s) ∨ (a = 74 ∧ 40 * s ≤ j ∧ (0 ≤ x ∧ j < 40 * s + n)) ∨ (a = 44 + 2 * s ∧ (j = 0 ∨ j = 1)) ∨ a = 45 + 2 * s) f (fun j => by omega) (fun j => by omega) (by omega) (fun e e0 e1 => by omega)
  · have e := a c
    subst e
    refine ⟨rfl, _, rfl, (kX10_sheet hS hs0 hx hn).mono (fun w2 N2 M2 q2 => ?_)⟩
    obtain ⟨rfl, rfl, a2, -⟩ := q2
    have e := a2 c
    subst e
    exact ⟨rfl, rfl, hJ⟩
/-- one item of sheet s changed on both sides -/
theorem s_cell (h : zJn M) {s i v : Int} (hs0 : -2147483648 ≤ s ∧ s ≤ 2147483647) (hi0 : -2147483648 ≤ i ∧ i ≤ 2147483647) (hv : -2147483648 ≤ v ∧ v ≤ 2147483647) : zK g yX9_cell xX9_cell [zr 0, zi s, zi i, zi v] 75 M (zS1 g yX10_cell xX10_cell [zr 58, zi s, zi i, zi v]) := by
  have hJ := h.1
  have hS := hJ.1
  have hs := hJ.2.2.2.2.2.2.2.1
  have key : zceA M s i = zceG M s i := by
    unfold zceA zceG
    by_cases c : 0 ≤ s ∧ s ≤ 3
    · rw [if_pos c, if_pos c]
      rcases (hs.h c.1 (by omega)).2.2.2 with ⟨q1, q2⟩ | ⟨q1, q2, q3, q4, -⟩
      · rw [if_pos q1, if_pos q2]
      · rw [if_neg (show ¬ M (44 + 2 * s) 0 = -1 by omega), if_neg (show ¬ M 71 s = 0 by omega), q4]
    · rw [if_neg c, if_neg c]
  refine (kX9_cell hS hs.1 hs0 hi0 hv).mono (fun w N' M1 q => ?_)
  obtain ⟨rfl, rfl, hM1⟩ := q
  by_cases c : zceA M s i = 1
  · rw [if_pos c] at hM1
    have cs : 0 ≤ s ∧ s ≤ 3 := by
      unfold zceA at c
      by_cases cc : 0 ≤ s ∧ s ≤ 3
      · exact cc
      · rw [if_neg cc] at c
        omega
    have H := hs.h cs.1 (by omega)
    have z1 := H.1.2.1
    have ck : (M (44 + 2 * s) 0 ≠ -1) ∧ (0 ≤ i ∧ i < M (44 + 2 * s) 1) := by
      unfold zceA at c
      rw [if_pos cs] at c
      (repeat' split at c) <;> omega
    have f1 : zFr (fun a j => a = 45 + 2 * s ∧ j = i) M M1 := by
      rw [hM1]
      exact zFr.up zFr.rf ⟨rfl, rfl⟩
    have f1' : zFr zHC M M1 := f1.mono (fun a j y => by unfold zHC; omega)
    have gg : ∀ a j : Int, 71 ≤ a → M1 a j = M a j := fun a j y => f1 a j (by omega)
    have J1 : zShg M1 := hs.2.1.fr f1 (fun a j y0 y1 => by omega)
    have kG : zceG M1 s i = zceG M s i := by
      unfold zceG
      rw [gg 71 s (by decide), gg 73 s (by decide)]
    refine ⟨rfl, _, rfl, (kX10_cell (hS.fr f1' zHC_st) J1 hs0 hi0 hv).mono (fun w2 N2 M2 q2 => ?_)⟩
    obtain ⟨rfl, rfl, hM2⟩ := q2
    rw [kG, ← key, if_pos c, gg 72 s (by decide)] at hM2
    rcases H.2.2.2 with q | ⟨q1, q2, q3, q4, q5⟩
    · exact absurd q.2 ck.1
    have f2 : zFr (fun a j => a = 74 ∧ j = 40 * s + i) M1 M2 := by
      rw [hM2]
      exact zFr.up zFr.rf ⟨rfl, rfl⟩
    have a1 : M2 (45 + 2 * s) i = zct8 (M 72 s) v := by
      rw [f2 (45 + 2 * s) i (by omega), hM1, zU_s, q2]
    have a2 : M2 74 (40 * s + i) = zct8 (M 72 s) v := by
      rw [hM2, zU_s]
    have f : zFr (fun a j => (a = 45 + 2 * s ∧ j = i) ∨ (a = 74 ∧ j = 40 * s + i)) M M2 := (f1.mono (fun a j y => Or.inl y)).tr (f2.mono (fun a j y => Or.inr y))
    refine ⟨rfl, by rw [kG, key], hJ.hc (f.mono (fun a j y => by unfold zHC; omega)) (zJs_of (fun r r0 r1 => ?_))⟩
    by_cases e : r = s
    · subst e
      unfold zJh
      rw [f (44 + 2 * r) 0 (by omega), f (44 + 2 * r) 1 (by omega), f 71 r (by omega), f 72 r (by omega), f 73 r (by omega)]
      refine ⟨⟨H.1.1, H.1.2.1, fun e e0 e1 => ?_⟩, H.2.1, fun e e0 e1 => ?_, Or.inr ⟨q1, q2, q3, q4, fun e e0 e1 => ?_⟩⟩
      · by_cases d : e = i
        · rw [d, a1]
          exact zct8_in hv
        · rw [f (45 + 2 * r) e (by omega)]
          exact H.1.2.2 e e0 e1
      · by_cases d : e = i
        · rw [d, a2]
          exact zct8_in hv
        · rw [f 74 (40 * r + e) (by omega)]
          exact H.2.2.1 e e0 e1
      · by_cases d : e = i
        · rw [d, a1, a2]
        · rw [f (45 + 2 * r) e (by omega), f 74 (40 * r + e) (by omega)]
          exact q5 e e0 e1
    · exact (hs.h r0 r1).fr f (fun j => by omega) (fun j => by omega) (by omega) (fun e e0 e1 => by omega)
  · rw [if_neg c] at hM1
    subst hM1
    refine ⟨rfl, _, rfl, (kX10_cell hS hs.2.1 hs0 hi0 hv).mono (fun w2 N2 M2 q2 => ?_)⟩
    obtain ⟨rfl, rfl, hM2⟩ := q2
    rw [← key, if_neg c] at hM2
    subst hM2
    exact ⟨rfl, by rw [key], hJ⟩
theorem s_copy (h : zJn M) {s i t j n : Int} (hs0 : -2147483648 ≤ s ∧ s ≤ 2147483647) (hi0 : -2147483648 ≤ i ∧ i ≤ 2147483647) (ht0 : -2147483648 ≤ t ∧ t ≤ 2147483647) (hj0 : -2147483648 ≤ j ∧ j ≤ 2147483647) (hn : -2147483648 ≤ n ∧ n ≤ 2147483647) : zK g yX9_copy xX9_copy [zr 0, zi s, zi i, zi t, zi j, zi n] 75 M (zS1 g yX10_copy xX10_copy [zr 58, zi s, zi i, zi t, zi j, zi n]) := by
  have hJ := h.1
  have hS := hJ.1
  have hs := hJ.2.2.2.2.2.2.2.1
  have key : zcoA M s i t j n = zcoG M s i t j n := by
    unfold zcoA zcoG
    by_cases c : (0 ≤ s ∧ s ≤ 3) ∧ (0 ≤ t ∧ t ≤ 3)
    · rw [if_pos c, if_pos c]
      rcases (hs.h c.1.1 (by omega)).2.2.2 with ⟨q1, q2⟩ | ⟨q1, q2, q3, q4, -⟩
      · rw [if_pos (Or.inl q2), if_pos (Or.inl q1)]
      · rcases (hs.h c.2.1 (by omega)).2.2.2 with ⟨p1, p2⟩ | ⟨p1, p2, p3, p4, -⟩
        · rw [if_pos (Or.inr p2), if_pos (Or.inr p1)]
        · rw [if_neg (show ¬ (M (44 + 2 * s) 0 = -1 ∨ M (44 + 2 * t) 0 = -1) by omega), if_neg (show ¬ (M 71 s = 0 ∨ M 71 t = 0) by omega), q2, p2, q4, p4]
    · rw [if_neg c, if_neg c]
  refine (kX9_copy hS hs.1 hs0 hi0 ht0 hj0 hn).mono (fun w N' M1 q => ?_)
  obtain ⟨rfl, rfl, hM1⟩ := q
  by_cases c : 0 ≤ zcoA M s i t j n
  · rw [if_pos c] at hM1
    have cs : ((0 ≤ s ∧ s ≤ 3) ∧ (0 ≤ t ∧ t ≤ 3)) ∧ (M (44 + 2 * s) 0 ≠ -1 ∧ M (44 + 2 * t) 0 ≠ -1) ∧ M (44 + 2 * s) 0 = M (44 + 2 * t) 0 ∧ (0 ≤ n ∧ (0 ≤ i ∧ i ≤ M (44 + 2 * s) 1 - n) ∧ (0 ≤ j ∧ j ≤ M (44 + 2 * t) 1 - n)) := by
      unfold zcoA at c
      (repeat' split at c) <;> omega
    have Hs := hs.h cs.1.1.1 (by omega)
    have Ht := hs.h cs.1.2.1 (by omega)
    rcases Hs.2.2.2 with q | ⟨q1, q2, q3, q4, q5⟩
    · exact absurd q.2 cs.2.1.1
    rcases Ht.2.2.2 with p | ⟨p1, p2, p3, p4, p5⟩
    · exact absurd p.2 cs.2.1.2
    have z1 := Hs.1.2.1
    have z2 := Ht.1.2.1
    have f1 : zFr (fun a e => a = 45 + 2 * t ∧ j ≤ e ∧ e < j + n) M M1 := by
      rw [hM1]
      exact fun a e y => zcpy_o (by omega)
    have f1' : zFr zHC M M1 := f1.mono (fun a j y => by unfold zHC; omega)
    have gg : ∀ a j : Int, 71 ≤ a → M1 a j = M a j := fun a j y => f1 a j (by omega)
    have J1 : zShg M1 := hs.2.1.fr f1 (fun a j y0 y1 => by omega)
    have kG : zcoG M1 s i t j n = zcoG M s i t j n := by
      unfold zcoG
      rw [gg 71 s (by decide), gg 73 s (by decide), gg 72 s (by decide), gg 71 t (by decide), gg 73 t (by decide), gg 72 t (by decide)]
    refine ⟨rfl, _, rfl, (kX10_copy (hS.fr f1' zHC_st) J1 hs0 hi0 ht0 hj0 hn).mono (fun w2 N2 M2 q2' => ?_)⟩
    obtain ⟨rfl, rfl, hM2⟩ := q2'
    rw [kG, ← key, if_pos c] at hM2
    have f2 : zFr (fun a e => a = 74 ∧ 40 * t + j ≤ e ∧ e < 40 * t + j + n) M1 M2 := by
      rw [hM2]
      exact fun a e y => zcpy_o (by omega)
    have a1 : ∀ e : Int, j ≤ e → e < j + n → M2 (45 + 2 * t) e = M (45 + 2 * s) (i + (e - j)) := by
      intro e e0 e1
      rw [f2 (45 + 2 * t) e (by omega), hM1]
      exact if_pos ⟨rfl, e0, e1⟩
    have a2 : ∀ e : Int, j ≤ e → e < j + n → M2 74 (40 * t + e) = M 74 (40 * s + (i + (e - j))) := by
      intro e e0 e1
      rw [hM2]
      refine (if_pos ⟨rfl, by omega, by omega⟩).trans ?_
      rw [gg 74 _ (by decide)]
      congr 1
      omega
    have f : zFr (fun a e => (a = 45 + 2 * t ∧ j ≤ e ∧ e < j + n) ∨ (a = 74 ∧ 40 * t + j ≤ e ∧ e < 40 * t + j + n)) M M2 := (f1.mono (fun a j y => Or.inl y)).tr (f2.mono (fun a j y => Or.inr y))
    refine ⟨rfl, by rw [kG, key], hJ.hc (f.mono (fun a j y => by unfold zHC; omega)) (zJs_of (fun r r0 r1 => ?_))⟩
    by_cases e : r = t
    · subst e
      unfold zJh
      rw [f (44 + 2 * r) 0 (by omega), f (44 + 2 * r) 1 (by omega), f 71 r (by omega), f 72 r (by omega), f 73 r (by omega)]
      refine ⟨⟨Ht.1.1, Ht.1.2.1, fun e e0 e1 => ?_⟩, Ht.2.1, fun e e0 e1 => ?_, Or.inr ⟨p1, p2, p3, p4, fun e e0 e1 => ?_⟩⟩
      · by_cases d : j ≤ e ∧ e < j + n
        · rw [a1 e d.1 d.2]
          exact Hs.1.2.2 _ (by omega) (by omega)
        · rw [f (45 + 2 * r) e (by omega)]
          exact Ht.1.2.2 e e0 e1
      · by_cases d : j ≤ e ∧ e < j + n
        · rw [a2 e d.1 d.2]
          exact Hs.2.2.1 _ (by omega) (by omega)
        · rw [f 74 (40 * r + e) (by omega)]
          exact Ht.2.2.1 e e0 e1
      · by_cases d : j ≤ e ∧ e < j + n
        · rw [a1 e d.1 d.2, a2 e d.1 d.2]
          exact q5 _ (by omega) (by omega)
        · rw [f (45 + 2 * r) e (by omega), f 74 (40 * r + e) (by omega)]
          exact p5 e e0 e1
    · exact (hs.h r0 r1).fr f (fun j => by omega) (fun j => by omega) (by omega) (fun e e0 e1 => by omega)
  · rw [if_neg c] at hM1
    subst hM1
    refine ⟨rfl, _, rfl, (kX10_copy hS hs.2.1 hs0 hi0 ht0 hj0 hn).mono (fun w2 N2 M2 q2 => ?_)⟩
    obtain ⟨rfl, rfl, hM2⟩ := q2
    rw [← key, if_neg c] at hM2
    subst hM2
    exact ⟨rfl, by rw [key], hJ⟩
/-- the model reads nothing that such a change touches -/
theorem zRo2.uph {C : Int → Int → Prop} {M M1 : zM} {tp : Int → Int} {z : Int} (h : zRo2 M tp z) (f : zFr C M M1) (hC : ∀ q ∈ zstL, ¬ C q.1 q.2.1) (h1 : ∀ a j : Int, 58 ≤ a → ¬ C a j) : zRo2 M1 tp z := by
  obtain ⟨hS, hW, hU, hh⟩ := h
  have g : ∀ a j : Int, 58 ≤ a → M1 a j = M a j := fun a j h => f _ _ (h1 a j h)
  refine ⟨hS.fr f hC, ⟨by rw [g 58 12 (by decide)]; exact hW.1, fun i i0 i1 => ?_⟩, ?_, by rw [g 58 7 (by decide)]; exact hh⟩
  · rw [g 58 12 (by decide)] at i1
    have t := hW.2 i i0 i1
    unfold zTt zTm at t ⊢
    rw [g _ _ (by omega), g _ _ (by omega), g _ _ (by omega), g _ _ (by omega)]
    exact t
  · unfold zMU at hU ⊢
    rw [g 58 4 (by decide)]
    exact ⟨hU.1, (g _ _ (by decide)).trans hU.2.1, fun j j0 j1 => (g _ _ (by decide)).trans (hU.2.2.1 j j0 j1), hU.2.2.2⟩
theorem zTi.uph {C : Int → Int → Prop} {M M1 : zM} (h : zTi M M) (f : zFr C M M1) (h1 : ∀ a j : Int, 58 ≤ a → ¬ C a j) : zTi M M1 := by
  obtain ⟨a, b, c, d⟩ := h
  refine ⟨a.trans (f _ _ (h1 _ _ (by decide))).symm, b, c.trans (f _ _ (h1 _ _ (by decide))).symm, fun i i0 i1 k k0 k1 => (d i i0 i1 k k0 k1).trans (f (62 + k) i (h1 _ _ (by omega))).symm⟩
theorem zfq_r {C : Int → Prop} : ∀ {k : Nat}, -1 ≤ zfq C k ∧ zfq C k < 400
  | 0 => by
    have := zfst_b C 400 0 (by decide)
    show -1 ≤ zfst C 0 400 ∧ zfst C 0 400 < 400
    omega
  | k + 1 => by
    have ih := zfq_r (C := C) (k := k)
    have := zfst_b C (400 - (zfq C k + 1)).toNat (zfq C k + 1) (by omega)
    show -1 ≤ zfst C (zfq C k + 1) (400 - (zfq C k + 1)).toNat ∧ zfst C (zfq C k + 1) (400 - (zfq C k + 1)).toNat < 400
    omega
theorem s_film (h : zJn M) {s t n : Int} (hs0 : -2147483648 ≤ s ∧ s ≤ 2147483647) (ht0 : -2147483648 ≤ t ∧ t ≤ 2147483647) (hn : -2147483648 ≤ n ∧ n ≤ 2147483647) : zK g yX9_film xX9_film [zr 0, zi s, zi t, zi n] 75 M (zS1 g yX10_film xX10_film [zr 58, zi s, zi t, zi n]) := by
  have hJ := h.1
  have hS := hJ.1
  have hT := hJ.2.1
  have hs := hJ.2.2.2.2.2.2.2.1
  obtain ⟨tp, z, R2, hx⟩ := hJ.ro2
  refine (kX9_film h.ro hs0 ht0 hn).mono (fun w N' M1 q => ?_)
  rcases q with ⟨rfl, ⟨c, rfl, rfl⟩ | ⟨c, m, rfl, m1, m2, m3, m4, k0, k1, f1⟩⟩
  · refine ⟨rfl, _, rfl, (kX10_film R2 hs0 ht0 hn).mono (fun w2 N2 M2 q2 => ?_)⟩
    rcases q2 with ⟨rfl, ⟨d, rfl, rfl⟩ | ⟨d, -⟩⟩
    · exact ⟨rfl, rfl, hJ⟩
    · exact absurd (by rw [hT.1]; exact d) c
  · have hst := zSf_st c.1
    have h58 : ∀ a j : Int, 58 ≤ a → ¬ zSf s a j := fun a j y => by unfold zSf; omega
    have T := hT.uph f1 h58
    have eC : (fun d => zct (zTm M1) (M1 58 7) d t) = (fun d => zct (zTc M) (M 1 2) d t) := by
      funext d
      rw [← T.2.2.1]
      exact (T.ct c.2.1).symm
    refine ⟨rfl, _, rfl, (kX10_film (R2.uph f1 hst h58) hs0 ht0 hn).mono (fun w2 N2 M2 q2 => ?_)⟩
    rw [eC] at q2
    generalize (fun d => zct (zTc M) (M 1 2) d t) = C at m2 m3 q2
    rcases q2 with ⟨rfl, ⟨d, -⟩ | ⟨d, c2, rfl, n1, n2, n3, g1, g2, g3, f2⟩⟩
    · exact absurd (by rw [← T.1]; exact c) d
    · have ec : m = c2 := by
        rcases Nat.lt_trichotomy m c2 with q | q | q
        · exact absurd (m3 (by omega)) (n2 m q).1
        · exact q
        · exact absurd (n3 (by omega)) (m2 c2 q).1
      subst ec
      have f : zFr (fun a j => zSf s a j ∨ zSg s m a j) M M2 := (f1.mono (fun a j y => Or.inl y)).tr (f2.mono (fun a j y => Or.inr y))
      have hm : (m : Int) ≤ 20 := by omega
      refine ⟨rfl, rfl, hJ.hc (f.mono (fun a j y => by unfold zHC; unfold zSf zSg at y; omega)) (zJs_of (fun r r0 r1 => ?_))⟩
      by_cases e : r = s
      · subst e
        have H := hs.h r0 r1
        have a0 : M2 (44 + 2 * r) 0 = 1 := (f2 _ _ (by unfold zSg; omega)).trans k0
        have a1 : M2 (44 + 2 * r) 1 = m := (f2 _ _ (by unfold zSg; omega)).trans k1
        have ai : ∀ i : Int, 0 ≤ i → i < m → M2 (45 + 2 * r) i = zfq C i.toNat ∧ M2 74 (40 * r + i) = zfq C i.toNat := by
          intro i i0 i1
          have a := (m2 i.toNat (by omega)).2
          have b := (n2 i.toNat (by omega)).2
          rw [show ((i.toNat : Nat) : Int) = i by omega] at a b
          exact ⟨(f2 _ _ (by unfold zSg; omega)).trans a, b⟩
        unfold zJh
        rw [a0, a1, g1, g2, g3]
        refine ⟨⟨by decide, by omega, fun i i0 i1 => ?_⟩, ⟨Or.inr rfl, by decide, by omega, fun _ => by omega⟩, fun e e0 e1 => ?_, Or.inr ⟨rfl, rfl, by decide, rfl, fun i i0 i1 => by rw [(ai i i0 i1).1, (ai i i0 i1).2]⟩⟩
        · by_cases d : i < m
          · rw [(ai i i0 d).1]
            have := zfq_r (C := C) (k := i.toNat)
            omega
          · rw [f2 (45 + 2 * r) i (by unfold zSg; omega), m4 i (by omega) i1]
            omega
        · by_cases d : e < m
          · rw [(ai e e0 d).2]
            have := zfq_r (C := C) (k := e.toNat)
            omega
          · rw [f 74 (40 * r + e) (by unfold zSf zSg; omega)]
            exact H.2.2.1 e e0 e1
      · exact (hs.h r0 r1).fr f (fun j => by unfold zSf zSg; omega) (fun j => by unfold zSf zSg; omega) (by unfold zSf zSg; omega) (fun e e0 e1 => by unfold zSf zSg; omega)
end
