/-! STEPS: set, thing (by hand) -/
section
variable {g : zG} {M : zM}
theorem s_set (h : zJn M) {k i v : Int} (hk : -2147483648 ≤ k ∧ k ≤ 2147483647) (hi0 : -2147483648 ≤ i ∧ i ≤ 2147483647) (hv : -2147483648 ≤ v ∧ v ≤ 2147483647) : zK g yX9_set xX9_set [zr 0, zi k, zi i, zi v] 75 M (zS1 g yX10_set xX10_set [zr 58, zi k, zi i, zi v]) := by
  have hJ := h.1
  obtain ⟨hS, hT, hW, hh, hr, ht, hi, hs, hX⟩ := id hJ
  have hn6 : 0 ≤ M 58 12 ∧ M 58 12 ≤ 6 := by rw [← hT.1]; exact hT.2.1
  have n6 := hT.2.1
  refine (kX9_set hS hW hk hi0 hv).mono (fun w N' M1 q => ?_)
  rcases q with ⟨rfl, ⟨c, rfl, hM1⟩ | ⟨c, rfl, rfl⟩⟩
  · by_cases k0 : k = 0
    · rw [if_pos k0] at hM1
      subst hM1
      have f1 : zFr (fun a j => a = 1 ∧ j = 2) M (zU M 1 2 v) := zFr.up zFr.rf ⟨rfl, rfl⟩
      have e12 := f1 58 12 (by decide)
      have e7 := f1 58 7 (by decide)
      refine ⟨rfl, _, rfl, (kX10_set (hS.fr f1 (by decide)) (by rw [e12]; exact hn6) hk hi0 hv).mono (fun w2 N2 M2 q2 => ?_)⟩
      rcases q2 with ⟨rfl, ⟨c2, rfl, hM2⟩ | ⟨c2, -⟩⟩
      · rw [if_pos k0] at hM2
        subst hM2
        refine ⟨rfl, by rw [if_pos k0, if_pos k0, e7, hT.2.2.1], ?_⟩
        have f : zFr (fun a j => (a = 1 ∧ j = 2) ∨ (a = 58 ∧ j = 7)) M (zU (zU M 1 2 v) 58 7 v) := zFr.up (f1.mono (fun a j y => Or.inl y)) (Or.inr ⟨rfl, rfl⟩)
        have a1 : zU (zU M 1 2 v) 58 7 v 1 2 = v := rfl
        have a2 : zU (zU M 1 2 v) 58 7 v 58 7 = v := rfl
        have hv2 : 0 ≤ v ∧ v ≤ 127 := by unfold zstOK at c; omega
        refine ⟨hS.fr f (by decide), ?_, hW.frm f ?_ ?_, by rw [a1]; exact hv2, hr.fr f ?_ ?_ ?_ ?_, ht.fr f ?_ ?_ ?_, hi.fr f ?_ ?_ ?_ ?_ hT.2.1, hs.fr f ?_ ?_, hX.fr f ?_ ?_ ?_ hr.2.2.2.2⟩
        case refine_1 =>
          unfold zTi
          rw [a1, a2, f 1 1 (by omega), f 58 12 (by omega)]
          exact ⟨hT.1, hT.2.1, rfl, fun i i0 i1 k k0 k1 => (f (3 + i) k (by omega)).trans ((hT.2.2.2 i i0 i1 k k0 k1).trans (f (62 + k) i (by omega)).symm)⟩
        all_goals (intros; omega)
      · exact absurd (by rw [e12, ← hT.1]; exact c) c2
    · rw [if_neg k0] at hM1
      subst hM1
      have ck : (1 ≤ k ∧ k ≤ 3) ∧ (0 ≤ i ∧ i < M 1 1) ∧ zRg k v := by
        rcases c with c | c
        · exact absurd c.1 k0
        · exact ⟨⟨c.1, c.2.1⟩, c.2.2⟩
      have f1 : zFr (fun a j => a = 3 + i ∧ j = k) M (zU M (3 + i) k v) := zFr.up zFr.rf ⟨rfl, rfl⟩
      have e12 := f1 58 12 (by omega)
      have st1 : ∀ q ∈ zstL, ¬ ((fun a j => 3 ≤ a ∧ a < 9) : Int → Int → Prop) q.1 q.2.1 := by decide
      refine ⟨rfl, _, rfl, (kX10_set (hS.fr (f1.mono (C' := fun a j => 3 ≤ a ∧ a < 9) (fun a j y => by omega)) st1) (by rw [e12]; exact hn6) hk hi0 hv).mono (fun w2 N2 M2 q2 => ?_)⟩
      rcases q2 with ⟨rfl, ⟨c2, rfl, hM2⟩ | ⟨c2, -⟩⟩
      · rw [if_neg k0] at hM2
        subst hM2
        have ev : zU M (3 + i) k v (62 + k) i = M (3 + i) k := (f1 (62 + k) i (by omega)).trans (hT.2.2.2 i ck.2.1.1 ck.2.1.2 k (by omega) ck.1.2).symm
        refine ⟨rfl, by rw [if_neg k0, if_neg k0, ev], ?_⟩
        have f : zFr (fun a j => (a = 3 + i ∧ j = k) ∨ (a = 62 + k ∧ j = i)) M (zU (zU M (3 + i) k v) (62 + k) i v) := zFr.up (f1.mono (fun a j y => Or.inl y)) (Or.inr ⟨rfl, rfl⟩)
        have st2 : ∀ q ∈ zstL, ¬ ((fun a j => (3 ≤ a ∧ a < 9) ∨ (63 ≤ a ∧ a ≤ 65)) : Int → Int → Prop) q.1 q.2.1 := by decide
        have b1 : zU (zU M (3 + i) k v) (62 + k) i v (3 + i) k = v := (zU_a _ _ _ _ (by omega)).trans (zU_s _ _ _ _)
        have b2 : zU (zU M (3 + i) k v) (62 + k) i v (62 + k) i = v := zU_s _ _ _ _
        generalize zU (zU M (3 + i) k v) (62 + k) i v = M2 at f b1 b2
        refine ⟨hS.fr (f.mono (C' := fun a j => (3 ≤ a ∧ a < 9) ∨ (63 ≤ a ∧ a ≤ 65)) (fun a j y => by omega)) st2, ?_, ?_, ?_, hr.fr f ?_ ?_ ?_ ?_, ht.fr f ?_ ?_ ?_, hi.fr f ?_ ?_ ?_ ?_ hT.2.1, hs.fr f ?_ ?_, hX.fr f ?_ ?_ ?_ hr.2.2.2.2⟩
        case refine_1 =>
          unfold zTi
          rw [f 1 1 (by omega), f 58 12 (by omega), f 1 2 (by omega), f 58 7 (by omega)]
          refine ⟨hT.1, hT.2.1, hT.2.2.1, fun i' i0 i1 k' k0' k1' => ?_⟩
          show M2 (3 + i') k' = M2 (62 + k') i'
          by_cases e : i' = i ∧ k' = k
          · rw [e.1, e.2, b1, b2]
          · exact (f (3 + i') k' (by omega)).trans ((hT.2.2.2 i' i0 i1 k' k0' k1').trans (f (62 + k') i' (by omega)).symm)
        case refine_2 =>
          unfold zWf
          rw [f 1 1 (by omega)]
          refine ⟨hW.1, fun i' i0 i1 => ?_⟩
          have tt := hW.2 i' i0 i1
          unfold zTh at tt ⊢
          by_cases e : i' = i
          · subst e
            have rg := ck.2.2
            unfold zRg at rg
            rcases (show k = 1 ∨ k = 2 ∨ k = 3 by omega) with rfl | rfl | rfl
            · rw [b1, f _ 0 (by omega), f _ 2 (by omega), f _ 3 (by omega)]
              omega
            · rw [b1, f _ 0 (by omega), f _ 1 (by omega), f _ 3 (by omega)]
              omega
            · rw [b1, f _ 0 (by omega), f _ 1 (by omega), f _ 2 (by omega)]
              omega
          · rw [f _ 0 (by omega), f _ 1 (by omega), f _ 2 (by omega), f _ 3 (by omega)]
            exact tt
        case refine_3 =>
          rw [f 1 2 (by omega)]
          exact hh
        all_goals (intros; omega)
      · exact absurd (by rw [e12, ← hT.1]; exact c) c2
  · refine ⟨rfl, _, rfl, (kX10_set hS hn6 hk hi0 hv).mono (fun w2 N2 M2 q2 => ?_)⟩
    rcases q2 with ⟨rfl, ⟨c2, -⟩ | ⟨c2, rfl, rfl⟩⟩
    · exact absurd (by rw [hT.1]; exact c2) c
    · exact ⟨rfl, rfl, hJ⟩
/-- a new thing on both sides -/
theorem zJ.add {M2 : zM} (hJ : zJ M) {k n x : Int} (ok : zthOK k n x) (h6 : M 1 1 < 6)
    (f : zFr (fun a j => a = 3 + M 1 1 ∨ (a = 1 ∧ j = 1) ∨ ((62 ≤ a ∧ a ≤ 65) ∧ j = M 1 1) ∨ (a = 58 ∧ j = 12)) M M2)
    (c0 : M2 (3 + M 1 1) 0 = k) (c1 : M2 (3 + M 1 1) 1 = n) (c2 : M2 (3 + M 1 1) 2 = x.tdiv 100) (c3 : M2 (3 + M 1 1) 3 = x.tmod 100) (c4 : M2 1 1 = M 1 1 + 1)
    (d0 : M2 62 (M 1 1) = k) (d1 : M2 63 (M 1 1) = n) (d2 : M2 64 (M 1 1) = x.tdiv 100) (d3 : M2 65 (M 1 1) = x.tmod 100) (d4 : M2 58 12 = M 1 1 + 1) : zJ M2 := by
  obtain ⟨hS, hT, hW, hh, hr, ht, hi, hs, hX⟩ := id hJ
  have n6 := hT.2.1
  have st2 : ∀ q ∈ zstL, ¬ ((fun a j => (3 ≤ a ∧ a < 9) ∨ (a = 1 ∧ j = 1) ∨ (62 ≤ a ∧ a ≤ 65) ∨ (a = 58 ∧ j = 12)) : Int → Int → Prop) q.1 q.2.1 := by decide
  unfold zthOK at ok
  refine ⟨hS.fr (f.mono (C' := fun a j => (3 ≤ a ∧ a < 9) ∨ (a = 1 ∧ j = 1) ∨ (62 ≤ a ∧ a ≤ 65) ∨ (a = 58 ∧ j = 12)) (fun a j y => by omega)) st2, ?_, ?_, ?_, hr.fr f ?_ ?_ ?_ ?_, ht.fr f ?_ ?_ ?_, ?_, hs.fr f ?_ ?_, hX.fr f ?_ ?_ ?_ hr.2.2.2.2⟩
  case refine_1 =>
    unfold zTi
    rw [c4, d4, f 1 2 (by omega), f 58 7 (by omega)]
    refine ⟨rfl, by omega, hT.2.2.1, fun i i0 i1 k' k0 k1 => ?_⟩
    show M2 (3 + i) k' = M2 (62 + k') i
    by_cases e : i = M 1 1
    · rw [e]
      rcases (show k' = 0 ∨ k' = 1 ∨ k' = 2 ∨ k' = 3 by omega) with rfl | rfl | rfl | rfl
      · exact c0.trans d0.symm
      · exact c1.trans d1.symm
      · exact c2.trans d2.symm
      · exact c3.trans d3.symm
    · exact (f (3 + i) k' (by omega)).trans ((hT.2.2.2 i i0 (by omega) k' k0 k1).trans (f (62 + k') i (by omega)).symm)
  case refine_2 =>
    unfold zWf
    rw [c4]
    refine ⟨by omega, fun i i0 i1 => ?_⟩
    unfold zTh
    by_cases e : i = M 1 1
    · rw [e, c0, c1, c2, c3]
      exact ⟨ok.1, ok.2.1, ok.2.2.1, ok.2.2.2⟩
    · have tt := hW.2 i i0 (by omega)
      unfold zTh at tt
      rw [f _ 0 (by omega), f _ 1 (by omega), f _ 2 (by omega), f _ 3 (by omega)]
      exact tt
  case refine_3 =>
    rw [f 1 2 (by omega)]
    exact hh
  case refine_11 =>
    unfold zJi
    rw [f 0 2 (by omega), f 58 36 (by omega), f 58 37 (by omega), f 58 38 (by omega), f 58 3 (by omega), f 9 1 (by omega), f 9 2 (by omega), f 9 3 (by omega), c4]
    rcases hi with hi | ⟨a, b, c, d, e, q⟩
    · exact Or.inl hi
    · refine Or.inr ⟨a, b, by omega, d, e, fun i i0 i1 => ?_⟩
      rw [f (11 + i) 0 (by omega), f (11 + i) 1 (by omega), f (11 + i) 2 (by omega), f (11 + i) 3 (by omega), f (3 + i) 0 (by omega), f 70 _ (by omega), f 70 _ (by omega), f 70 _ (by omega)]
      exact q i i0 i1
  all_goals (intros; omega)
theorem s_thing (h : zJn M) {k n x : Int} (hk : -2147483648 ≤ k ∧ k ≤ 2147483647) (hn : -2147483648 ≤ n ∧ n ≤ 2147483647) (hx : -2147483648 ≤ x ∧ x ≤ 2147483647) : zK g yX9_thing xX9_thing [zr 0, zi k, zi n, zi x] 75 M (zS1 g yX10_thing xX10_thing [zr 58, zi k, zi n, zi x]) := by
  have hJ := h.1
  obtain ⟨hS, hT, hW, hh, hr, ht, hi, hs, hX⟩ := id hJ
  have hn6 : 0 ≤ M 58 12 ∧ M 58 12 ≤ 6 := by rw [← hT.1]; exact hT.2.1
  have n6 := hT.2.1
  refine (kX9_thing hS hW hk hn hx).mono (fun w N' M1 q => ?_)
  rcases q with ⟨rfl, ⟨c, rfl, rfl⟩ | ⟨c, c6, rfl, rfl⟩ | ⟨c, c6, rfl, c0, c1, c2, c3, c4, f1⟩⟩
  · refine ⟨rfl, _, rfl, (kX10_thing hS hn6 hk hn hx).mono (fun w2 N2 M2 q2 => ?_)⟩
    rcases q2 with ⟨rfl, ⟨d, rfl, rfl⟩ | ⟨d, -⟩ | ⟨d, -⟩⟩
    · exact ⟨rfl, rfl, hJ⟩
    · exact absurd d c
    · exact absurd d c
  · refine ⟨rfl, _, rfl, (kX10_thing hS hn6 hk hn hx).mono (fun w2 N2 M2 q2 => ?_)⟩
    rcases q2 with ⟨rfl, ⟨d, -⟩ | ⟨d, d6, rfl, rfl⟩ | ⟨d, d6, -⟩⟩
    · exact absurd c d
    · exact ⟨rfl, rfl, hJ⟩
    · have := hT.1; omega
  · have e12 := f1 58 12 (by omega)
    have hnn := hT.1
    have st1 : ∀ q ∈ zstL, ¬ ((fun a j => (3 ≤ a ∧ a < 9) ∨ (a = 1 ∧ j = 1)) : Int → Int → Prop) q.1 q.2.1 := by decide
    refine ⟨rfl, _, rfl, (kX10_thing (hS.fr (f1.mono (C' := fun a j => (3 ≤ a ∧ a < 9) ∨ (a = 1 ∧ j = 1)) (fun a j y => by omega)) st1) (by rw [e12]; exact hn6) hk hn hx).mono (fun w2 N2 M2 q2 => ?_)⟩
    rw [e12, ← hT.1] at q2
    rcases q2 with ⟨rfl, ⟨d, -⟩ | ⟨d, d6, -⟩ | ⟨d, d6, rfl, d0, d1, d2, d3, d4, f2⟩⟩
    · exact absurd c d
    · omega
    · refine ⟨rfl, rfl, hJ.add c c6 ((f1.mono (fun a j y => by omega)).tr (f2.mono (fun a j y => by omega))) ?_ ?_ ?_ ?_ ?_ d0 d1 d2 d3 d4⟩
      · exact (f2 _ _ (by omega)).trans c0
      · exact (f2 _ _ (by omega)).trans c1
      · exact (f2 _ _ (by omega)).trans c2
      · exact (f2 _ _ (by omega)).trans c3
      · exact (f2 _ _ (by omega)).trans c4
end
