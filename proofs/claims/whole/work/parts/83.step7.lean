/-! STEPS: things (by hand) -/
theorem zths_c {R R' : Int → Int} {sz : Int} (h : ∀ i : Int, 0 ≤ i → i < sz → R i = R' i) : ∀ {m : Nat} {p c : Int} {S : Int × (Int → Int → Int)}, zths R sz m p c S = zths R' sz m p c S
  | 0, _, _, _ => rfl
  | m + 1, p, c, S => by
    show (if 0 ≤ p ∧ p ≤ sz - 3 then zths R sz m (p + 3) (if 0 ≤ zadW S (R p) (R (p + 1)) (R (p + 2)) then c + 1 else c) (zadS S (R p) (R (p + 1)) (R (p + 2))) else (-12, S)) = (if 0 ≤ p ∧ p ≤ sz - 3 then zths R' sz m (p + 3) (if 0 ≤ zadW S (R' p) (R' (p + 1)) (R' (p + 2)) then c + 1 else c) (zadS S (R' p) (R' (p + 1)) (R' (p + 2))) else (-12, S))
    by_cases q : 0 ≤ p ∧ p ≤ sz - 3
    · rw [if_pos q, if_pos q, h p (by omega) (by omega), h (p + 1) (by omega) (by omega), h (p + 2) (by omega) (by omega)]
      exact zths_c h
    · rw [if_neg q, if_neg q]
theorem zadS_k {S : Int × (Int → Int → Int)} {k n x : Int} : S.1 ≤ (zadS S k n x).1 ∧ ∀ i f : Int, i < S.1 → (zadS S k n x).2 i f = S.2 i f := by
  refine ⟨?_, fun i f hi => ?_⟩
  · show S.1 ≤ zif (zthOK k n x ∧ S.1 < 6) (S.1 + 1) S.1
    by_cases c : zthOK k n x ∧ S.1 < 6
    · rw [zif_t c]
      omega
    · rw [zif_f c]
      exact Int.le_refl _
  · exact zif_f (fun y => by omega)
theorem zths_k {R : Int → Int} {sz : Int} : ∀ {m : Nat} {p c : Int} {S : Int × (Int → Int → Int)}, S.1 ≤ (zths R sz m p c S).2.1 ∧ ∀ i f : Int, i < S.1 → (zths R sz m p c S).2.2 i f = S.2 i f
  | 0, _, _, _ => ⟨Int.le_refl _, fun _ _ _ => rfl⟩
  | m + 1, p, c, S => by
    show S.1 ≤ (if 0 ≤ p ∧ p ≤ sz - 3 then zths R sz m (p + 3) (if 0 ≤ zadW S (R p) (R (p + 1)) (R (p + 2)) then c + 1 else c) (zadS S (R p) (R (p + 1)) (R (p + 2))) else (-12, S)).2.1 ∧ ∀ i f : Int, i < S.1 → (if 0 ≤ p ∧ p ≤ sz - 3 then zths R sz m (p + 3) (if 0 ≤ zadW S (R p) (R (p + 1)) (R (p + 2)) then c + 1 else c) (zadS S (R p) (R (p + 1)) (R (p + 2))) else (-12, S)).2.2 i f = S.2 i f
    by_cases q : 0 ≤ p ∧ p ≤ sz - 3
    · rw [if_pos q]
      have a := zadS_k (S := S) (k := R p) (n := R (p + 1)) (x := R (p + 2))
      have b := zths_k (R := R) (sz := sz) (m := m) (p := p + 3) (c := if 0 ≤ zadW S (R p) (R (p + 1)) (R (p + 2)) then c + 1 else c) (S := zadS S (R p) (R (p + 1)) (R (p + 2)))
      exact ⟨Int.le_trans a.1 b.1, fun i f hi => (b.2 i f (Int.lt_of_lt_of_le hi a.1)).trans (a.2 i f hi)⟩
    · rw [if_neg q]
      exact ⟨Int.le_refl _, fun _ _ _ => rfl⟩
section
variable {g : zG} {M : zM}
theorem s_things (h : zJn M) {s x f m : Int} (hs0 : -2147483648 ≤ s ∧ s ≤ 2147483647) (hx : -2147483648 ≤ x ∧ x ≤ 2147483647) (hf : -2147483648 ≤ f ∧ f ≤ 2147483647) (hm : -2147483648 ≤ m ∧ m ≤ 2147483647) : zK g yX9_things xX9_things [zr 0, zi s, zi x, zi f, zi m] 75 M (zS1 g yX10_things xX10_things [zr 58, zi s, zi x, zi f, zi m]) := by
  have hJ := h.1
  obtain ⟨hS, hT, hW, hh, hr, ht, hi, hs, hX⟩ := id hJ
  have hn6 : 0 ≤ M 58 12 ∧ M 58 12 ≤ 6 := by rw [← hT.1]; exact hT.2.1
  have n6 := hT.2.1
  have rep : zRep M (M 1 1, fun i f => M (3 + i) f) := ⟨rfl, fun _ _ _ _ _ _ => rfl⟩
  have req : zReq M (M 1 1, fun i f => M (3 + i) f) := ⟨hT.1.symm, fun i i0 i1 f f0 f1 => (hT.2.2.2 i i0 i1 f f0 f1).symm⟩
  refine (kX9_things h.ro hs.1 rep hs0 hx hf hm).mono (fun w N' M1 q => ?_)
  have same : ∀ (w : Option zv), (w = some (zi (-2)) ∧ ¬ ((0 ≤ s ∧ s < 4) ∧ (0 ≤ x ∧ x ≤ 2) ∧ (0 ≤ m ∧ m ≤ 6))) ∨ (w = some (zi (-11)) ∧ ((0 ≤ s ∧ s < 4) ∧ (0 ≤ x ∧ x ≤ 2) ∧ (0 ≤ m ∧ m ≤ 6)) ∧ M (44 + 2 * s) 0 = -1) ∨ (w = some (zi (-13)) ∧ ((0 ≤ s ∧ s < 4) ∧ (0 ≤ x ∧ x ≤ 2) ∧ (0 ≤ m ∧ m ≤ 6)) ∧ M (44 + 2 * s) 0 ≠ -1 ∧ M (44 + 2 * s) 0 ≠ x) → zS1 g yX10_things xX10_things [zr 58, zi s, zi x, zi f, zi m] w 75 M := by
    intro w hw
    have ex : ∃ v : Int, w = some (zi v) := by
      rcases hw with y | y | y <;> exact ⟨_, y.1⟩
    obtain ⟨v, rfl⟩ := ex
    refine ⟨rfl, v, rfl, (kX10_things hS hn6 hs.2.1 req hs0 hx hf hm).mono (fun w2 N2 M2 q2 => ?_)⟩
    rcases q2 with ⟨rfl, ⟨d, e, rfl⟩ | ⟨d, d1, e, rfl⟩ | ⟨d, d1, d2, e, rfl⟩ | ⟨d, d1, d2, -⟩⟩
    · refine ⟨rfl, ?_, hJ⟩
      rcases hw with y | y | y
      · rw [e, y.1]
      · exact absurd y.2.1 d
      · exact absurd y.2.1 d
    · refine ⟨rfl, ?_, hJ⟩
      have H := (hs.h d.1.1 d.1.2).2.2.2
      rcases hw with y | y | y
      · exact absurd d y.2
      · rw [e, y.1]
      · rcases H with H | H
        · exact absurd H.2 y.2.2.1
        · omega
    · refine ⟨rfl, ?_, hJ⟩
      have H := (hs.h d.1.1 d.1.2).2.2.2
      rcases hw with y | y | y
      · exact absurd d y.2
      · rcases H with H | H
        · omega
        · omega
      · rw [e, y.1]
    · have H := (hs.h d.1.1 d.1.2).2.2.2
      rcases hw with y | y | y
      · exact absurd d y.2
      · rcases H with H | H
        · omega
        · omega
      · rcases H with H | H
        · omega
        · omega
  rcases q with ⟨rfl, ⟨c, rfl, rfl⟩ | ⟨c, c1, rfl, rfl⟩ | ⟨c, c1, c2, rfl, rfl⟩ | ⟨c, c1, rfl, r1, R1, f1⟩⟩
  · exact same _ (Or.inl ⟨rfl, c⟩)
  · exact same _ (Or.inr (Or.inl ⟨rfl, c, c1⟩))
  · exact same _ (Or.inr (Or.inr ⟨rfl, c, c1, c2⟩))
  · have st1 : ∀ q ∈ zstL, ¬ zAdF q.1 q.2.1 := by
      unfold zAdF
      decide
    have gg : ∀ a j : Int, 9 ≤ a → M1 a j = M a j := fun a j y => f1 a j (by unfold zAdF; omega)
    have H := hs.h c.1.1 c.1.2
    rcases H.2.2.2 with d | ⟨p1, p2, p3, p4, p5⟩
    · omega
    have req1 : zReq M1 (M 1 1, fun i f => M (3 + i) f) := ⟨(gg 58 12 (by decide)).trans req.1, fun i i0 i1 f f0 f1 => (gg _ _ (by omega)).trans (req.2 i i0 i1 f f0 f1)⟩
    have G1 : zShg M1 := hs.2.1.fr f1 (fun a j y0 y1 => by unfold zAdF; omega)
    have eR : (fun e => M1 74 (40 * s + e)) = fun e => M 74 (40 * s + e) := by
      funext e
      exact gg 74 _ (by decide)
    have eS : zths (M (45 + 2 * s)) (M (44 + 2 * s) 1) m.toNat f 0 (M 1 1, fun i f => M (3 + i) f) = zths (fun e => M1 74 (40 * s + e)) (M1 73 s) m.toNat f 0 (M 1 1, fun i f => M (3 + i) f) := by
      rw [eR, gg 73 s (by decide), p4]
      exact zths_c p5
    have kp := zths_k (R := M (45 + 2 * s)) (sz := M (44 + 2 * s) 1) (m := m.toNat) (p := f) (c := 0) (S := (M 1 1, fun i f => M (3 + i) f))
    refine ⟨rfl, _, rfl, (kX10_things (hS.fr f1 st1) (by rw [gg 58 12 (by decide)]; exact hn6) G1 req1 hs0 hx hf hm).mono (fun w2 N2 M2 q2 => ?_)⟩
    rcases q2 with ⟨rfl, ⟨d, -⟩ | ⟨d, d1, -⟩ | ⟨d, d1, d2, -⟩ | ⟨d, d1, d2, rfl, r2, f2⟩⟩
    · exact absurd c d
    · rw [gg 71 s (by decide)] at d1
      omega
    · rw [gg 72 s (by decide)] at d2
      omega
    · rw [← eS] at r2
      refine ⟨rfl, by rw [eS], ?_⟩
      generalize (zths (M (45 + 2 * s)) (M (44 + 2 * s) 1) m.toNat f 0 (M 1 1, fun i f => M (3 + i) f)).2 = S at r1 r2 kp
      have g2 : ∀ a j : Int, a < 58 → M2 a j = M1 a j := fun a j y => f2 a j (by unfold zAdG; omega)
      have F : zFr (fun a j => zAdF a j ∨ zAdG a j) M M2 := (f1.mono (fun a j y => Or.inl y)).tr (f2.mono (fun a j y => Or.inr y))
      have st2 : ∀ q ∈ zstL, ¬ ((fun a j => zAdF a j ∨ zAdG a j) : Int → Int → Prop) q.1 q.2.1 := by
        unfold zAdF zAdG
        decide
      have W2 : zWf M2 := by
        have := R1.2.1
        refine this.frm f2 (by unfold zAdG; omega) (fun i f i0 i1 f0 f1 => by unfold zAdG; omega)
      refine ⟨hS.fr F st2, ?_, W2, ?_, hr.fr F ?_ ?_ ?_ ?_, ht.fr F ?_ ?_ ?_, ?_, hs.fr F ?_ ?_, hX.fr F ?_ ?_ ?_ hr.2.2.2.2⟩
      case refine_1 =>
        have e11 : M2 1 1 = S.1 := (g2 1 1 (by decide)).trans r1.1
        refine ⟨e11.trans r2.1.symm, W2.1, ?_, fun i i0 i1 f f0 f1 => ?_⟩
        · rw [F 1 2 (by unfold zAdF zAdG; omega), F 58 7 (by unfold zAdF zAdG; omega)]
          exact hT.2.2.1
        · have i6 := W2.1.2
          show M2 (3 + i) f = M2 (62 + f) i
          rw [g2 _ _ (by omega), r1.2 i i0 (by omega) f f0 f1, r2.2 i i0 (by omega) f f0 f1]
      case refine_2 =>
        rw [F 1 2 (by unfold zAdF zAdG; omega)]
        exact hh
      case refine_10 =>
        unfold zJi
        rw [F 0 2 (by unfold zAdF zAdG; omega), F 58 36 (by unfold zAdF zAdG; omega), F 58 37 (by unfold zAdF zAdG; omega), F 58 38 (by unfold zAdF zAdG; omega), F 58 3 (by unfold zAdF zAdG; omega), F 9 1 (by unfold zAdF zAdG; omega), F 9 2 (by unfold zAdF zAdG; omega), F 9 3 (by unfold zAdF zAdG; omega)]
        have e11 : M2 1 1 = S.1 := (g2 1 1 (by decide)).trans r1.1
        have k1 : M 1 1 ≤ S.1 := kp.1
        rcases hi with hi | ⟨a, b, c, d, e, q⟩
        · exact Or.inl hi
        · refine Or.inr ⟨a, b, by omega, d, e, fun i i0 i1 => ?_⟩
          have k2 : S.2 i 0 = M (3 + i) 0 := kp.2 i 0 (by show i < M 1 1; omega)
          have k3 : M2 (3 + i) 0 = M (3 + i) 0 := ((g2 _ _ (by omega)).trans (r1.2 i i0 (by omega) 0 (by decide) (by decide))).trans k2
          rw [F (11 + i) 0 (by unfold zAdF zAdG; omega), F (11 + i) 1 (by unfold zAdF zAdG; omega), F (11 + i) 2 (by unfold zAdF zAdG; omega), F (11 + i) 3 (by unfold zAdF zAdG; omega), k3, F 70 _ (by unfold zAdF zAdG; omega), F 70 _ (by unfold zAdF zAdG; omega), F 70 _ (by unfold zAdF zAdG; omega)]
          exact q i i0 i1
      all_goals (intros; unfold zAdF zAdG; omega)
end
