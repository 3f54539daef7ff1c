/-! STEPS: rounds, set, feed (by hand) -/
theorem ztr_c {f f' : Int → Int} {l b p : Int} (hb : 0 ≤ b) (hp : 0 ≤ p) (h : ∀ d : Int, 0 ≤ d → d ≤ l → f d = f' d) : ztr f l b p ↔ ztr f' l b p := by
  have k : ∀ e : Int, 0 ≤ e → b + e * p ≤ l → f (b + e * p) = f' (b + e * p) := fun e e0 e1 => h _ (by have := Int.mul_nonneg e0 hp; omega) e1
  exact ⟨fun y e e0 e1 => (k e e0 e1).symm.trans (y e e0 e1), fun y e e0 e1 => (k e e0 e1).trans (y e e0 e1)⟩
theorem zfo_c {R R' : Int → Int} {b p : Int} : ∀ (k : Nat) (i : Int), (∀ j : Int, i ≤ j → j < i + k → R j = R' j) → zfo R b p i k = zfo R' b p i k := by
  intro k
  induction k with
  | zero => exact fun _ _ => rfl
  | succ k ih =>
    intro i h
    show zif (zbh (R i) b p) (zfo R b p (i + 1) k) (R i) = zif (zbh (R' i) b p) (zfo R' b p (i + 1) k) (R' i)
    rw [ih (i + 1) (fun j j0 j1 => h j (by omega) (by omega)), h i (by omega) (by omega)]
theorem zse_c {f f' R R' : Int → Int} {l m p c : Int} (hm : 1 ≤ m) (hc : 0 ≤ c) (hf : ∀ d : Int, 0 ≤ d → d ≤ l → f d = f' d) (h : ∀ j : Int, 0 ≤ j → j < m → R j = R' j) : ∀ n : Nat, zse f R l m p c n = zse f' R' l m p c n := by
  intro n
  induction n with
  | zero => rfl
  | succ n ih =>
    show zse f R l m p c n + zb _ = zse f' R' l m p c n + zb _
    have hq : (∀ j : Int, 0 ≤ j → j < m → (zbh (R j) (R 0) p ∨ zbh (R j) c (n + 1))) ↔ (∀ j : Int, 0 ≤ j → j < m → (zbh (R' j) (R' 0) p ∨ zbh (R' j) c (n + 1))) := by
      constructor
      · intro y j j0 j1
        rw [← h j j0 j1, ← h 0 (by decide) (by omega)]
        exact y j j0 j1
      · intro y j j0 j1
        rw [h j j0 j1, h 0 (by decide) (by omega)]
        exact y j j0 j1
    rw [ih, zb_c (and_congr (ztr_c (l := l) hc (show (0 : Int) ≤ (n : Int) + 1 by omega) hf) hq)]
theorem zsr_c {f f' R R' : Int → Int} {l m p : Int} (hm : 1 ≤ m) (hf : ∀ d : Int, 0 ≤ d → d ≤ l → f d = f' d) (h : ∀ j : Int, 0 ≤ j → j < m → R j = R' j) (hr : ∀ j : Int, 0 ≤ j → j < m → 0 ≤ R j ∧ R j < 400) : zsr f R l m p = zsr f' R' l m p := by
  have e : zfo R (R 0) p 0 m.toNat = zfo R' (R' 0) p 0 m.toNat := by
    rw [← h 0 (by decide) (by omega)]
    exact zfo_c m.toNat 0 (fun j j0 j1 => h j j0 (by omega))
  have b := zfo_b (R := R) (b := R 0) (p := p) hr m.toNat 0 (by decide) (by omega)
  unfold zsr
  rw [← e]
  by_cases c : zfo R (R 0) p 0 m.toNat = -1
  · rw [if_pos c, if_pos c]
  · rw [if_neg c, if_neg c]
    exact zse_c hm (by omega) hf h 60
theorem ztw_c {f f' R R' : Int → Int} {l m : Int} (hm : 1 ≤ m) (hf : ∀ d : Int, 0 ≤ d → d ≤ l → f d = f' d) (h : ∀ j : Int, 0 ≤ j → j < m → R j = R' j) (hr : ∀ j : Int, 0 ≤ j → j < m → 0 ≤ R j ∧ R j < 400) : ∀ n : Nat, ztw f R l m n = ztw f' R' l m n := by
  intro n
  induction n with
  | zero => rfl
  | succ n ih =>
    show ztw f R l m n + zif (ztr f l (R 0) (n + 1)) (zsr f R l m (n + 1)) 0 = ztw f' R' l m n + zif (ztr f' l (R' 0) (n + 1)) (zsr f' R' l m (n + 1)) 0
    rw [ih, zsr_c hm hf h hr, ← h 0 (by decide) (by omega), zif_c (ztr_c (l := l) (hr 0 (by decide) (by omega)).1 (show (0 : Int) ≤ (n : Int) + 1 by omega) hf)]
theorem zper_c {R R' : Int → Int} {m : Int} (hm : 1 ≤ m) (h : ∀ j : Int, 0 ≤ j → j < m → R j = R' j) : zper R m = zper R' m := by
  have ev : ∀ p, zev R m p ↔ zev R' m p := by
    intro p
    constructor
    · intro y j j0 j1
      rw [← h j (by omega) j1, ← h (j - 1) (by omega) (by omega)]
      exact y j j0 j1
    · intro y j j0 j1
      rw [h j (by omega) j1, h (j - 1) (by omega) (by omega)]
      exact y j j0 j1
  unfold zper
  by_cases c : m < 2
  · rw [if_pos c, if_pos c]
  · rw [if_neg c, if_neg c, h 1 (by decide) (by omega), h 0 (by decide) (by omega), zif_c (and_congr (ev _) Iff.rfl)]
theorem zft_e {f R R' : Int → Int} {m : Int} (hf : zdt R m f) (h : ∀ j : Int, 0 ≤ j → j < m → R j = R' j) {d : Int} (d0 : 0 ≤ d) (d1 : d < 400) : f d = zft R' m d := by
  have a := hf d d0 d1
  have q : f d = 1 ↔ ∃ j : Int, (0 ≤ j ∧ j < m) ∧ R' j = d := a.2.trans ⟨fun ⟨j, jj, q⟩ => ⟨j, jj, by rw [← h j jj.1 jj.2]; exact q⟩, fun ⟨j, jj, q⟩ => ⟨j, jj, by rw [h j jj.1 jj.2]; exact q⟩⟩
  unfold zft
  by_cases c : ∃ j : Int, (0 ≤ j ∧ j < m) ∧ R' j = d
  · rw [zb_t c]
    exact q.mpr c
  · rw [zb_f c]
    rcases a.1 with e | e
    · exact e
    · exact absurd (q.mp e) c
section
variable {g : zG} {M : zM}
theorem s_rounds (h : zJn M) {s k : Int} (hs : -2147483648 ≤ s ∧ s ≤ 2147483647) (hk : -2147483648 ≤ k ∧ k ≤ 2147483647) : zK g yX9_rounds xX9_rounds [zr 0, zi s, zi k] 75 M (zS2 g yX10_rounds xX10_rounds [zr 58, zi s, zi k]) := by
  have hJ := h.1
  obtain ⟨tp, z, R2, hx⟩ := hJ.ro2
  have hG := hJ.2.2.2.2.2.2.2.1
  refine (kX9_rounds h.ro hG.1 hs hk).mono (fun w N' M1 q => ?_)
  obtain ⟨rfl, f, q⟩ := q
  have J1 := hJ.fr f.A
  have U := hG.up f
  have key : w = some (zl (zroG M1 s k)) := by
    unfold zroG
    rcases q with ⟨c, rfl⟩ | ⟨c, fd, hfd, rfl⟩
    · rw [zif_f (fun y => c ?_)]
      rcases U s y.1.1 (by omega) with ⟨a, b⟩ | ⟨a, b, c2, d, e⟩
      · exact absurd (a.symm.trans y.2.2.1) (by decide)
      · rw [b, d]
        exact ⟨y.1, y.2.1, by omega, y.2.2.2.1, zdo_c (fun j j0 j1 => (e j j0 j1).symm) y.2.2.2.2⟩
    · rcases U s c.1.1 (by omega) with ⟨a, b⟩ | ⟨a, b, c2, d, e⟩
      · exact absurd b c.2.2.1
      · rw [d] at c hfd ⊢
        have hm := c.2.2.2.1
        have ho := c.2.2.2.2
        rw [zif_t ⟨c.1, c.2.1, a, hm, zdo_c e ho⟩]
        have el : M (45 + 2 * s) (M1 73 s - 1) = M1 74 (40 * s + (M1 73 s - 1)) := e _ (by omega) (by omega)
        by_cases hk0 : k = 0
        · rw [if_pos hk0, if_pos hk0, zper_c hm.1 e]
        · rw [if_neg hk0, if_neg hk0, ← el]
          have hl := (ho (M1 73 s - 1) (by omega) (by omega)).1
          rw [ztw_c hm.1 (f' := zft (fun e => M1 74 (40 * s + e)) (M1 73 s)) (fun dd d0 d1 => zft_e hfd e d0 (by omega)) e (fun j j0 j1 => (ho j j0 j1).1) 60]
  exact ⟨rfl, _, key, (kX10_rounds J1.1 J1.2.2.2.2.2.2.2.1.2.1 hs hk).mono (fun w2 N2 M2 q2 => ⟨q2.2.1, q2.1, J1.fr (q2.2.2.mono (fun a j y => Or.inr (by unfold zMs; omega)))⟩)⟩
theorem s_feed (h : zJn M) {x : Int} (hx : -2147483648 ≤ x ∧ x ≤ 2147483647) : zK g yX9_feed xX9_feed [zr 0, zi x] 75 M (zS1 g yX10_feed xX10_feed [zr 58, zi x]) := by
  have hJ := h.1
  obtain ⟨hS, hT, hW, hh, hr, ht, hi, hs, hX⟩ := id hJ
  have hz6 : 0 ≤ M 58 6 ∧ M 58 6 ≤ 160 := by rw [← ht.1]; exact ht.2.1
  refine (kX9_feed hS ht.2.1 hx).mono (fun w N' M1 q => ?_)
  rcases q with ⟨rfl, ⟨c, rfl, rfl⟩ | ⟨c, c6, rfl, rfl⟩ | ⟨c, c6, rfl, rfl⟩⟩
  · refine ⟨rfl, _, rfl, (kX10_feed hS hz6 hx).mono (fun w2 N2 M2 q2 => ?_)⟩
    rcases q2 with ⟨rfl, ⟨c2, rfl, rfl⟩ | ⟨c2, -⟩ | ⟨c2, -⟩⟩
    · exact ⟨rfl, rfl, hJ⟩
    · exact absurd c2 c
    · exact absurd c2 c
  · refine ⟨rfl, _, rfl, (kX10_feed hS hz6 hx).mono (fun w2 N2 M2 q2 => ?_)⟩
    rcases q2 with ⟨rfl, ⟨c2, -⟩ | ⟨c2, d2, rfl, rfl⟩ | ⟨c2, d2, -⟩⟩
    · exact absurd c c2
    · exact ⟨rfl, rfl, hJ⟩
    · have := ht.1; omega
  · have f1 : zFr (fun a j => a = 19 ∨ (a = 18 ∧ j = 1)) M (zU (zU M 19 (M 18 1) x) 18 1 (M 18 1 + 1)) := zFr.up (zFr.up zFr.rf (Or.inl rfl)) (Or.inr ⟨rfl, rfl⟩)
    have e6 := f1 58 6 (by decide)
    refine ⟨rfl, _, rfl, (kX10_feed (hS.fr f1 (by decide)) (by rw [e6]; exact hz6) hx).mono (fun w2 N2 M2 q2 => ?_)⟩
    rcases q2 with ⟨rfl, ⟨c2, -⟩ | ⟨c2, d2, -⟩ | ⟨c2, d2, rfl, rfl⟩⟩
    · exact absurd c c2
    · have := ht.1; omega
    · refine ⟨rfl, by rw [e6, ht.1], ?_⟩
      rw [e6]
      have f : zFr (fun a j => a = 19 ∨ (a = 18 ∧ j = 1) ∨ a = 61 ∨ (a = 58 ∧ j = 6)) M (zU (zU (zU (zU M 19 (M 18 1) x) 18 1 (M 18 1 + 1)) 61 (M 58 6) x) 58 6 (M 58 6 + 1)) := zFr.up (zFr.up (f1.mono (fun a j y => by omega)) (Or.inr (Or.inr (Or.inl rfl)))) (Or.inr (Or.inr (Or.inr ⟨rfl, rfl⟩)))
      refine ⟨hS.fr f (by decide), hT.fr f ?_ ?_ ?_ ?_ ?_, hW.frm f ?_ ?_, ?_, hr.fr f ?_ ?_ ?_ ?_, ?_, hi.fr f ?_ ?_ ?_ ?_ hT.2.1, hs.fr f ?_ ?_, hX.fr f ?_ ?_ ?_ hr.2.2.2.2⟩
      case refine_8 =>
        rw [f 1 2 (by omega)]
        exact hh
      case refine_13 =>
        have b1 : 0 ≤ M 18 1 + 1 ∧ M 18 1 + 1 ≤ 160 := by
          have := ht.2.1
          omega
        have a1 : zU (zU (zU (zU M 19 (M 18 1) x) 18 1 (M 18 1 + 1)) 61 (M 58 6) x) 58 6 (M 58 6 + 1) 18 1 = M 18 1 + 1 := rfl
        have a2 : zU (zU (zU (zU M 19 (M 18 1) x) 18 1 (M 18 1 + 1)) 61 (M 58 6) x) 58 6 (M 58 6 + 1) 58 6 = M 58 6 + 1 := rfl
        have a3 : ∀ j, zU (zU (zU (zU M 19 (M 18 1) x) 18 1 (M 18 1 + 1)) 61 (M 58 6) x) 58 6 (M 58 6 + 1) 19 j = zU M 19 (M 18 1) x 19 j := fun j => rfl
        have a4 : ∀ j, zU (zU (zU (zU M 19 (M 18 1) x) 18 1 (M 18 1 + 1)) 61 (M 58 6) x) 58 6 (M 58 6 + 1) 61 j = zU M 61 (M 58 6) x 61 j := fun j => rfl
        unfold zJt
        rw [a1, a2]
        refine ⟨by rw [ht.1], b1, fun j j0 j1 => ?_⟩
        rw [a3, a4]
        by_cases e : j = M 18 1
        · rw [e, zU_s, ht.1, zU_s]
          exact ⟨rfl, c⟩
        · rw [zU_j _ _ _ _ e, zU_j _ _ _ _ (by rw [← ht.1]; exact e)]
          exact ht.2.2 j j0 (by omega)
      all_goals (intros; omega)
end
