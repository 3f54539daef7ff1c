/-! STEPS: the calls that only tell (by hand) -/
theorem zRo2.upc {M M1 : zM} {tp : Int → Int} {z : Int} (h : zRo2 M tp z) (f : zFr zSc M M1) : zRo2 M1 tp z := by
  obtain ⟨hS, hW, hU, hh⟩ := h
  have g : ∀ a j : Int, 58 ≤ a → M1 a j = M a j := fun a j h => f _ _ (by unfold zSc; omega)
  refine ⟨hS.fr f (by unfold zSc; decide), ⟨by rw [g 58 12 (by decide)]; exact hW.1, fun i i0 i1 => ?_⟩, ?_, by rw [g 58 7 (by decide)]; exact hh⟩
  · rw [g 58 12 (by decide)] at i1
    have t := hW.2 i i0 i1
    unfold zTt zTm at t ⊢
    rw [g _ _ (by omega), g _ _ (by omega), g _ _ (by omega), g _ _ (by omega)]
    exact t
  · unfold zMU at hU ⊢
    rw [g 58 4 (by decide)]
    exact ⟨hU.1, (g _ _ (by decide)).trans hU.2.1, fun j j0 j1 => (g _ _ (by decide)).trans (hU.2.2.1 j j0 j1), hU.2.2.2⟩
section
variable {g : zG} {M : zM}
theorem s_told (h : zJn M) {i k : Int} (hi : -2147483648 ≤ i ∧ i ≤ 2147483647) (hk : -2147483648 ≤ k ∧ k ≤ 2147483647) : zK g yX9_told xX9_told [zr 0, zi i, zi k] 75 M (zS1 g yX10_told xX10_told [zr 58, zi i, zi k]) := by
  have hJ := h.1
  refine zS1_q hJ ((kX9_told hJ.1 hJ.2.2.1 hi hk).mono zPp.q) (fun M1 f J1 => ?_)
  have T := hJ.2.1.up f
  have e : (zif ((0 ≤ i ∧ i < M 1 1) ∧ (0 ≤ k ∧ k ≤ 3)) (M (3 + i) k) (-2)) = (zif ((0 ≤ i ∧ i < M1 58 12) ∧ (0 ≤ k ∧ k ≤ 3)) (zTm M1 i k) (-2)) := zif_cc (by rw [T.1]) (fun q => T.2.2.2 i q.1.1 q.1.2 k q.2.1 q.2.2)
  rw [e]
  exact (kX10_told J1.1 (by rw [← T.1]; exact T.2.1) hi hk).mono zPp.q
theorem s_day (h : zJn M) {d k : Int} (hd : -2147483648 ≤ d ∧ d ≤ 2147483647) (hk : -2147483648 ≤ k ∧ k ≤ 2147483647) : zK g yX9_day xX9_day [zr 0, zi d, zi k] 75 M (zS1 g yX10_day xX10_day [zr 58, zi d, zi k]) := by
  have hJ := h.1
  obtain ⟨tp, z, R2, hx⟩ := hJ.ro2
  refine zS1_q hJ (kX9_day h.ro hd hk) (fun M1 f J1 => ?_)
  rw [t_day (hJ.2.1.up f) hx]
  exact kX10_day (R2.upc f) hd hk
theorem s_when (h : zJn M) {t a : Int} (ht : -2147483648 ≤ t ∧ t ≤ 2147483647) (ha : -2147483648 ≤ a ∧ a ≤ 2147483647) : zK g yX9_when xX9_when [zr 0, zi t, zi a] 75 M (zS1 g yX10_when xX10_when [zr 58, zi t, zi a]) := by
  have hJ := h.1
  obtain ⟨tp, z, R2, hx⟩ := hJ.ro2
  refine zS1_q hJ ((kX9_when h.ro ht ha).mono zPp.q) (fun M1 f J1 => ?_)
  rw [t_when (hJ.2.1.up f)]
  exact (kX10_when (R2.upc f) ht ha).mono zPp.q
theorem s_often (h : zJn M) {t m : Int} (ht : -2147483648 ≤ t ∧ t ≤ 2147483647) (hm : -2147483648 ≤ m ∧ m ≤ 2147483647) : zK g yX9_often xX9_often [zr 0, zi t, zi m] 75 M (zS1 g yX10_often xX10_often [zr 58, zi t, zi m]) := by
  have hJ := h.1
  obtain ⟨tp, z, R2, hx⟩ := hJ.ro2
  refine zS1_q hJ ((kX9_often h.ro ht hm).mono zPp.q) (fun M1 f J1 => ?_)
  rw [t_often (hJ.2.1.up f)]
  exact (kX10_often (R2.upc f) ht hm).mono zPp.q
theorem s_year (h : zJn M) {k : Int} (hk : -2147483648 ≤ k ∧ k ≤ 2147483647) : zK g yX9_year xX9_year [zr 0, zi k] 75 M (zS1 g yX10_year xX10_year [zr 58, zi k]) := by
  have hJ := h.1
  obtain ⟨tp, z, R2, hx⟩ := hJ.ro2
  refine zS1_q hJ (kX9_year h.ro hk) (fun M1 f J1 => ?_)
  rw [t_year (hJ.2.1.up f) hx hJ.2.2.1]
  exact kX10_year (R2.upc f) hk
theorem s_why (h : zJn M) {S : Int} (hs : -2147483648 ≤ S ∧ S ≤ 2147483647) : zK g yX9_why xX9_why [zr 0, zi S] 75 M (zS1 g yX10_why xX10_why [zr 58, zi S]) := by
  have hJ := h.1
  obtain ⟨tp, z, R2, hx⟩ := hJ.ro2
  refine zS1_q hJ ((kX9_why h.ro hs).mono zPp.q) (fun M1 f J1 => ?_)
  rw [t_why (hJ.2.1.up f) hJ.2.2.1]
  exact kX10_why (R2.upc f).1 (R2.upc f).2.1 hs
theorem s_full (h : zJn M) {k : Int} (hk : -2147483648 ≤ k ∧ k ≤ 2147483647) : zK g yX9_full xX9_full [zr 0, zi k] 75 M (zS2 g yX10_full xX10_full [zr 58, zi k]) := by
  have hJ := h.1
  obtain ⟨tp, z, R2, hx⟩ := hJ.ro2
  refine zS2_q hJ ((kX9_full h.ro.1 h.ro.2.1 hk).mono zPp.q) (fun M1 f J1 => ?_)
  rw [t_full (hJ.2.1.up f) hJ.2.2.1]
  exact (kX10_full (R2.upc f).1 (R2.upc f).2.1 hk).mono zPp.q
theorem s_shift (h : zJn M) {t : Int} (ht : -2147483648 ≤ t ∧ t ≤ 2147483647) : zK g yX9_shift xX9_shift [zr 0, zi t] 75 M (zS1 g yX10_shift xX10_shift [zr 58, zi t]) := by
  have hJ := h.1
  obtain ⟨tp, z, R2, hx⟩ := hJ.ro2
  refine zS1_q hJ (kX9_shift h.ro ht) (fun M1 f J1 => ?_)
  rw [t_shift (hJ.2.1.up f)]
  exact kX10_shift (R2.upc f) ht
theorem s_join (h : zJn M) {i j : Int} (hi : -2147483648 ≤ i ∧ i ≤ 2147483647) (hj : -2147483648 ≤ j ∧ j ≤ 2147483647) : zK g yX9_join xX9_join [zr 0, zi i, zi j] 75 M (zS1 g yX10_join xX10_join [zr 58, zi i, zi j]) := by
  have hJ := h.1
  obtain ⟨tp, z, R2, hx⟩ := hJ.ro2
  refine zS1_q hJ (kX9_join h.ro hi hj) (fun M1 f J1 => ?_)
  rw [t_join (hJ.2.1.up f) hJ.2.2.1]
  exact kX10_join (R2.upc f) hi hj
theorem s_good (h : zJn M) {t m : Int} (ht : -2147483648 ≤ t ∧ t ≤ 2147483647) (hm : -2147483648 ≤ m ∧ m ≤ 2147483647) : zK g yX9_goodShift xX9_goodShift [zr 0, zi t, zi m] 75 M (zS1 g yX10_goodShift xX10_goodShift [zr 58, zi t, zi m]) := by
  have hJ := h.1
  obtain ⟨tp, z, R2, hx⟩ := hJ.ro2
  refine zS1_q hJ (kX9_goodShift h.ro ht hm) (fun M1 f J1 => ?_)
  rw [t_good (hJ.2.1.up f) hx]
  exact kX10_goodShift (R2.upc f) ht hm
theorem s_drawn (h : zJn M) {s : Int} (hs : -2147483648 ≤ s ∧ s ≤ 2147483647) : zK g yX9_drawn xX9_drawn [zr 0, zi s] 75 M (zS1 g yX10_drawn xX10_drawn [zr 58, zi s]) := by
  have hJ := h.1
  obtain ⟨tp, z, R2, hx⟩ := hJ.ro2
  refine zS1_q hJ (kX9_drawn h.ro) (fun M1 f J1 => ?_)
  rw [t_drawn (hJ.2.1.up f) hx]
  exact kX10_drawn (R2.upc f)
theorem s_chance (h : zJn M) {s m k : Int} (hs : -2147483648 ≤ s ∧ s ≤ 2147483647) (hm : -2147483648 ≤ m ∧ m ≤ 2147483647) (hk : -2147483648 ≤ k ∧ k ≤ 2147483647) : zK g yX9_chance xX9_chance [zr 0, zi s, zi m, zi k] 75 M (zS2 g yX10_chance xX10_chance [zr 58, zi s, zi m, zi k]) := by
  have hJ := h.1
  obtain ⟨tp, z, R2, hx⟩ := hJ.ro2
  refine zS2_q hJ (kX9_chance h.ro hm hk) (fun M1 f J1 => ?_)
  rw [t_chance (hJ.2.1.up f)]
  exact kX10_chance (R2.upc f) hm hk
theorem s_meet (h : zJn M) {S : Int} (hs : -2147483648 ≤ S ∧ S ≤ 2147483647) : zK g yX9_meet xX9_meet [zr 0, zi S] 75 M (zS2 g yX10_meet xX10_meet [zr 58, zi S]) := by
  have hJ := h.1
  obtain ⟨tp, z, R2, hx⟩ := hJ.ro2
  refine (kX9_meet h.ro hs).mono (fun w N' M1 h1 => ?_)
  obtain ⟨rfl, f, h1⟩ := h1
  have T := hJ.2.1.up f
  have key : ∀ w2 N2 M2, (N2 = 75 ∧ zFr zMs M1 M2 ∧ ((w2 = some (zl (-4611686018427387904)) ∧ (¬ (0 ≤ S ∧ S ≤ 2 ^ (M1 58 12).toNat - 1) ∨ ∀ d, ¬ zmc (zTm M1) S (M1 58 12) d)) ∨ ((0 ≤ S ∧ S ≤ 2 ^ (M1 58 12).toNat - 1) ∧ ∃ f s : Int, w2 = some (zl f) ∧ 1 ≤ s ∧ ∀ d, zmc (zTm M1) S (M1 58 12) d ↔ zmR f s d))) → w = w2 := fun w2 N2 M2 q => t_meet (C := 0 ≤ S ∧ S / 2 ^ (M 1 1).toNat = 0) (C' := 0 ≤ S ∧ S ≤ 2 ^ (M1 58 12).toNat - 1) (F := fun f _ => f) (by rw [← T.1]; exact z_all _) (fun d => T.mc) h1 q.2.2
  have hv : ∃ v : Int, w = some (zl v) := by
    rcases h1 with ⟨e, -⟩ | ⟨-, a, b, e, -⟩
    · exact ⟨_, e⟩
    · exact ⟨_, e⟩
  obtain ⟨v, rfl⟩ := hv
  exact ⟨rfl, v, rfl, (kX10_meet (R2.upc f).1 (R2.upc f).2.1 hs).mono (fun w2 N2 M2 q => ⟨q.1, (key w2 N2 M2 q).symm, (hJ.fr f.A).fr q.2.1.B⟩)⟩
theorem s_every (h : zJn M) {S : Int} (hs : -2147483648 ≤ S ∧ S ≤ 2147483647) : zK g yX9_every xX9_every [zr 0, zi S] 75 M (zS2 g yX10_every xX10_every [zr 58, zi S]) := by
  have hJ := h.1
  obtain ⟨tp, z, R2, hx⟩ := hJ.ro2
  refine (kX9_every h.ro hs).mono (fun w N' M1 h1 => ?_)
  obtain ⟨rfl, f, h1⟩ := h1
  have T := hJ.2.1.up f
  have key : ∀ w2 N2 M2, (N2 = 75 ∧ zFr zMs M1 M2 ∧ ((w2 = some (zl (-4611686018427387904)) ∧ (¬ (0 ≤ S ∧ S ≤ 2 ^ (M1 58 12).toNat - 1) ∨ ∀ d, ¬ zmc (zTm M1) S (M1 58 12) d)) ∨ ((0 ≤ S ∧ S ≤ 2 ^ (M1 58 12).toNat - 1) ∧ ∃ f s : Int, w2 = some (zl s) ∧ 1 ≤ s ∧ ∀ d, zmc (zTm M1) S (M1 58 12) d ↔ zmR f s d))) → w = w2 := fun w2 N2 M2 q => t_meet (C := 0 ≤ S ∧ S / 2 ^ (M 1 1).toNat = 0) (C' := 0 ≤ S ∧ S ≤ 2 ^ (M1 58 12).toNat - 1) (F := fun _ s => s) (by rw [← T.1]; exact z_all _) (fun d => T.mc) h1 q.2.2
  have hv : ∃ v : Int, w = some (zl v) := by
    rcases h1 with ⟨e, -⟩ | ⟨-, a, b, e, -⟩
    · exact ⟨_, e⟩
    · exact ⟨_, e⟩
  obtain ⟨v, rfl⟩ := hv
  exact ⟨rfl, v, rfl, (kX10_every (R2.upc f).1 (R2.upc f).2.1 hs).mono (fun w2 N2 M2 q => ⟨q.1, (key w2 N2 M2 q).symm, (hJ.fr f.A).fr q.2.1.B⟩)⟩
end
