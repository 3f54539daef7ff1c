/-! TIES: the calls that only tell (by hand) -/
theorem zif_cc {q q' : Prop} {a a' b : Int} (h : q ↔ q') (ha : q → a = a') : zif q a b = zif q' a' b := by
  by_cases c : q
  · rw [zif_t c, zif_t (h.mp c), ha c]
  · rw [zif_f c, zif_f (fun y => c (h.mpr y))]
theorem zra_z {f : Int → Int} : ∀ k : Nat, (0 ≤ zra f k ∧ zra f k ≤ k) ∧ ∀ j : Int, (k : Int) - zra f k ≤ j → j < k → f j = 0 := by
  intro k
  induction k with
  | zero => exact ⟨⟨Int.le_refl _, Int.le_refl _⟩, fun j h1 h2 => by have e : zra f 0 = 0 := rfl; omega⟩
  | succ k ih =>
    have e : zra f (k + 1) = if f k = 0 then zra f k + 1 else 0 := rfl
    by_cases c : f k = 0
    · rw [if_pos c] at e
      refine ⟨by omega, fun j h1 h2 => ?_⟩
      by_cases d : j = k
      · rw [d]; exact c
      · exact ih.2 j (by omega) (by omega)
    · rw [if_neg c] at e
      exact ⟨by omega, fun j h1 h2 => by omega⟩
theorem zlf_v {f : Int → Int} : ∀ k : Nat, (zlm f k = 0 ∧ zlf f k = -1) ∨ (1 ≤ zlm f k ∧ 0 ≤ zlf f k ∧ (∀ j : Int, zlf f k ≤ j → j < zlf f k + zlm f k → f j = 0) ∧ ((zlf f k + zlm f k = k ∧ zra f k = zlm f k) ∨ (zlf f k + zlm f k < k ∧ f (zlf f k + zlm f k) ≠ 0))) := by
  intro k
  induction k with
  | zero => exact Or.inl ⟨rfl, rfl⟩
  | succ k ih =>
    have z0 := zra_z (f := f) k
    have z1 := zra_z (f := f) (k + 1)
    have e : zra f (k + 1) = if f k = 0 then zra f k + 1 else 0 := rfl
    have em : zlm f (k + 1) = if zlm f k < zra f (k + 1) then zra f (k + 1) else zlm f k := rfl
    have ef : zlf f (k + 1) = if zlm f k < zra f (k + 1) then k - zra f (k + 1) + 1 else zlf f k := rfl
    by_cases c : zlm f k < zra f (k + 1)
    · rw [if_pos c] at em ef
      rw [em, ef]
      have m0 : 0 ≤ zlm f k := by rcases ih with h | h <;> omega
      exact Or.inr ⟨by omega, by omega, fun j h1 h2 => z1.2 j (by omega) (by omega), Or.inl ⟨by omega, rfl⟩⟩
    · rw [if_neg c] at em ef
      rw [em, ef]
      rcases ih with h | ⟨h1, h2, h3, ⟨h4, h5⟩ | ⟨h4, h5⟩⟩
      · exact Or.inl h
      · have hk : f k ≠ 0 := fun y => by
          rw [if_pos y] at e
          omega
        exact Or.inr ⟨h1, h2, h3, Or.inr ⟨by omega, by rw [h4]; exact hk⟩⟩
      · exact Or.inr ⟨h1, h2, h3, Or.inr ⟨by omega, h5⟩⟩
theorem zrf_l {f : Int → Int} : ∀ (m n : Nat) (a : Int), (∀ j : Int, a ≤ j → j < a + m → f j = 0) → (n = m ∨ (m < n ∧ f (a + m) ≠ 0)) → zrf f a n = m := by
  intro m
  induction m with
  | zero =>
    intro n a h1 h2
    rcases h2 with rfl | ⟨h2, h3⟩
    · rfl
    · obtain ⟨n', rfl⟩ : ∃ n', n = n' + 1 := ⟨n - 1, by omega⟩
      show (if f a = 0 then zrf f (a + 1) n' + 1 else 0) = 0
      rw [if_neg (by rw [show a + ((0 : Nat) : Int) = a from Int.add_zero a] at h3; exact h3)]
  | succ m ih =>
    intro n a h1 h2
    obtain ⟨n', rfl⟩ : ∃ n', n = n' + 1 := ⟨n - 1, by omega⟩
    show (if f a = 0 then zrf f (a + 1) n' + 1 else 0) = _
    rw [if_pos (h1 a (by omega) (by omega)), ih n' (a + 1) (fun j j0 j1 => h1 j (by omega) (by omega)) ?_]
    · omega
    · rcases h2 with h2 | ⟨h2, h3⟩
      · exact Or.inl (by omega)
      · refine Or.inr ⟨by omega, ?_⟩
        rw [show a + 1 + (m : Int) = a + ((m + 1 : Nat) : Int) by omega]
        exact h3
theorem zdd_e {c : Int → Int} (h : ∀ d : Int, 0 ≤ d → d < 400 → 0 ≤ c d) : ∀ j : Nat, j < 400 → zdd c (j + 1) = zfw c j ∧ zdm c (j + 1) = c (zfw c j) := by
  intro j
  induction j with
  | zero =>
    intro _
    have h0 := h 0 (by decide) (by decide)
    show (if (0 : Int) < c ((0 : Nat) : Int) then ((0 : Nat) : Int) else 0) = 0 ∧ (if (0 : Int) < c ((0 : Nat) : Int) then c ((0 : Nat) : Int) else 0) = c 0
    have e : ((0 : Nat) : Int) = 0 := rfl
    rw [e]
    constructor
    · split <;> rfl
    · split <;> omega
  | succ j ih =>
    intro hj
    obtain ⟨i1, i2⟩ := ih (by omega)
    show (if zdm c (j + 1) < c ((j + 1 : Nat) : Int) then ((j + 1 : Nat) : Int) else zdd c (j + 1)) = (if c (zfw c j) < c ((j : Int) + 1) then (j : Int) + 1 else zfw c j) ∧ (if zdm c (j + 1) < c ((j + 1 : Nat) : Int) then c ((j + 1 : Nat) : Int) else zdm c (j + 1)) = c (if c (zfw c j) < c ((j : Int) + 1) then (j : Int) + 1 else zfw c j)
    have e : ((j + 1 : Nat) : Int) = (j : Int) + 1 := by omega
    rw [i1, i2, e]
    by_cases q : c (zfw c j) < c ((j : Int) + 1)
    · rw [if_pos q, if_pos q]
      exact ⟨rfl, rfl⟩
    · rw [if_neg q, if_neg q]
      exact ⟨rfl, rfl⟩
theorem zyr_0_ {c f : Int → Int} : zyr c f 0 = zsum c 400 := by
  unfold zyr
  rw [if_pos rfl]
theorem zym_0_ {c f : Int → Int} : zym c f 0 = zsum c 400 := by
  unfold zym
  rw [if_pos rfl]
theorem zyr_1_ {c f : Int → Int} : zyr c f 1 = zsum (fun d => zb (1 ≤ zpc (f d))) 400 := by
  unfold zyr
  rw [if_neg (by decide), if_pos rfl]
theorem zym_1_ {c f : Int → Int} : zym c f 1 = zsum (fun d => zb (1 ≤ zpc (f d))) 400 := by
  unfold zym
  rw [if_neg (by decide), if_pos (by decide)]
theorem zyr_2_ {c f : Int → Int} : zyr c f 2 = zsum (fun d => zb (2 ≤ zpc (f d))) 400 := by
  unfold zyr
  rw [if_neg (by decide), if_neg (by decide), if_pos rfl]
theorem zym_2_ {c f : Int → Int} : zym c f 2 = zsum (fun d => zb (2 ≤ zpc (f d))) 400 := by
  unfold zym
  rw [if_neg (by decide), if_pos (by decide)]
theorem zyr_3_ {c f : Int → Int} : zyr c f 3 = (if zlf f 400 < 0 then 0 else zrf f (zlf f 400) (400 - zlf f 400).toNat) := by
  unfold zyr
  rw [if_neg (by decide), if_neg (by decide), if_neg (by decide), if_pos rfl]
theorem zym_3_ {c f : Int → Int} : zym c f 3 = zlm f 400 := by
  unfold zym
  rw [if_neg (by decide), if_neg (by decide), if_pos rfl]
theorem zyr_4_ {c f : Int → Int} : zyr c f 4 = zlf f 400 := by
  unfold zyr
  rw [if_neg (by decide), if_neg (by decide), if_neg (by decide), if_neg (by decide), if_pos rfl]
theorem zym_4_ {c f : Int → Int} : zym c f 4 = zlf f 400 := by
  unfold zym
  rw [if_neg (by decide), if_neg (by decide), if_neg (by decide), if_pos rfl]
theorem zyr_5_ {c f : Int → Int} : zyr c f 5 = zfw (zwk f) 56 := by
  unfold zyr
  rw [if_neg (by decide), if_neg (by decide), if_neg (by decide), if_neg (by decide), if_neg (by decide), if_pos rfl]
theorem zym_5_ {c f : Int → Int} : zym c f 5 = zfw (zwk f) 56 := by
  unfold zym
  rw [if_neg (by decide), if_neg (by decide), if_neg (by decide), if_neg (by decide), if_pos rfl]
theorem zyr_6_ {c f : Int → Int} : zyr c f 6 = zwk f (zfw (zwk f) 56) := by
  unfold zyr
  rw [if_neg (by decide), if_neg (by decide), if_neg (by decide), if_neg (by decide), if_neg (by decide), if_neg (by decide), if_pos rfl]
theorem zym_6_ {c f : Int → Int} : zym c f 6 = zwk f (zfw (zwk f) 56) := by
  unfold zym
  rw [if_neg (by decide), if_neg (by decide), if_neg (by decide), if_neg (by decide), if_neg (by decide), if_pos rfl]
theorem zyr_7_ {c f : Int → Int} : zyr c f 7 = zdd c 400 := by
  unfold zyr
  rw [if_neg (by decide), if_neg (by decide), if_neg (by decide), if_neg (by decide), if_neg (by decide), if_neg (by decide), if_neg (by decide), if_pos rfl]
theorem zym_7_ {c f : Int → Int} : zym c f 7 = zfw c 399 := by
  unfold zym
  rw [if_neg (by decide), if_neg (by decide), if_neg (by decide), if_neg (by decide), if_neg (by decide), if_neg (by decide), if_pos rfl]
theorem zyr_8_ {c f : Int → Int} : zyr c f 8 = c (zdd c 400) := by
  unfold zyr
  rw [if_neg (by decide), if_neg (by decide), if_neg (by decide), if_neg (by decide), if_neg (by decide), if_neg (by decide), if_neg (by decide), if_neg (by decide)]
theorem zym_8_ {c f : Int → Int} : zym c f 8 = c (zfw c 399) := by
  unfold zym
  rw [if_neg (by decide), if_neg (by decide), if_neg (by decide), if_neg (by decide), if_neg (by decide), if_neg (by decide), if_neg (by decide)]
theorem zyr_e {c f : Int → Int} {k : Int} (h : ∀ d : Int, 0 ≤ d → d < 400 → 0 ≤ c d) (hk : 0 ≤ k ∧ k ≤ 8) : zyr c f k = zym c f k := by
  have hd := (zdd_e h 399 (by decide)).1
  rcases (show k = 0 ∨ k = 1 ∨ k = 2 ∨ k = 3 ∨ k = 4 ∨ k = 5 ∨ k = 6 ∨ k = 7 ∨ k = 8 by omega) with rfl | rfl | rfl | rfl | rfl | rfl | rfl | rfl | rfl
  · rw [zyr_0_, zym_0_]
  · rw [zyr_1_, zym_1_]
  · rw [zyr_2_, zym_2_]
  · rw [zyr_3_, zym_3_]
    rcases zlf_v (f := f) 400 with ⟨h1, h2⟩ | ⟨h1, h2, h3, h4⟩
    · rw [if_pos (by omega), h1]
    · rw [if_neg (by omega)]
      have e := zrf_l (f := f) (zlm f 400).toNat (400 - zlf f 400).toNat (zlf f 400) (fun j j0 j1 => h3 j j0 (by omega)) (by
        have e2 : (((zlm f 400).toNat : Nat) : Int) = zlm f 400 := Int.toNat_of_nonneg (by omega)
        rcases h4 with ⟨h4, -⟩ | ⟨h4, h5⟩
        · exact Or.inl (by omega)
        · exact Or.inr ⟨by omega, by rw [e2]; exact h5⟩)
      rw [e]
      omega
  · rw [zyr_4_, zym_4_]
  · rw [zyr_5_, zym_5_]
  · rw [zyr_6_, zym_6_]
  · rw [zyr_7_, zym_7_]
    exact hd
  · rw [zyr_8_, zym_8_, hd]
/-- the class's memory M and the model's M1 hold the same things and holidays -/
def zTi (M M1 : zM) : Prop := M 1 1 = M1 58 12 ∧ (0 ≤ M 1 1 ∧ M 1 1 ≤ 6) ∧ M 1 2 = M1 58 7 ∧ ∀ i : Int, 0 ≤ i → i < M 1 1 → ∀ f : Int, 0 ≤ f → f ≤ 3 → zTc M i f = zTm M1 i f
/-- .. and the rule tells the same -/
def zTr (M : zM) (tp : Int → Int) (z : Int) : Prop := ∀ (k : Int) (nm : Int → Int), 0 ≤ k → k ≤ 2 → ztx M k nm = ztt tp z k nm
section
variable {M M1 : zM} {tp : Int → Int} {z : Int}
theorem zTi.ct (h : zTi M M1) {i d v : Int} (hi : 0 ≤ i ∧ i < M 1 1) : zct (zTc M) v d i = zct (zTm M1) v d i := zct_e (fun f f0 f1 => h.2.2.2 i hi.1 hi.2 f f0 f1) rfl
theorem zTi.sn (h : zTi M M1) (v : Int) : zsn M v = zfh M1 v := by
  funext d
  unfold zsn zfh
  rw [← h.1]
  exact zso_c (fun i i0 i1 => by rw [h.ct (by have := h.2.1; omega)])
theorem zTi.fm (h : zTi M M1) : zsn M (M 1 2) = zfm M1 := by rw [h.sn, h.2.2.1]; rfl
theorem zcost_e {tx tx' : Int → (Int → Int) → Int} {T T' : Int → Int → Int} {n : Nat} {f : Int → Int} {d : Int} (h1 : ∀ (k : Int) (nm : Int → Int), 0 ≤ k → k ≤ 2 → tx k nm = tx' k nm) (h2 : ∀ i : Int, 0 ≤ i → i < n → T i 0 = T' i 0 ∧ T i 1 = T' i 1 ∧ T i 2 = T' i 2) : zcost tx T n f d = zcost tx' T' n f d := by
  unfold zcost
  have e : zsum (fun i => zif (zbt (f d) i) (zsp (T i 0) (T i 1) (tx 0 (znm d i (zpc (f d)) (T i 2) (zra f d.toNat) (T i 1)))) 0) n = zsum (fun i => zif (zbt (f d) i) (zsp (T' i 0) (T' i 1) (tx' 0 (znm d i (zpc (f d)) (T' i 2) (zra f d.toNat) (T' i 1)))) 0) n := by
    refine zsum_c (fun i h0 hi => ?_)
    have := h2 i h0 hi
    rw [this.1, this.2.1, this.2.2, h1 0 _ (by decide) (by decide)]
  rw [e, h1 1 _ (by decide) (by decide)]
theorem zTi.cs (h : zTi M M1) (hx : zTr M tp z) (f : Int → Int) (d : Int) : zcs M f d = zkm M1 tp z f d := by
  unfold zcs zkm
  rw [← h.1]
  exact zcost_e hx (fun i i0 i1 => by
    have g := h.2.2.2 i i0 (by have := h.2.1; omega)
    exact ⟨g 0 (by decide) (by decide), g 1 (by decide) (by decide), g 2 (by decide) (by decide)⟩)
theorem t_day (h : zTi M M1) (hx : zTr M tp z) {d k : Int} : (zif ((0 ≤ d ∧ d ≤ 399) ∧ (0 ≤ k ∧ k ≤ 2)) (if k = 0 then zsn M (M 1 2) d else if k = 1 then zcs M (zsn M (M 1 2)) d else zb (zhd (M 1 2) d)) (-2)) = (zif ((0 ≤ d ∧ d ≤ 399) ∧ (0 ≤ k ∧ k ≤ 2)) (if k = 0 then zfm M1 d else if k = 1 then zkm M1 tp z (zfm M1) d else zb (zhd (M1 58 7) d)) (-2)) := by
  rw [h.fm, h.cs hx, h.2.2.1]
theorem t_when (h : zTi M M1) {t a : Int} : (zif ((0 ≤ t ∧ t < M 1 1) ∧ (0 ≤ a ∧ a ≤ 399)) (zfst (fun d => zct (zTc M) (M 1 2) d t) a (400 - a).toNat) (-2)) = (zif ((0 ≤ t ∧ t < M1 58 12) ∧ (0 ≤ a ∧ a ≤ 399)) (zfst (fun d => zct (zTm M1) (M1 58 7) d t) a (400 - a).toNat) (-2)) :=
  zif_cc (by rw [h.1]) (fun q => by rw [h.2.2.1]; exact zfst_c (fun j _ _ => by rw [h.ct q.1]))
theorem t_often (h : zTi M M1) {t m : Int} : (zif ((0 ≤ t ∧ t < M 1 1) ∧ (0 ≤ m ∧ m ≤ 400)) (zsum (fun d => zb (zct (zTc M) (M 1 2) d t)) m.toNat) (-2)) = (zif ((0 ≤ t ∧ t < M1 58 12) ∧ (0 ≤ m ∧ m ≤ 400)) (zsum (fun d => zb (zct (zTm M1) (M1 58 7) d t)) m.toNat) (-2)) :=
  zif_cc (by rw [h.1]) (fun q => by rw [h.2.2.1]; exact zsum_c (fun j _ _ => by rw [h.ct q.1]))
theorem t_year (h : zTi M M1) (hx : zTr M tp z) (hW : zWf M) {k : Int} : (zif (0 ≤ k ∧ k ≤ 8) (zyr (zcs M (zsn M (M 1 2))) (zsn M (M 1 2)) k) (-2)) = (zif (0 ≤ k ∧ k ≤ 8) (zym (zkm M1 tp z (zfm M1)) (zfm M1) k) (-2)) :=
  zif_cc Iff.rfl (fun q => by
    rw [zyr_e (fun d _ _ => (zcs_r hW _ d).1) q, show zcs M (zsn M (M 1 2)) = zkm M1 tp z (zfm M1) from by funext d; rw [h.fm, h.cs hx], h.fm])
theorem z_all {S : Int} (n : Nat) : (0 ≤ S ∧ S / 2 ^ n = 0) ↔ (0 ≤ S ∧ S ≤ 2 ^ n - 1) := by
  have p0 : (0 : Int) < 2 ^ n := Int.pow_pos (by decide)
  constructor
  · rintro ⟨h0, h1⟩
    have e := Int.emod_add_mul_ediv S (2 ^ n)
    have l := Int.emod_lt_of_pos S p0
    rw [h1, Int.mul_zero] at e
    exact ⟨h0, by omega⟩
  · rintro ⟨h0, h1⟩
    exact ⟨h0, Int.ediv_eq_zero_of_lt h0 (by omega)⟩
theorem zTi.mc (h : zTi M M1) {S d : Int} : zmc (zTc M) S (M 1 1) d ↔ zmc (zTm M1) S (M1 58 12) d := by
  rw [← h.1]
  exact zmc_fr (fun e e0 e1 => ⟨h.2.2.2 e e0 e1 2 (by decide) (by decide), h.2.2.2 e e0 e1 3 (by decide) (by decide)⟩)
/-- meet and every: both sides answer the same -/
theorem t_meet {C C' : Prop} {D D' : Int → Prop} (hC : C ↔ C') (hD : ∀ d, D d ↔ D' d) {F : Int → Int → Int} {w w' : Option zv}
    (h : (w = some (zl (-4611686018427387904)) ∧ (¬ C ∨ ∀ d, ¬ D d)) ∨ (C ∧ ∃ f s : Int, w = some (zl (F f s)) ∧ 1 ≤ s ∧ ∀ d, D d ↔ zmR f s d))
    (h' : (w' = some (zl (-4611686018427387904)) ∧ (¬ C' ∨ ∀ d, ¬ D' d)) ∨ (C' ∧ ∃ f s : Int, w' = some (zl (F f s)) ∧ 1 ≤ s ∧ ∀ d, D' d ↔ zmR f s d)) : w = w' := by
  rcases h with ⟨rfl, h⟩ | ⟨hc, f, s, rfl, hs, h⟩ <;> rcases h' with ⟨rfl, h'⟩ | ⟨hc', f', s', rfl, hs', h'⟩
  · rfl
  · exfalso
    rcases h with h | h
    · exact h (hC.mpr hc')
    · exact h f' ((hD f').mpr ((h' f').mpr zmR_f))
  · exfalso
    rcases h' with h' | h'
    · exact h' (hC.mp hc)
    · exact h' f ((hD f).mp ((h f).mpr zmR_f))
  · obtain ⟨rfl, rfl⟩ := zmR_u hs hs' (fun d => (h d).symm.trans ((hD d).trans (h' d)))
    rfl
theorem zWf.T (hW : zWf M) (h : zTi M M1) {i : Int} (hi : 0 ≤ i ∧ i < M 1 1) : zTt (zTm M1) i := by
  have a := hW.2 i hi.1 hi.2
  have g := h.2.2.2 i hi.1 hi.2
  unfold zTt
  rw [← g 0 (by decide) (by decide), ← g 1 (by decide) (by decide), ← g 2 (by decide) (by decide), ← g 3 (by decide) (by decide)]
  exact a
theorem t_why (h : zTi M M1) (hW : zWf M) {s : Int} : (zif (0 ≤ s ∧ s / 2 ^ (M 1 1).toNat = 0) (zwy (fun a b => (zbt s a ∧ zbt s b) ∧ ¬ zshr (zTc M a 2) (zTc M a 3) (zTc M b 2) (zTc M b 3)) (M 1 1) 0 (M 1 1).toNat) (-2)) = (zif (0 ≤ s ∧ s ≤ 2 ^ (M1 58 12).toNat - 1) (zwy (fun a b => (zbt s a ∧ zbt s b) ∧ ¬ ztwo (zTm M1) (M1 58 12) a b) (M1 58 12) 0 (M1 58 12).toNat) (-2)) := by
  have hn := h.2.1
  rw [← h.1]
  refine zif_cc (z_all _) (fun _ => zwy_c (fun a b a0 ab b1 => ?_) _ 0 (by decide) (by omega))
  have ta := hW.T h (i := a) ⟨a0, by omega⟩
  have tb := hW.T h (i := b) ⟨by omega, b1⟩
  have ga := h.2.2.2 a a0 (by omega)
  have gb := h.2.2.2 b (by omega) b1
  rw [ztwo_e hn.2 ⟨a0, by omega⟩ ⟨by omega, b1⟩ (by omega) ta.2.2.1 tb.2.2.1 ta.2.2.2 tb.2.2.2, ga 2 (by decide) (by decide), ga 3 (by decide) (by decide), gb 2 (by decide) (by decide), gb 3 (by decide) (by decide)]
theorem t_full (h : zTi M M1) (hW : zWf M) {k : Int} : (zif (0 ≤ k ∧ k ≤ 1) (if k = 0 then (zfa (fun i => zTc M i 2) (M 1 1).toNat).1 / zgc (zfa (fun i => zTc M i 2) (M 1 1).toNat).1 (zfa (fun i => zTc M i 2) (M 1 1).toNat).2 else (zfa (fun i => zTc M i 2) (M 1 1).toNat).2 / zgc (zfa (fun i => zTc M i 2) (M 1 1).toNat).1 (zfa (fun i => zTc M i 2) (M 1 1).toNat).2) (-4611686018427387904)) = (zif (0 ≤ k ∧ k ≤ 1) (if k = 0 then (zfb (fun i => zTm M1 i 2) (M1 58 12).toNat).1 else (zfb (fun i => zTm M1 i 2) (M1 58 12).toNat).2) (-4611686018427387904)) := by
  have hn := h.2.1
  have c : ∀ n : Nat, (n : Int) ≤ M 1 1 → zfb (fun i => zTm M1 i 2) n = zfb (fun i => zTc M i 2) n := by
    intro n
    induction n with
    | zero => exact fun _ => rfl
    | succ n ih =>
      intro hn
      have g := h.2.2.2 n (by omega) (by omega) 2 (by decide) (by decide)
      unfold zfb
      rw [ih (by omega), g]
  have e := zfull_e (p := fun i => zTc M i 2) (n := (M 1 1).toNat) (fun i i0 i1 => (hW.2 i i0 (by omega)).2.2.1.1)
  rw [← h.1, e.1, e.2, c _ (by omega)]
theorem zTi.sh (h : zTi M M1) {t s : Int} (ht : 0 ≤ t ∧ t < M 1 1) {i d : Int} (hi : 0 ≤ i ∧ i < M 1 1) : zct (zTm (zsh_ M1 t s)) (M1 58 7) d i ↔ (if i = t then zsq M (M 1 2) t s d else zct (zTc M) (M 1 2) d i) := by
  have g := h.2.2.2 i hi.1 hi.2
  have g0 := g 0 (by decide) (by decide)
  have g1 := g 1 (by decide) (by decide)
  have g2 := g 2 (by decide) (by decide)
  have g3 := g 3 (by decide) (by decide)
  by_cases c : i = t
  · subst c
    rw [if_pos rfl]
    unfold zct zsq zsh_
    have e3 : zTm (zU M1 65 i ((M1 65 i + s) % 60)) i 3 = (zTm M1 i 3 + s) % 60 := zU_s _ _ _ _
    rw [zTm_b (f := 0) (by omega) (by decide), zTm_b (f := 1) (by omega) (by decide), zTm_b (f := 2) (by omega) (by decide), e3, ← g0, ← g1, ← g2, ← g3, h.2.2.1]
    exact Iff.rfl
  · rw [if_neg c, h.ct hi, h.2.2.1]
    unfold zsh_
    rw [zct_e (T := zTm (zU M1 65 t ((M1 65 t + s) % 60))) (T' := zTm M1) (fun f f0 f1 => zTm_b (by omega) ⟨f0, f1⟩) rfl]
theorem zTi.fs (h : zTi M M1) {t s : Int} (ht : 0 ≤ t ∧ t < M 1 1) : zfs M (M 1 2) t s = zfm (zsh_ M1 t s) := by
  have hn := h.2.1
  funext d
  unfold zfs zsn
  have e := zwb_so (q := zct (zTc M) (M 1 2) d) (q' := fun i => if i = t then zsq M (M 1 2) t s d else zct (zTc M) (M 1 2) d i) (t := t) (n := (M 1 1).toNat) (by omega) (fun i hi => by rw [if_neg hi])
  rw [if_pos rfl] at e
  rw [e]
  have e7 : zsh_ M1 t s 58 7 = M1 58 7 := zU_a _ _ _ _ (by decide)
  have e12 : zsh_ M1 t s 58 12 = M1 58 12 := zU_a _ _ _ _ (by decide)
  unfold zfm
  rw [e7, e12, ← h.1]
  exact zso_c (fun i i0 i1 => (h.sh ht (by omega)).symm)
theorem t_shift (h : zTi M M1) {t : Int} : (zif (0 ≤ t ∧ t < M 1 1) (zfst (fun s => ¬ zcw (zfs M (M 1 2) t s) t 400) 0 60) (-2)) = (zif (0 ≤ t ∧ t < M1 58 12) (zfst (fun s => zmnS M1 t s) 0 60) (-2)) := by
  have hn := h.2.1
  refine zif_cc (by rw [h.1]) (fun q => zfst_c (fun s s0 s1 => ?_))
  rw [h.fs q]
  have e7 : zsh_ M1 t s 58 7 = M1 58 7 := zU_a _ _ _ _ (by decide)
  have e12 : zsh_ M1 t s 58 12 = M1 58 12 := zU_a _ _ _ _ (by decide)
  have e := zcw_so (q := fun d i => zct (zTm (zsh_ M1 t s)) (M1 58 7) d i) (f := zfm (zsh_ M1 t s)) (t := t) (n := (M1 58 12).toNat) (by rw [← h.1]; omega) (fun d => by unfold zfm; rw [e7, e12]) (m := 400)
  rw [e]
  unfold zmnS zmn
  rw [← h.1]
  exact ⟨fun y d d0 d1 hc u u0 u1 hu => y d d0 (by omega) hc u u0 (by omega) hu, fun y d d0 d1 hc u u0 u1 hu => y d d0 (by omega) hc u u0 (by omega) hu⟩
theorem t_join (h : zTi M M1) (hW : zWf M) {i j : Int} : (zif ((0 ≤ i ∧ i < M 1 1) ∧ (0 ≤ j ∧ j < M 1 1) ∧ i ≠ j) (zfst (fun s => zshr (zTc M i 2) ((zTc M i 3 + s) % 60) (zTc M j 2) (zTc M j 3)) 0 60) (-2)) = (zif ((0 ≤ i ∧ i < M1 58 12) ∧ (0 ≤ j ∧ j < M1 58 12) ∧ i ≠ j) (zfst (fun s => ztwoS M1 i j s) 0 60) (-2)) := by
  have hn := h.2.1
  refine zif_cc (by rw [h.1]) (fun q => zfst_c (fun s s0 s1 => ?_))
  have ta := hW.T h (i := i) q.1
  have tb := hW.T h (i := j) q.2.1
  have ga := h.2.2.2 i q.1.1 q.1.2
  have gb := h.2.2.2 j q.2.1.1 q.2.1.2
  have e3 : zTm (zU M1 65 i ((M1 65 i + s) % 60)) i 3 = (zTm M1 i 3 + s) % 60 := zU_s _ _ _ _
  have e2 : zTm (zU M1 65 i ((M1 65 i + s) % 60)) i 2 = zTm M1 i 2 := zTm_b (by omega) (by decide)
  have f2 : zTm (zU M1 65 i ((M1 65 i + s) % 60)) j 2 = zTm M1 j 2 := zTm_b (by omega) (by decide)
  have f3 : zTm (zU M1 65 i ((M1 65 i + s) % 60)) j 3 = zTm M1 j 3 := zTm_b (by omega) (by decide)
  unfold ztwoS zsh_
  rw [← h.1, ztwo_e (T := zTm (zU M1 65 i ((M1 65 i + s) % 60))) hn.2 q.1 q.2.1 q.2.2 (by rw [e2]; exact ta.2.2.1) (by rw [f2]; exact tb.2.2.1) (by rw [e3]; omega) (by rw [f3]; exact tb.2.2.2), e2, e3, f2, f3, ga 2 (by decide) (by decide), ga 3 (by decide) (by decide), gb 2 (by decide) (by decide), gb 3 (by decide) (by decide)]
theorem t_good (h : zTi M M1) (hx : zTr M tp z) {t m : Int} : (zif ((0 ≤ t ∧ t < M 1 1) ∧ (0 ≤ m ∧ m ≤ 1)) (if m = 0 then zgb (zgC M t) 59 else zgl (zgC M t) 59) (-2)) = (zif ((0 ≤ t ∧ t < M1 58 12) ∧ (0 ≤ m ∧ m ≤ 1)) (if m = 0 then zgb (zgm M1 tp z t) 59 else zgl (zgm M1 tp z t) 59) (-2)) := by
  have hn := h.2.1
  refine zif_cc (by rw [h.1]) (fun q => ?_)
  have e : zgC M t = zgm M1 tp z t := by
    funext s
    have g := h.2.2.2 t q.1.1 q.1.2
    unfold zgC zgm
    rw [h.fs q.1, hx 2 _ (by decide) (by decide), g 2 (by decide) (by decide), g 1 (by decide) (by decide)]
    have e12 : zsh_ M1 t s 58 12 = M1 58 12 := zU_a _ _ _ _ (by decide)
    have e2 : zsum (zcs M (zfm (zsh_ M1 t s))) 400 = zsum (zkm (zsh_ M1 t s) tp z (zfm (zsh_ M1 t s))) 400 := by
      refine zsum_c (fun d _ _ => ?_)
      rw [h.cs hx]
      unfold zkm
      rw [e12]
      refine zcost_e (fun _ _ _ _ => rfl) (fun i _ _ => ?_)
      unfold zsh_
      exact ⟨(zTm_b (by omega) (by decide)).symm, (zTm_b (by omega) (by decide)).symm, (zTm_b (by omega) (by decide)).symm⟩
    rw [e2]
  rw [e]
theorem t_drawn (h : zTi M M1) (hx : zTr M tp z) {s : Int} : (zsum (zcs M (zsn M (zdh s))) 400) = (zsum (zkm M1 tp z (zfh M1 (zdh s))) 400) := by
  rw [h.sn]
  exact zsum_c (fun d _ _ => h.cs hx _ d)
theorem t_chance (h : zTi M M1) {s m k : Int} : (zif ((1 ≤ m ∧ m ≤ 20) ∧ (0 ≤ k ∧ k ≤ 1)) (if k = 0 then zch M s m.toNat / zgc (zch M s m.toNat) m else m / zgc (zch M s m.toNat) m) (-4611686018427387904)) = (zif ((1 ≤ m ∧ m ≤ 20) ∧ (0 ≤ k ∧ k ≤ 1)) (if k = 0 then zchm M1 s m.toNat / zgc (zchm M1 s m.toNat) m else m / zgc (zchm M1 s m.toNat) m) (-4611686018427387904)) := by
  have e : zch M s m.toNat = zchm M1 s m.toNat := by
    unfold zch zchm
    refine zsum_c (fun i _ _ => ?_)
    rw [h.sn]
  rw [e]
end
