/-! HOW A TEXT IS READ, in words that serve both sides: states of a reader, steps -/
noncomputable def zit {α : Type} (q : Prop) (a b : α) : α := @ite α q (Classical.propDecidable q) a b
theorem zit_t {α : Type} {q : Prop} {a b : α} (h : q) : zit q a b = a := if_pos h
theorem zit_f {α : Type} {q : Prop} {a b : α} (h : ¬ q) : zit q a b = b := if_neg h
/-- token, its worth, where it starts, where it ends, the fault (-1 none) -/
abbrev zσ : Type := Int × Int × Int × Int × Int
abbrev zσ.tk (s : zσ) : Int := s.1
abbrev zσ.vl (s : zσ) : Int := s.2.1
abbrev zσ.sa (s : zσ) : Int := s.2.2.1
abbrev zσ.at (s : zσ) : Int := s.2.2.2.1
abbrev zσ.ft (s : zσ) : Int := s.2.2.2.2
/-- byte p of a tape of z bytes, -1 behind it -/
def zbp (tp : Int → Int) (z p : Int) : Int := if 0 ≤ p ∧ p < z then tp p else -1
/-- on from p, as long as q, k at most -/
noncomputable def zrn (q : Int → Prop) : Nat → Int → Int
  | 0, p => p
  | k + 1, p => zif (q p) (zrn q k (p + 1)) p
def zbk (b : Int) : Prop := b = 32 ∨ b = 10
def zlt (b : Int) : Prop := 97 ≤ b ∧ b ≤ 122
def zdg (b : Int) : Prop := 48 ≤ b ∧ b ≤ 57
/-- word w stands from s to e -/
def zwm (tp : Int → Int) (s e : Int) (w : Nat) : Prop := e - s = zln (w + 1) ∧ ∀ j : Nat, j < lenJS.getD (w + 1) 0 → zby (w + 1) j = tp (s + j)
noncomputable def zwt (tp : Int → Int) (s e : Int) : Nat → Int
  | 0 => 1
  | n + 1 => zif (zwm tp s e n) (if n < 6 then 3 else (n : Int)) (zwt tp s e n)
noncomputable def zwv (tp : Int → Int) (s e : Int) : Nat → Int
  | 0 => 0
  | n + 1 => zif (zwm tp s e n) (n : Int) (zwv tp s e n)
/-- the number from p on, digits as long as there are some -/
noncomputable def zdv (tp : Int → Int) (z : Int) : Nat → Int → Int → Int
  | 0, _, a => a
  | k + 1, p, a => zif (zdg (zbp tp z p)) (zdv tp z k (p + 1) (a * 10 + zbp tp z p - 48)) a
/-- the token from p on (no blank there) -/
noncomputable def ztk (tp : Int → Int) (z p ft : Int) : zσ :=
  zit (zbp tp z p = -1) (0, 0, p, p, ft)
    (zit (zlt (zbp tp z p)) (zwt tp p (zrn (fun j => zlt (zbp tp z j)) 160 p) 12, zwv tp p (zrn (fun j => zlt (zbp tp z j)) 160 p) 12, p, zrn (fun j => zlt (zbp tp z j)) 160 p, ft)
      (zit (zdg (zbp tp z p)) (if zrn (fun j => zdg (zbp tp z j)) 160 p - p ≤ 4 then 2 else 1, zdv tp z 160 p 0, p, zrn (fun j => zdg (zbp tp z j)) 160 p, ft)
        (if 0 ≤ zix2 13 (zbp tp z p) 0 8 then zbp tp z p else 1, 0, p, p + 1, ft)))
noncomputable def zadv (tp : Int → Int) (z : Int) (s : zσ) : zσ := ztk tp z (zrn (fun j => zbk (zbp tp z j)) 160 s.at) s.ft
def zfl (s : zσ) : zσ := (1, s.vl, s.sa, s.at, if s.ft = -1 then s.sa else s.ft)
noncomputable def znd (tp : Int → Int) (z k : Int) (s : zσ) : zσ := if s.tk = k then zadv tp z s else zfl s
/-- steps, and the state behind -/
abbrev zρ : Type := List Int × zσ
noncomputable def zlo (tp : Int → Int) (z : Int) (q : Int → Prop) (stp : Int → Int) (f : zσ → zρ) : Nat → zρ → zρ
  | 0, x => x
  | k + 1, x => zit (q x.2.tk) (zlo tp z q stp f k (x.1 ++ (f (zadv tp z x.2)).1 ++ [stp x.2.tk], (f (zadv tp z x.2)).2)) x
noncomputable def zTerm (tp : Int → Int) (z : Int) (f : zσ → zρ) (s : zσ) : zρ := zlo tp z (fun t => t = 42) (fun _ => -18) f 160 (f s)
noncomputable def zSum (tp : Int → Int) (z : Int) (f : zσ → zρ) (s : zσ) : zρ := zlo tp z (fun t => t = 43 ∨ t = 45) (fun t => if t = 43 then -16 else -17) f 160 (f s)
noncomputable def zAnd (tp : Int → Int) (z : Int) (f : zσ → zρ) (s : zσ) : zρ := zlo tp z (fun t => t = 10) (fun _ => -12) f 160 (f s)
noncomputable def zOr (tp : Int → Int) (z : Int) (f : zσ → zρ) (s : zσ) : zρ := zlo tp z (fun t => t = 9) (fun _ => -11) f 160 (f s)
noncomputable def zCmp (tp : Int → Int) (z : Int) (f : zσ → zρ) (s : zσ) : zρ :=
  zit ((f s).2.tk = 60 ∨ (f s).2.tk = 61) ((f s).1 ++ (f (zadv tp z (f s).2)).1 ++ [if (f s).2.tk = 60 then -14 else -15], (f (zadv tp z (f s).2)).2) (f s)
/-- a number or a name, else what o, e say of - and ( -/
noncomputable def zOneF (tp : Int → Int) (z : Int) (r : zσ → zρ) (s : zσ) : zρ :=
  if s.tk = 2 then ([s.vl], zadv tp z s) else if s.tk = 3 then ([-1 - s.vl], zadv tp z s) else r s
noncomputable def zOne0 (tp : Int → Int) (z : Int) (s : zσ) : zρ := zOneF tp z (fun s => ([], zfl s)) s
noncomputable def zOneS (tp : Int → Int) (z : Int) (o e : zσ → zρ) (s : zσ) : zρ :=
  zOneF tp z (fun s => if s.tk = 45 then ((o (zadv tp z s)).1 ++ [-19], (o (zadv tp z s)).2) else if s.tk = 40 then ((e (zadv tp z s)).1, znd tp z 41 (e (zadv tp z s)).2) else ([], zfl s)) s
noncomputable def zCm2 (tp : Int → Int) (z : Int) (o : zσ → zρ) : zσ → zρ := zCmp tp z (zSum tp z (zTerm tp z o))
noncomputable def zNot0 (tp : Int → Int) (z : Int) (o : zσ → zρ) (s : zσ) : zρ := if s.tk = 11 then ([], zfl s) else zCm2 tp z o s
noncomputable def zNotS (tp : Int → Int) (z : Int) (n o : zσ → zρ) (s : zσ) : zρ := if s.tk = 11 then ((n (zadv tp z s)).1 ++ [-13], (n (zadv tp z s)).2) else zCm2 tp z o s
noncomputable def zOr2 (tp : Int → Int) (z : Int) (n : zσ → zρ) : zσ → zρ := zOr tp z (zAnd tp z n)
/-- ONE and NOT, with room for r more open -/
noncomputable def zlv (tp : Int → Int) (z : Int) : Nat → (zσ → zρ) × (zσ → zρ)
  | 0 => (zOne0 tp z, zNot0 tp z (zOne0 tp z))
  | r + 1 => (zOneS tp z (zlv tp z r).1 (zOr2 tp z (zlv tp z r).2), zNotS tp z (zlv tp z r).2 (zOneS tp z (zlv tp z r).1 (zOr2 tp z (zlv tp z r).2)))
noncomputable def zpt (tp : Int → Int) (z k : Int) (s : zσ) : zρ := ((zOr2 tp z (zlv tp z 5).2 (znd tp z (6 + k) s)).1, znd tp z 59 (zOr2 tp z (zlv tp z 5).2 (znd tp z (6 + k) s)).2)
noncomputable def zp0 (tp : Int → Int) (z : Int) : zρ := zpt tp z 0 (zadv tp z (0, 0, 0, 0, -1))
noncomputable def zp1 (tp : Int → Int) (z : Int) : zρ := zpt tp z 1 (zp0 tp z).2
noncomputable def zp2 (tp : Int → Int) (z : Int) : zρ := zpt tp z 2 (zp1 tp z).2
noncomputable def zpF (tp : Int → Int) (z : Int) : Int := (znd tp z 0 (zp2 tp z).2).ft
/-! what holds of them: places; how many steps -/
theorem zrn_r (q : Int → Prop) : ∀ (k : Nat) (p : Int), p ≤ zrn q k p ∧ zrn q k p ≤ p + k := by
  intro k
  induction k with
  | zero => intro p; exact ⟨Int.le_refl _, by show p ≤ p + 0; omega⟩
  | succ k ih =>
    intro p
    have h := ih (p + 1)
    show p ≤ zif (q p) (zrn q k (p + 1)) p ∧ zif (q p) (zrn q k (p + 1)) p ≤ p + ((k + 1 : Nat) : Int)
    by_cases c : q p
    · rw [zif_t c]
      omega
    · rw [zif_f c]
      omega
theorem zrn_z {q : Int → Prop} {z : Int} (hq : ∀ p, z ≤ p → ¬ q p) : ∀ (k : Nat) (p : Int), p ≤ z → zrn q k p ≤ z := by
  intro k
  induction k with
  | zero => intro p h; exact h
  | succ k ih =>
    intro p h
    show zif (q p) (zrn q k (p + 1)) p ≤ z
    by_cases c : q p
    · rw [zif_t c]
      exact ih (p + 1) (by have := hq p; by_cases e : z ≤ p; exact absurd c (this e); omega)
    · rw [zif_f c]
      exact h
/-- with room enough the end is no q, and all ahead of it are -/
theorem zrn_e {q : Int → Prop} {z : Int} (hq : ∀ p, z ≤ p → ¬ q p) : ∀ (k : Nat) (p : Int), z - p ≤ k → (¬ q (zrn q k p)) ∧ ∀ j : Int, p ≤ j → j < zrn q k p → q j := by
  intro k
  induction k with
  | zero => intro p h; exact ⟨hq p (by omega), fun j h1 h2 => by have : zrn q 0 p = p := rfl; omega⟩
  | succ k ih =>
    intro p h
    show ¬ q (zif (q p) (zrn q k (p + 1)) p) ∧ ∀ j : Int, p ≤ j → j < zif (q p) (zrn q k (p + 1)) p → q j
    by_cases c : q p
    · rw [zif_t c]
      have h2 := ih (p + 1) (by omega)
      refine ⟨h2.1, fun j h3 h4 => ?_⟩
      by_cases e : j = p
      · rw [e]; exact c
      · exact h2.2 j (by omega) h4
    · rw [zif_f c]
      exact ⟨c, fun j h1 h2 => by omega⟩
theorem zrn_1 {q : Int → Prop} {k : Nat} {p : Int} (h : q p) : zrn q (k + 1) p = zrn q k (p + 1) := zif_t h
theorem zrn_0 {q : Int → Prop} {k : Nat} {p : Int} (h : ¬ q p) : zrn q k p = p := by
  cases k with
  | zero => rfl
  | succ k => exact zif_f h
theorem zbp_z {tp : Int → Int} {z p : Int} (h : z ≤ p) : zbp tp z p = -1 := if_neg (by omega)
theorem zbk_z {tp : Int → Int} {z : Int} : ∀ p, z ≤ p → ¬ zbk (zbp tp z p) := fun p h => by rw [zbp_z h]; unfold zbk; omega
theorem zlt_z {tp : Int → Int} {z : Int} : ∀ p, z ≤ p → ¬ zlt (zbp tp z p) := fun p h => by rw [zbp_z h]; unfold zlt; omega
theorem zdg_z {tp : Int → Int} {z : Int} : ∀ p, z ≤ p → ¬ zdg (zbp tp z p) := fun p h => by rw [zbp_z h]; unfold zdg; omega
/-- a state as readers leave it: places on the tape of z bytes; a worth is small; a fault ends all -/
def zσo (z : Int) (s : zσ) : Prop := (0 ≤ s.sa ∧ s.sa ≤ s.at ∧ s.at ≤ z) ∧ (s.tk = 2 → 0 ≤ s.vl ∧ s.vl ≤ 9999) ∧ (s.tk = 3 → 0 ≤ s.vl ∧ s.vl ≤ 5) ∧ (s.ft ≠ -1 → s.tk = 1) ∧ (0 ≤ s.tk ∧ s.tk ≤ 255) ∧ (-1 ≤ s.ft ∧ s.ft ≤ 160)
/-- a token that may be taken in -/
def zlive (s : zσ) : Prop := s.tk ≠ 0 ∧ s.tk ≠ 1
theorem zdv_r {tp : Int → Int} {z : Int} : ∀ (k : Nat) (p a : Int), 0 ≤ a → 0 ≤ zdv tp z k p a ∧ zdv tp z k p a + 1 ≤ (a + 1) * 10 ^ (zrn (fun j => zdg (zbp tp z j)) k p - p).toNat := by
  intro k
  induction k with
  | zero =>
    intro p a h
    have e : zrn (fun j => zdg (zbp tp z j)) 0 p = p := rfl
    rw [e, Int.sub_self]
    show 0 ≤ a ∧ a + 1 ≤ (a + 1) * 10 ^ 0
    omega
  | succ k ih =>
    intro p a h
    show 0 ≤ zif (zdg (zbp tp z p)) (zdv tp z k (p + 1) (a * 10 + zbp tp z p - 48)) a ∧ zif (zdg (zbp tp z p)) (zdv tp z k (p + 1) (a * 10 + zbp tp z p - 48)) a + 1 ≤ (a + 1) * 10 ^ (zif (zdg (zbp tp z p)) (zrn (fun j => zdg (zbp tp z j)) k (p + 1)) p - p).toNat
    by_cases c : zdg (zbp tp z p)
    · rw [zif_t c, zif_t c]
      have c2 := c
      unfold zdg at c2
      have i1 := ih (p + 1) (a * 10 + zbp tp z p - 48) (by omega)
      have r1 := zrn_r (fun j => zdg (zbp tp z j)) k (p + 1)
      refine ⟨i1.1, Int.le_trans i1.2 ?_⟩
      rw [show (zrn (fun j => zdg (zbp tp z j)) k (p + 1) - p).toNat = (zrn (fun j => zdg (zbp tp z j)) k (p + 1) - (p + 1)).toNat + 1 by omega, Int.pow_succ, Int.mul_comm (10 ^ _) 10, ← Int.mul_assoc]
      exact Int.mul_le_mul_of_nonneg_right (by omega) (Int.le_of_lt (Int.pow_pos (by decide)))
    · rw [zif_f c, zif_f c, Int.sub_self]
      show 0 ≤ a ∧ a + 1 ≤ (a + 1) * 10 ^ 0
      omega
theorem zwt_r {tp : Int → Int} {s e : Int} : ∀ n : Nat, n ≤ 12 → (zwt tp s e n = 1) ∨ (zwt tp s e n = 3 ∧ 0 ≤ zwv tp s e n ∧ zwv tp s e n ≤ 5) ∨ (6 ≤ zwt tp s e n ∧ zwt tp s e n ≤ 11) := by
  intro n
  induction n with
  | zero => intro _; exact Or.inl rfl
  | succ n ih =>
    intro h
    show (zif (zwm tp s e n) (if n < 6 then 3 else (n : Int)) (zwt tp s e n) = 1) ∨ (zif (zwm tp s e n) (if n < 6 then 3 else (n : Int)) (zwt tp s e n) = 3 ∧ 0 ≤ zif (zwm tp s e n) (n : Int) (zwv tp s e n) ∧ zif (zwm tp s e n) (n : Int) (zwv tp s e n) ≤ 5) ∨ (6 ≤ zif (zwm tp s e n) (if n < 6 then 3 else (n : Int)) (zwt tp s e n) ∧ zif (zwm tp s e n) (if n < 6 then 3 else (n : Int)) (zwt tp s e n) ≤ 11)
    by_cases c : zwm tp s e n
    · rw [zif_t c, zif_t c]
      by_cases d : n < 6
      · rw [if_pos d]
        omega
      · rw [if_neg d]
        omega
    · rw [zif_f c, zif_f c]
      exact ih (by omega)
/-- a tape: at most 160 bytes -/
def ztp (tp : Int → Int) (z : Int) : Prop := (0 ≤ z ∧ z ≤ 160) ∧ ∀ j : Int, 0 ≤ j → j < z → 0 ≤ tp j ∧ tp j ≤ 255
theorem zbp_r {tp : Int → Int} {z p : Int} (h : ztp tp z) : -1 ≤ zbp tp z p ∧ zbp tp z p ≤ 255 := by
  unfold zbp
  split
  · rename_i c
    have := h.2 p c.1 c.2
    omega
  · decide
theorem zix2_0 {x : Int} (h : 0 ≤ zix2 13 x 0 8) : x = 40 ∨ x = 41 ∨ x = 59 ∨ x = 43 ∨ x = 45 ∨ x = 42 ∨ x = 60 ∨ x = 61 := by
  by_cases a : x = 40 ∨ x = 41 ∨ x = 59 ∨ x = 43 ∨ x = 45 ∨ x = 42 ∨ x = 60 ∨ x = 61
  · exact a
  · exfalso
    have e : zix2 13 x 0 8 = -1 := by
      simp only [zix2, show zby 13 (Int.toNat 0) = 40 from by decide +kernel, show zby 13 (Int.toNat (0 + 1)) = 41 from by decide +kernel, show zby 13 (Int.toNat (0 + 1 + 1)) = 59 from by decide +kernel, show zby 13 (Int.toNat (0 + 1 + 1 + 1)) = 43 from by decide +kernel, show zby 13 (Int.toNat (0 + 1 + 1 + 1 + 1)) = 45 from by decide +kernel, show zby 13 (Int.toNat (0 + 1 + 1 + 1 + 1 + 1)) = 42 from by decide +kernel, show zby 13 (Int.toNat (0 + 1 + 1 + 1 + 1 + 1 + 1)) = 60 from by decide +kernel, show zby 13 (Int.toNat (0 + 1 + 1 + 1 + 1 + 1 + 1 + 1)) = 61 from by decide +kernel]
      rw [if_neg (by omega), if_neg (by omega), if_neg (by omega), if_neg (by omega), if_neg (by omega), if_neg (by omega), if_neg (by omega), if_neg (by omega)]
    omega
theorem zix2_1 {x : Int} (h : x = 40 ∨ x = 41 ∨ x = 59 ∨ x = 43 ∨ x = 45 ∨ x = 42 ∨ x = 60 ∨ x = 61) : 0 ≤ zix2 13 x 0 8 := by
  rcases h with rfl | rfl | rfl | rfl | rfl | rfl | rfl | rfl <;> decide +kernel
theorem zσo_ok {z a b c d : Int} (h1 : 0 ≤ c ∧ c ≤ d ∧ d ≤ z) (h2 : a = 2 → 0 ≤ b ∧ b ≤ 9999) (h3 : a = 3 → 0 ≤ b ∧ b ≤ 5) (h4 : 0 ≤ a ∧ a ≤ 255) : zσo z (a, b, c, d, -1) :=
  ⟨h1, h2, h3, fun q => absurd rfl q, h4, ⟨by show (-1 : Int) ≤ -1; decide, by show (-1 : Int) ≤ 160; decide⟩⟩
theorem ztk_o {tp : Int → Int} {z p : Int} (hT : ztp tp z) (h : 0 ≤ p ∧ p ≤ z) : zσo z (ztk tp z p (-1)) ∧ p ≤ (ztk tp z p (-1)).at ∧ (ztk tp z p (-1)).ft = -1 ∧ ((ztk tp z p (-1)).tk ≠ 0 → p + 1 ≤ (ztk tp z p (-1)).at) := by
  have hb := zbp_r (p := p) hT
  unfold ztk
  by_cases c0 : zbp tp z p = -1
  · rw [zit_t c0]
    exact ⟨⟨⟨h.1, Int.le_refl _, h.2⟩, fun q => absurd q (show (0 : Int) ≠ 2 by decide), fun q => absurd q (show (0 : Int) ≠ 3 by decide), fun q => absurd rfl q, ⟨by show (0 : Int) ≤ 0; decide, by show (0 : Int) ≤ 255; decide⟩, ⟨by show (-1 : Int) ≤ -1; decide, by show (-1 : Int) ≤ 160; decide⟩⟩, Int.le_refl _, rfl, fun q => absurd rfl q⟩
  · rw [zit_f c0]
    have hz : p < z := by
      by_cases e : z ≤ p
      · exact absurd (zbp_z e) c0
      · omega
    by_cases c1 : zlt (zbp tp z p)
    · rw [zit_t c1]
      have a := zrn_r (fun j => zlt (zbp tp z j)) 159 (p + 1)
      have b := zrn_z (q := fun j => zlt (zbp tp z j)) (z := z) zlt_z 160 p h.2
      have e : zrn (fun j => zlt (zbp tp z j)) 160 p = zrn (fun j => zlt (zbp tp z j)) 159 (p + 1) := zrn_1 (q := fun j => zlt (zbp tp z j)) c1
      generalize zrn (fun j => zlt (zbp tp z j)) 160 p = x at *
      have w := zwt_r (tp := tp) (s := p) (e := x) 12 (Nat.le_refl _)
      generalize zwt tp p x 12 = w1 at *
      generalize zwv tp p x 12 = w2 at *
      exact ⟨zσo_ok ⟨h.1, by omega, b⟩ (fun q => by omega) (fun q => by omega) (by omega), (by omega : p ≤ x), rfl, fun _ => (by omega : p + 1 ≤ x)⟩
    · rw [zit_f c1]
      by_cases c2 : zdg (zbp tp z p)
      · rw [zit_t c2]
        have a := zrn_r (fun j => zdg (zbp tp z j)) 159 (p + 1)
        have b := zrn_z (q := fun j => zdg (zbp tp z j)) (z := z) zdg_z 160 p h.2
        have e : zrn (fun j => zdg (zbp tp z j)) 160 p = zrn (fun j => zdg (zbp tp z j)) 159 (p + 1) := zrn_1 (q := fun j => zdg (zbp tp z j)) c2
        have v := zdv_r (tp := tp) (z := z) 160 p 0 (Int.le_refl _)
        generalize zrn (fun j => zdg (zbp tp z j)) 160 p = x at *
        generalize zdv tp z 160 p 0 = y at *
        have v2 : x - p ≤ 4 → y ≤ 9999 := by
          intro q
          have e4 : (x - p).toNat = 0 ∨ (x - p).toNat = 1 ∨ (x - p).toNat = 2 ∨ (x - p).toNat = 3 ∨ (x - p).toNat = 4 := by omega
          have v3 := v.2
          rcases e4 with e5 | e5 | e5 | e5 | e5 <;> rw [e5] at v3 <;> simp at v3 <;> omega
        by_cases d : x - p ≤ 4
        · rw [if_pos d]
          have := v2 d
          exact ⟨zσo_ok ⟨h.1, by omega, b⟩ (fun q => by omega) (fun q => by omega) (by omega), (by omega : p ≤ x), rfl, fun _ => (by omega : p + 1 ≤ x)⟩
        · rw [if_neg d]
          exact ⟨zσo_ok ⟨h.1, by omega, b⟩ (fun q => by omega) (fun q => by omega) (by omega), (by omega : p ≤ x), rfl, fun _ => (by omega : p + 1 ≤ x)⟩
      · rw [zit_f c2]
        by_cases d : 0 ≤ zix2 13 (zbp tp z p) 0 8
        · rw [if_pos d]
          have := zix2_0 d
          exact ⟨zσo_ok ⟨h.1, by omega, by omega⟩ (fun q => by omega) (fun q => by omega) (by omega), (by omega : p ≤ p + 1), rfl, fun _ => Int.le_refl _⟩
        · rw [if_neg d]
          exact ⟨zσo_ok ⟨h.1, by omega, by omega⟩ (fun q => by omega) (fun q => by omega) (by omega), (by omega : p ≤ p + 1), rfl, fun _ => Int.le_refl _⟩
theorem zadv_o {tp : Int → Int} {z : Int} {s : zσ} (hT : ztp tp z) (h : 0 ≤ s.at ∧ s.at ≤ z) (hf : s.ft = -1) : zσo z (zadv tp z s) ∧ s.at ≤ (zadv tp z s).at ∧ (zadv tp z s).ft = -1 ∧ ((zadv tp z s).tk ≠ 0 → s.at + 1 ≤ (zadv tp z s).at) := by
  have a := zrn_r (fun j => zbk (zbp tp z j)) 160 s.at
  have b := zrn_z (q := fun j => zbk (zbp tp z j)) (z := z) zbk_z 160 s.at h.2
  have c := ztk_o (p := zrn (fun j => zbk (zbp tp z j)) 160 s.at) hT ⟨by omega, b⟩
  unfold zadv
  rw [hf]
  exact ⟨c.1, by omega, c.2.2.1, fun q => by have := c.2.2.2 q; omega⟩
/-- how much has been taken in -/
noncomputable def zcn (s : zσ) : Int := zif (zlive s) (s.at - 1) s.at
theorem zcn_r (s : zσ) : s.at - 1 ≤ zcn s ∧ zcn s ≤ s.at := by
  unfold zcn
  by_cases c : zlive s
  · rw [zif_t c]; omega
  · rw [zif_f c]; omega
/-- from s to r, n steps at most made between -/
def zgx (z : Int) (s : zσ) (n : Int) (r : zσ) : Prop := zσo z r ∧ (s.ft ≠ -1 → r.ft ≠ -1) ∧ s.at ≤ r.at ∧ n + zcn s ≤ zcn r ∧ (zlive r → zlive s)
theorem zgx.tr {z n m : Int} {s r t : zσ} (h : zgx z s n r) (h2 : zgx z r m t) : zgx z s (n + m) t := by
  obtain ⟨a1, a2, a3, a4, a5⟩ := h
  obtain ⟨b1, b2, b3, b4, b5⟩ := h2
  exact ⟨b1, fun q => b2 (a2 q), by omega, by omega, fun q => a5 (b5 q)⟩
theorem zgx.le {z n m : Int} {s r : zσ} (h : zgx z s n r) (hm : m ≤ n) : zgx z s m r := by
  obtain ⟨a1, a2, a3, a4, a5⟩ := h
  exact ⟨a1, a2, a3, by omega, a5⟩
theorem zgx.rf {z : Int} {s : zσ} (h : zσo z s) : zgx z s 0 s := ⟨h, fun q => q, Int.le_refl _, by omega, fun q => q⟩
theorem zσo.live {z : Int} {s : zσ} (h : zσo z s) (hl : zlive s) : s.ft = -1 := by
  by_cases e : s.ft = -1
  · exact e
  · exact absurd (h.2.2.2.1 e) hl.2
theorem zgx_fl {z : Int} {s : zσ} (hz : z ≤ 160) (h : zσo z s) : zgx z s 0 (zfl s) ∧ ¬ zlive (zfl s) := by
  have a := zcn_r s
  have b : zcn (zfl s) = s.at := by unfold zcn; exact zif_f (fun q => q.2 rfl)
  obtain ⟨h1, h2, h3, h4, h5, h6⟩ := h
  have e : (zfl s).ft = if s.ft = -1 then s.sa else s.ft := rfl
  have e2 : -1 ≤ (if s.ft = -1 then s.sa else s.ft) ∧ (if s.ft = -1 then s.sa else s.ft) ≤ 160 := by split <;> omega
  refine ⟨⟨⟨h1, fun q => absurd q (show (1 : Int) ≠ 2 by decide), fun q => absurd q (show (1 : Int) ≠ 3 by decide), fun _ => rfl, ⟨by show (0 : Int) ≤ 1; decide, by show (1 : Int) ≤ 255; decide⟩, by rw [e]; exact e2⟩, fun q => ?_, Int.le_refl _, by omega, fun q => absurd rfl q.2⟩, fun q => q.2 rfl⟩
  rw [e, if_neg q]
  exact q
theorem zgx_ad {tp : Int → Int} {z : Int} {s : zσ} (hT : ztp tp z) (h : zσo z s) (hl : zlive s) : zgx z s 1 (zadv tp z s) ∧ ((zadv tp z s).tk ≠ 0 → s.at < (zadv tp z s).at) := by
  have a := zadv_o (tp := tp) (z := z) (s := s) hT (by have := h.1; omega) (h.live hl)
  have b : zcn s = s.at - 1 := by unfold zcn; exact zif_t hl
  have c := zcn_r (zadv tp z s)
  refine ⟨⟨a.1, fun q => absurd (h.live hl) q, a.2.1, ?_, fun _ => hl⟩, fun q => by have := a.2.2.2 q; omega⟩
  by_cases e : (zadv tp z s).tk = 0
  · have d : zcn (zadv tp z s) = (zadv tp z s).at := by unfold zcn; exact zif_f (fun q => q.1 e)
    omega
  · have := a.2.2.2 e
    omega
theorem zgx_nd {tp : Int → Int} {z k : Int} {s : zσ} (hT : ztp tp z) (h : zσo z s) (hk : k ≠ 0 ∧ k ≠ 1) : zgx z s 0 (znd tp z k s) := by
  unfold znd
  by_cases c : s.tk = k
  · rw [if_pos c]
    exact (zgx_ad hT h ⟨by omega, by omega⟩).1.le (by decide)
  · rw [if_neg c]
    exact (zgx_fl hT.1.2 h).1
/-- steps are small -/
def zsm (L : List Int) : Prop := ∀ x ∈ L, -19 ≤ x ∧ x ≤ 9999
theorem zsm_a {L K : List Int} (h : zsm L) (h2 : zsm K) : zsm (L ++ K) := fun x hx => (List.mem_append.mp hx).elim (h x) (h2 x)
theorem zsm_1 {x : Int} (h : -19 ≤ x ∧ x ≤ 9999) : zsm [x] := fun y hy => by rw [List.mem_singleton.mp hy]; exact h
theorem zsm_0 : zsm [] := fun x hx => by simp at hx
/-- a reader -/
def zgd (z : Int) (f : zσ → zρ) : Prop := ∀ s : zσ, zσo z s → zgx z s (f s).1.length (f s).2 ∧ (zlive (f s).2 → s.at < (f s).2.at) ∧ zsm (f s).1
theorem zlo_gd {tp : Int → Int} {z : Int} {q : Int → Prop} {stp : Int → Int} {f : zσ → zρ} (hT : ztp tp z) (hf : zgd z f) (hq : ∀ t, q t → t ≠ 0 ∧ t ≠ 1) (hs : ∀ t, -19 ≤ stp t ∧ stp t ≤ 9999) : ∀ (k : Nat) (x : zρ), zσo z x.2 → zsm x.1 → zgx z x.2 ((zlo tp z q stp f k x).1.length - x.1.length) (zlo tp z q stp f k x).2 ∧ zsm (zlo tp z q stp f k x).1 := by
  intro k
  induction k with
  | zero =>
    intro x h h2
    have := zgx.rf h
    refine ⟨?_, h2⟩
    show zgx z x.2 ((x.1.length : Int) - x.1.length) x.2
    rw [Int.sub_self]
    exact this
  | succ k ih =>
    intro x h h2
    show zgx z x.2 ((zit (q x.2.tk) (zlo tp z q stp f k (x.1 ++ (f (zadv tp z x.2)).1 ++ [stp x.2.tk], (f (zadv tp z x.2)).2)) x).1.length - x.1.length) (zit (q x.2.tk) (zlo tp z q stp f k (x.1 ++ (f (zadv tp z x.2)).1 ++ [stp x.2.tk], (f (zadv tp z x.2)).2)) x).2 ∧ zsm (zit (q x.2.tk) (zlo tp z q stp f k (x.1 ++ (f (zadv tp z x.2)).1 ++ [stp x.2.tk], (f (zadv tp z x.2)).2)) x).1
    by_cases c : q x.2.tk
    · rw [zit_t c]
      have a := zgx_ad hT h (hq _ c)
      have b := hf _ a.1.1
      have i := ih (x.1 ++ (f (zadv tp z x.2)).1 ++ [stp x.2.tk], (f (zadv tp z x.2)).2) b.1.1 (zsm_a (zsm_a h2 b.2.2) (zsm_1 (hs _)))
      have e : ((x.1 ++ (f (zadv tp z x.2)).1 ++ [stp x.2.tk]).length : Int) = x.1.length + (f (zadv tp z x.2)).1.length + 1 := by simp [Int.add_assoc]
      refine ⟨((a.1.tr b.1).tr i.1).le ?_, i.2⟩
      show _ ≤ 1 + ((f (zadv tp z x.2)).1.length : Int) + (((zlo tp z q stp f k (x.1 ++ (f (zadv tp z x.2)).1 ++ [stp x.2.tk], (f (zadv tp z x.2)).2)).1.length : Int) - ((x.1 ++ (f (zadv tp z x.2)).1 ++ [stp x.2.tk]).length : Int))
      rw [e]
      omega
    · rw [zit_f c, Int.sub_self]
      exact ⟨zgx.rf h, h2⟩
theorem zlp_gd {tp : Int → Int} {z : Int} {q : Int → Prop} {stp : Int → Int} {f : zσ → zρ} (hT : ztp tp z) (hf : zgd z f) (hq : ∀ t, q t → t ≠ 0 ∧ t ≠ 1) (hs : ∀ t, -19 ≤ stp t ∧ stp t ≤ 9999) : zgd z (fun s => zlo tp z q stp f 160 (f s)) := by
  intro s h
  have a := hf s h
  have b := zlo_gd hT hf hq hs 160 (f s) a.1.1 a.2.2
  refine ⟨(a.1.tr b.1).le ?_, fun l => ?_, b.2⟩
  · show ((zlo tp z q stp f 160 (f s)).1.length : Int) ≤ _
    omega
  · have h1 := a.2.1 (b.1.2.2.2.2 l)
    have h2 := b.1.2.2.1
    show s.at < (zlo tp z q stp f 160 (f s)).2.at
    omega
theorem zTerm_gd {tp : Int → Int} {z : Int} {f : zσ → zρ} (hT : ztp tp z) (hf : zgd z f) : zgd z (zTerm tp z f) := zlp_gd hT hf (fun t h => by omega) (fun t => by decide)
theorem zSum_gd {tp : Int → Int} {z : Int} {f : zσ → zρ} (hT : ztp tp z) (hf : zgd z f) : zgd z (zSum tp z f) := zlp_gd hT hf (fun t h => by omega) (fun t => by split <;> decide)
theorem zAnd_gd {tp : Int → Int} {z : Int} {f : zσ → zρ} (hT : ztp tp z) (hf : zgd z f) : zgd z (zAnd tp z f) := zlp_gd hT hf (fun t h => by omega) (fun t => by decide)
theorem zOr_gd {tp : Int → Int} {z : Int} {f : zσ → zρ} (hT : ztp tp z) (hf : zgd z f) : zgd z (zOr tp z f) := zlp_gd hT hf (fun t h => by omega) (fun t => by decide)
theorem zCmp_gd {tp : Int → Int} {z : Int} {f : zσ → zρ} (hT : ztp tp z) (hf : zgd z f) : zgd z (zCmp tp z f) := by
  intro s h
  have a := hf s h
  unfold zCmp
  by_cases c : (f s).2.tk = 60 ∨ (f s).2.tk = 61
  · rw [zit_t c]
    have b := zgx_ad hT a.1.1 (s := (f s).2) ⟨by omega, by omega⟩
    have d := hf _ b.1.1
    refine ⟨((a.1.tr b.1).tr d.1).le ?_, fun l => ?_, zsm_a (zsm_a a.2.2 d.2.2) (zsm_1 (by split <;> decide))⟩
    · simp only [List.length_append, List.length_cons, List.length_nil]
      omega
    · have h1 := a.1.2.2.1
      have h2 := b.1.2.2.1
      have h3 := d.2.1 l
      show s.at < (f (zadv tp z (f s).2)).2.at
      omega
  · rw [zit_f c]
    exact a
theorem zOneF_gd {tp : Int → Int} {z : Int} {r : zσ → zρ} (hT : ztp tp z) (hr : zgd z r) : zgd z (zOneF tp z r) := by
  intro s h
  unfold zOneF
  by_cases c : s.tk = 2
  · rw [if_pos c]
    have a := zgx_ad hT h (s := s) ⟨by omega, by omega⟩
    exact ⟨a.1, fun l => a.2 l.1, zsm_1 (by have := h.2.1 c; omega)⟩
  · rw [if_neg c]
    by_cases d : s.tk = 3
    · rw [if_pos d]
      have a := zgx_ad hT h (s := s) ⟨by omega, by omega⟩
      exact ⟨a.1, fun l => a.2 l.1, zsm_1 (by have := h.2.2.1 d; omega)⟩
    · rw [if_neg d]
      exact hr s h
theorem zfl_gd {z : Int} (hz : z ≤ 160) : zgd z (fun s => ([], zfl s)) := fun s h => ⟨(zgx_fl hz h).1, fun l => absurd l (zgx_fl hz h).2, zsm_0⟩
theorem zOne0_gd {tp : Int → Int} {z : Int} (hT : ztp tp z) : zgd z (zOne0 tp z) := zOneF_gd hT (zfl_gd hT.1.2)
theorem zOneS_gd {tp : Int → Int} {z : Int} {o e : zσ → zρ} (hT : ztp tp z) (ho : zgd z o) (he : zgd z e) : zgd z (zOneS tp z o e) := by
  refine zOneF_gd hT (fun s h => ?_)
  by_cases c : s.tk = 45
  · rw [if_pos c]
    have a := zgx_ad hT h (s := s) ⟨by omega, by omega⟩
    have b := ho _ a.1.1
    refine ⟨(a.1.tr b.1).le ?_, fun l => ?_, zsm_a b.2.2 (zsm_1 (by decide))⟩
    · simp only [List.length_append, List.length_cons, List.length_nil]
      omega
    · have h1 := a.1.2.2.1
      have h3 := b.2.1 l
      show s.at < (o (zadv tp z s)).2.at
      omega
  · rw [if_neg c]
    by_cases d : s.tk = 40
    · rw [if_pos d]
      have a := zgx_ad hT h (s := s) ⟨by omega, by omega⟩
      have b := he _ a.1.1
      have n := zgx_nd (k := 41) hT b.1.1 (by decide)
      refine ⟨((a.1.tr b.1).tr n).le (by show ((e (zadv tp z s)).1.length : Int) ≤ _; omega), fun l => ?_, b.2.2⟩
      have h1 := a.1.2.2.1
      have h2 := n.2.2.1
      have h3 := b.2.1 (n.2.2.2.2 l)
      show s.at < (znd tp z 41 (e (zadv tp z s)).2).at
      omega
    · rw [if_neg d]
      exact zfl_gd hT.1.2 s h
theorem zCm2_gd {tp : Int → Int} {z : Int} {o : zσ → zρ} (hT : ztp tp z) (ho : zgd z o) : zgd z (zCm2 tp z o) := zCmp_gd hT (zSum_gd hT (zTerm_gd hT ho))
theorem zNot0_gd {tp : Int → Int} {z : Int} {o : zσ → zρ} (hT : ztp tp z) (ho : zgd z o) : zgd z (zNot0 tp z o) := by
  intro s h
  unfold zNot0
  by_cases c : s.tk = 11
  · rw [if_pos c]
    exact zfl_gd hT.1.2 s h
  · rw [if_neg c]
    exact zCm2_gd hT ho s h
theorem zNotS_gd {tp : Int → Int} {z : Int} {n o : zσ → zρ} (hT : ztp tp z) (hn : zgd z n) (ho : zgd z o) : zgd z (zNotS tp z n o) := by
  intro s h
  unfold zNotS
  by_cases c : s.tk = 11
  · rw [if_pos c]
    have a := zgx_ad hT h (s := s) ⟨by omega, by omega⟩
    have b := hn _ a.1.1
    refine ⟨(a.1.tr b.1).le ?_, fun l => ?_, zsm_a b.2.2 (zsm_1 (by decide))⟩
    · simp only [List.length_append, List.length_cons, List.length_nil]
      omega
    · have h1 := a.1.2.2.1
      have h3 := b.2.1 l
      show s.at < (n (zadv tp z s)).2.at
      omega
  · rw [if_neg c]
    exact zCm2_gd hT ho s h
theorem zOr2_gd {tp : Int → Int} {z : Int} {n : zσ → zρ} (hT : ztp tp z) (hn : zgd z n) : zgd z (zOr2 tp z n) := zOr_gd hT (zAnd_gd hT hn)
theorem zlv_gd {tp : Int → Int} {z : Int} (hT : ztp tp z) : ∀ r : Nat, zgd z (zlv tp z r).1 ∧ zgd z (zlv tp z r).2 := by
  intro r
  induction r with
  | zero => exact ⟨zOne0_gd hT, zNot0_gd hT (zOne0_gd hT)⟩
  | succ r ih => exact ⟨zOneS_gd hT ih.1 (zOr2_gd hT ih.2), zNotS_gd hT ih.2 (zOneS_gd hT ih.1 (zOr2_gd hT ih.2))⟩
theorem zpt_gd {tp : Int → Int} {z k : Int} {s : zσ} (hT : ztp tp z) (hk : 0 ≤ k ∧ k ≤ 2) (h : zσo z s) : zgx z s (zpt tp z k s).1.length (zpt tp z k s).2 ∧ zsm (zpt tp z k s).1 := by
  have a := zgx_nd (k := 6 + k) hT h (by omega)
  have b := zOr2_gd hT (zlv_gd hT 5).2 _ a.1
  have c := zgx_nd (k := 59) hT b.1.1 (by decide)
  exact ⟨((a.tr b.1).tr c).le (by show ((zOr2 tp z (zlv tp z 5).2 (znd tp z (6 + k) s)).1.length : Int) ≤ _; omega), b.2.2⟩
theorem zstart {tp : Int → Int} {z : Int} (hT : ztp tp z) : zσo z (zadv tp z (0, 0, 0, 0, -1)) := (zadv_o hT (s := (0, 0, 0, 0, -1)) ⟨Int.le_refl _, hT.1.1⟩ rfl).1
theorem zp_all {tp : Int → Int} {z : Int} (hT : ztp tp z) : (zσo z (zp0 tp z).2 ∧ zσo z (zp1 tp z).2 ∧ zσo z (zp2 tp z).2) ∧ (zsm (zp0 tp z).1 ∧ zsm (zp1 tp z).1 ∧ zsm (zp2 tp z).1) ∧ (zp0 tp z).1.length + (zp1 tp z).1.length + (zp2 tp z).1.length ≤ 160 := by
  have s0 := zstart hT
  have a := zpt_gd (k := 0) hT (by decide) s0
  have b := zpt_gd (k := 1) hT (by decide) a.1.1
  have c := zpt_gd (k := 2) hT (by decide) b.1.1
  refine ⟨⟨a.1.1, b.1.1, c.1.1⟩, ⟨a.2, b.2, c.2⟩, ?_⟩
  have d := (a.1.tr (b.1.tr c.1)).2.2.2.1
  have e := zcn_r (zadv tp z (0, 0, 0, 0, -1))
  have e2 := s0.1
  have f := zcn_r (zp2 tp z).2
  have g := c.1.1.1
  have h := hT.1
  by_cases l : zlive (zadv tp z (0, 0, 0, 0, -1))
  · have o := zadv_o hT (s := (0, 0, 0, 0, -1)) ⟨Int.le_refl _, hT.1.1⟩ rfl
    have o2 := o.2.2.2 l.1
    have z0 : zσ.at (0, 0, 0, 0, -1) = 0 := rfl
    show (zpt tp z 0 _).1.length + (zpt tp z 1 (zpt tp z 0 _).2).1.length + (zpt tp z 2 (zpt tp z 1 (zpt tp z 0 _).2).2).1.length ≤ 160
    have f2 : zcn (zpt tp z 2 (zpt tp z 1 (zpt tp z 0 (zadv tp z (0, 0, 0, 0, -1))).2).2).2 ≤ z := by
      have := zcn_r (zpt tp z 2 (zpt tp z 1 (zpt tp z 0 (zadv tp z (0, 0, 0, 0, -1))).2).2).2
      have := c.1.1.1
      exact Int.le_trans (zcn_r _).2 c.1.1.1.2.2
    omega
  · have f2 : zcn (zpt tp z 2 (zpt tp z 1 (zpt tp z 0 (zadv tp z (0, 0, 0, 0, -1))).2).2).2 ≤ z := Int.le_trans (zcn_r _).2 c.1.1.1.2.2
    have e3 : zcn (zadv tp z (0, 0, 0, 0, -1)) = (zadv tp z (0, 0, 0, 0, -1)).at := by unfold zcn; exact zif_f l
    show (zpt tp z 0 _).1.length + (zpt tp z 1 (zpt tp z 0 _).2).1.length + (zpt tp z 2 (zpt tp z 1 (zpt tp z 0 _).2).2).1.length ≤ 160
    omega
/-! what a reader's steps come to -/
noncomputable def zbr (nm : Int → Int) (L : List Int) (stk : List Int) : List Int := L.foldl (fun k x => zstp nm x k) stk
theorem zbr_a {nm : Int → Int} {L K stk : List Int} : zbr nm (L ++ K) stk = zbr nm K (zbr nm L stk) := List.foldl_append
theorem zbr_1 {nm : Int → Int} {x : Int} {stk : List Int} : zbr nm [x] stk = zstp nm x stk := rfl
/-- steps that come to v, where h more numbers have room -/
def zvl (nm : Int → Int) (h : Nat) (L : List Int) (v : Int) : Prop := ∀ stk : List Int, stk.length + h ≤ 31 → zbr nm L stk = v :: stk
theorem zvl.up {nm : Int → Int} {h h2 : Nat} {L : List Int} {v : Int} (q : zvl nm h L v) (hh : h ≤ h2) : zvl nm h2 L v := fun stk hs => q stk (by omega)
theorem zvl_n {nm : Int → Int} {v : Int} (hv : 0 ≤ v) : zvl nm 1 [v] v := fun stk hs => by
  rw [zbr_1, zstp_n hv, if_pos (by omega)]
theorem zvl_m {nm : Int → Int} {j : Int} (h : 0 ≤ j ∧ j ≤ 5) : zvl nm 1 [-1 - j] (nm j) := fun stk hs => by
  rw [zbr_1, zstp_m (by omega) (by omega), if_pos (by omega), show -1 - (-1 - j) = j by omega]
theorem zvl_1 {nm : Int → Int} {h : Nat} {L : List Int} {v s : Int} (q : zvl nm h L v) (hs : s = -13 ∨ s = -19) : zvl nm h (L ++ [s]) (zop1 s v) := fun stk hk => by
  rw [zbr_a, q stk hk, zbr_1, zstp_1 hs]
  rfl
theorem zvl_2 {nm : Int → Int} {h : Nat} {L K : List Int} {v w s : Int} (q : zvl nm h L v) (r : zvl nm h K w) (hs : s < -6 ∧ ¬ (s = -13 ∨ s = -19)) : zvl nm (h + 1) (L ++ K ++ [s]) (zopr s v w) := fun stk hk => by
  rw [zbr_a, zbr_a, q stk (by omega), r (v :: stk) (by simp only [List.length_cons]; omega), zbr_1, zstp_2 hs.1 hs.2]
  rfl
theorem zvl_2u {nm : Int → Int} {h : Nat} {L K : List Int} {v w s : Int} (q : zvl nm (h + 1) L v) (r : zvl nm h K w) (hs : s < -6 ∧ ¬ (s = -13 ∨ s = -19)) : zvl nm (h + 1) (L ++ K ++ [s]) (zopr s v w) := fun stk hk => by
  rw [zbr_a, zbr_a, q stk (by omega), r (v :: stk) (by simp only [List.length_cons]; omega), zbr_1, zstp_2 hs.1 hs.2]
  rfl
