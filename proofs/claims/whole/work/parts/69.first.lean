/-! THE FIRST TEXT, read by computing (printed by wip/whole/p69.py) -/
theorem zif_d {q : Prop} [Decidable q] {a b : Int} : zif q a b = if q then a else b := by
  by_cases c : q
  · rw [zif_t c, if_pos c]
  · rw [zif_f c, if_neg c]
theorem zit_d {α : Type} {q : Prop} [Decidable q] {a b : α} : zit q a b = if q then a else b := by
  by_cases c : q
  · rw [zit_t c, if_pos c]
  · rw [zit_f c, if_neg c]
def yrn (q : Int → Bool) : Nat → Int → Int
  | 0, p => p
  | k + 1, p => if q p then yrn q k (p + 1) else p
theorem yrn_e {q : Int → Prop} {r : Int → Bool} (h : ∀ p, q p ↔ r p = true) : ∀ (k : Nat) (p : Int), zrn q k p = yrn r k p := by
  intro k
  induction k with
  | zero => exact fun _ => rfl
  | succ k ih =>
    intro p
    show zif (q p) (zrn q k (p + 1)) p = if r p then yrn r k (p + 1) else p
    rw [ih]
    by_cases c : q p
    · rw [zif_t c, if_pos ((h p).mp c)]
    · rw [zif_f c, if_neg (fun y => c ((h p).mpr y))]
def ybk (b : Int) : Bool := decide (b = 32 ∨ b = 10)
def ylt (b : Int) : Bool := decide (97 ≤ b ∧ b ≤ 122)
def ydg (b : Int) : Bool := decide (48 ≤ b ∧ b ≤ 57)
theorem ybk_e (b : Int) : zbk b ↔ ybk b = true := (decide_eq_true_iff (p := b = 32 ∨ b = 10)).symm
theorem ylt_e (b : Int) : zlt b ↔ ylt b = true := (decide_eq_true_iff (p := 97 ≤ b ∧ b ≤ 122)).symm
theorem ydg_e (b : Int) : zdg b ↔ ydg b = true := (decide_eq_true_iff (p := 48 ≤ b ∧ b ≤ 57)).symm
def ywm (tp : Int → Int) (s e : Int) (w : Nat) : Bool := decide (e - s = zln (w + 1)) && (List.range (lenJS.getD (w + 1) 0)).all fun j => decide (zby (w + 1) j = tp (s + j))
theorem ywm_e {tp : Int → Int} {s e : Int} {w : Nat} : zwm tp s e w ↔ ywm tp s e w = true := by
  unfold zwm ywm
  rw [Bool.and_eq_true, decide_eq_true_iff, List.all_eq_true]
  refine and_congr Iff.rfl ⟨fun h j hj => decide_eq_true (h j (List.mem_range.mp hj)), fun h j hj => of_decide_eq_true (h j (List.mem_range.mpr hj))⟩
theorem zif_y {q : Prop} {r : Bool} {a b : Int} (h : q ↔ r = true) : zif q a b = if r then a else b := by
  by_cases c : q
  · rw [zif_t c, if_pos (h.mp c)]
  · rw [zif_f c, if_neg (fun y => c (h.mpr y))]
theorem zit_y {α : Type} {q : Prop} {r : Bool} {a b : α} (h : q ↔ r = true) : zit q a b = if r then a else b := by
  by_cases c : q
  · rw [zit_t c, if_pos (h.mp c)]
  · rw [zit_f c, if_neg (fun y => c (h.mpr y))]
def ywt (tp : Int → Int) (s e : Int) : Nat → Int
  | 0 => 1
  | n + 1 => if ywm tp s e n then (if n < 6 then 3 else (n : Int)) else ywt tp s e n
def ywv (tp : Int → Int) (s e : Int) : Nat → Int
  | 0 => 0
  | n + 1 => if ywm tp s e n then (n : Int) else ywv tp s e n
theorem ywt_e {tp : Int → Int} {s e : Int} : ∀ n : Nat, zwt tp s e n = ywt tp s e n := by
  intro n
  induction n with
  | zero => rfl
  | succ n ih =>
    show zif (zwm tp s e n) _ (zwt tp s e n) = if ywm tp s e n then _ else ywt tp s e n
    rw [ih, zif_y ywm_e]
theorem ywv_e {tp : Int → Int} {s e : Int} : ∀ n : Nat, zwv tp s e n = ywv tp s e n := by
  intro n
  induction n with
  | zero => rfl
  | succ n ih =>
    show zif (zwm tp s e n) _ (zwv tp s e n) = if ywm tp s e n then _ else ywv tp s e n
    rw [ih, zif_y ywm_e]
def ydv (tp : Int → Int) (z : Int) : Nat → Int → Int → Int
  | 0, _, a => a
  | k + 1, p, a => if ydg (zbp tp z p) then ydv tp z k (p + 1) (a * 10 + zbp tp z p - 48) else a
theorem ydv_e {tp : Int → Int} {z : Int} : ∀ (k : Nat) (p a : Int), zdv tp z k p a = ydv tp z k p a := by
  intro k
  induction k with
  | zero => exact fun _ _ => rfl
  | succ k ih =>
    intro p a
    show zif (zdg (zbp tp z p)) (zdv tp z k (p + 1) (a * 10 + zbp tp z p - 48)) a = if ydg (zbp tp z p) then ydv tp z k (p + 1) (a * 10 + zbp tp z p - 48) else a
    rw [ih, zif_y (ydg_e _)]
def yix (i : Nat) (x : Int) (j : Int) (k : Nat) : Int := zix2 i x j k
def ytk (tp : Int → Int) (z p ft : Int) : zσ :=
  if zbp tp z p = -1 then (0, 0, p, p, ft)
  else if ylt (zbp tp z p) then (ywt tp p (yrn (fun j => ylt (zbp tp z j)) 160 p) 12, ywv tp p (yrn (fun j => ylt (zbp tp z j)) 160 p) 12, p, yrn (fun j => ylt (zbp tp z j)) 160 p, ft)
  else if ydg (zbp tp z p) then (if yrn (fun j => ydg (zbp tp z j)) 160 p - p ≤ 4 then 2 else 1, ydv tp z 160 p 0, p, yrn (fun j => ydg (zbp tp z j)) 160 p, ft)
  else (if 0 ≤ zix2 13 (zbp tp z p) 0 8 then zbp tp z p else 1, 0, p, p + 1, ft)
theorem ytk_e {tp : Int → Int} {z p ft : Int} : ztk tp z p ft = ytk tp z p ft := by
  unfold ztk ytk
  rw [zit_d, zit_y (ylt_e _), zit_y (ydg_e _), yrn_e (fun j => ylt_e _), yrn_e (fun j => ydg_e _), ywt_e, ywv_e, ydv_e]
def yadv (tp : Int → Int) (z : Int) (s : zσ) : zσ := ytk tp z (yrn (fun j => ybk (zbp tp z j)) 160 s.at) s.ft
theorem yadv_e {tp : Int → Int} {z : Int} : zadv tp z = yadv tp z := by
  funext s
  unfold zadv yadv
  rw [ytk_e, yrn_e (fun j => ybk_e _)]
def ynd (tp : Int → Int) (z k : Int) (s : zσ) : zσ := if s.tk = k then yadv tp z s else zfl s
theorem ynd_e {tp : Int → Int} {z k : Int} : znd tp z k = ynd tp z k := by
  funext s
  unfold znd ynd
  rw [yadv_e]
def ylo (tp : Int → Int) (z : Int) (q : Int → Bool) (stp : Int → Int) (f : zσ → zρ) : Nat → zρ → zρ
  | 0, x => x
  | k + 1, x => if q x.2.tk then ylo tp z q stp f k (x.1 ++ (f (yadv tp z x.2)).1 ++ [stp x.2.tk], (f (yadv tp z x.2)).2) else x
theorem ylo_e {tp : Int → Int} {z : Int} {q : Int → Prop} {r : Int → Bool} {stp : Int → Int} {f : zσ → zρ} (h : ∀ t, q t ↔ r t = true) : ∀ (k : Nat) (x : zρ), zlo tp z q stp f k x = ylo tp z r stp f k x := by
  intro k
  induction k with
  | zero => exact fun _ => rfl
  | succ k ih =>
    intro x
    show zit (q x.2.tk) (zlo tp z q stp f k (x.1 ++ (f (zadv tp z x.2)).1 ++ [stp x.2.tk], (f (zadv tp z x.2)).2)) x = _
    rw [ih, yadv_e, zit_y (h _)]
    rfl
def yTerm (tp : Int → Int) (z : Int) (f : zσ → zρ) (s : zσ) : zρ := ylo tp z (fun t => decide (t = 42)) (fun _ => -18) f 160 (f s)
def ySum (tp : Int → Int) (z : Int) (f : zσ → zρ) (s : zσ) : zρ := ylo tp z (fun t => decide (t = 43 ∨ t = 45)) (fun t => if t = 43 then -16 else -17) f 160 (f s)
def yAnd (tp : Int → Int) (z : Int) (f : zσ → zρ) (s : zσ) : zρ := ylo tp z (fun t => decide (t = 10)) (fun _ => -12) f 160 (f s)
def yOr (tp : Int → Int) (z : Int) (f : zσ → zρ) (s : zσ) : zρ := ylo tp z (fun t => decide (t = 9)) (fun _ => -11) f 160 (f s)
theorem yTerm_e {tp : Int → Int} {z : Int} {f : zσ → zρ} : zTerm tp z f = yTerm tp z f := by
  funext s
  exact ylo_e (fun t => decide_eq_true_iff.symm) _ _
theorem ySum_e {tp : Int → Int} {z : Int} {f : zσ → zρ} : zSum tp z f = ySum tp z f := by
  funext s
  exact ylo_e (fun t => decide_eq_true_iff.symm) _ _
theorem yAnd_e {tp : Int → Int} {z : Int} {f : zσ → zρ} : zAnd tp z f = yAnd tp z f := by
  funext s
  exact ylo_e (fun t => decide_eq_true_iff.symm) _ _
theorem yOr_e {tp : Int → Int} {z : Int} {f : zσ → zρ} : zOr tp z f = yOr tp z f := by
  funext s
  exact ylo_e (fun t => decide_eq_true_iff.symm) _ _
def yCmp (tp : Int → Int) (z : Int) (f : zσ → zρ) (s : zσ) : zρ :=
  if (f s).2.tk = 60 ∨ (f s).2.tk = 61 then ((f s).1 ++ (f (yadv tp z (f s).2)).1 ++ [if (f s).2.tk = 60 then -14 else -15], (f (yadv tp z (f s).2)).2) else f s
theorem yCmp_e {tp : Int → Int} {z : Int} {f : zσ → zρ} : zCmp tp z f = yCmp tp z f := by
  funext s
  unfold zCmp yCmp
  rw [zit_d, yadv_e]
def yOneF (tp : Int → Int) (z : Int) (r : zσ → zρ) (s : zσ) : zρ :=
  if s.tk = 2 then ([s.vl], yadv tp z s) else if s.tk = 3 then ([-1 - s.vl], yadv tp z s) else r s
def yOne0 (tp : Int → Int) (z : Int) (s : zσ) : zρ := yOneF tp z (fun s => ([], zfl s)) s
def yOneS (tp : Int → Int) (z : Int) (o e : zσ → zρ) (s : zσ) : zρ :=
  yOneF tp z (fun s => if s.tk = 45 then ((o (yadv tp z s)).1 ++ [-19], (o (yadv tp z s)).2) else if s.tk = 40 then ((e (yadv tp z s)).1, ynd tp z 41 (e (yadv tp z s)).2) else ([], zfl s)) s
theorem yOne0_e {tp : Int → Int} {z : Int} : zOne0 tp z = yOne0 tp z := by
  funext s
  unfold zOne0 yOne0 zOneF yOneF
  rw [yadv_e]
theorem yOneS_e {tp : Int → Int} {z : Int} {o e : zσ → zρ} : zOneS tp z o e = yOneS tp z o e := by
  funext s
  unfold zOneS yOneS zOneF yOneF
  rw [yadv_e, ynd_e]
def yCm2 (tp : Int → Int) (z : Int) (o : zσ → zρ) : zσ → zρ := yCmp tp z (ySum tp z (yTerm tp z o))
theorem yCm2_e {tp : Int → Int} {z : Int} {o : zσ → zρ} : zCm2 tp z o = yCm2 tp z o := by
  unfold zCm2 yCm2
  rw [yCmp_e, ySum_e, yTerm_e]
def yNot0 (tp : Int → Int) (z : Int) (o : zσ → zρ) (s : zσ) : zρ := if s.tk = 11 then ([], zfl s) else yCm2 tp z o s
def yNotS (tp : Int → Int) (z : Int) (n o : zσ → zρ) (s : zσ) : zρ := if s.tk = 11 then ((n (yadv tp z s)).1 ++ [-13], (n (yadv tp z s)).2) else yCm2 tp z o s
theorem yNot0_e {tp : Int → Int} {z : Int} {o : zσ → zρ} : zNot0 tp z o = yNot0 tp z o := by
  funext s
  unfold zNot0 yNot0
  rw [yCm2_e]
theorem yNotS_e {tp : Int → Int} {z : Int} {n o : zσ → zρ} : zNotS tp z n o = yNotS tp z n o := by
  funext s
  unfold zNotS yNotS
  rw [yCm2_e, yadv_e]
def yOr2 (tp : Int → Int) (z : Int) (n : zσ → zρ) : zσ → zρ := yOr tp z (yAnd tp z n)
theorem yOr2_e {tp : Int → Int} {z : Int} {n : zσ → zρ} : zOr2 tp z n = yOr2 tp z n := by
  unfold zOr2 yOr2
  rw [yOr_e, yAnd_e]
def ylv (tp : Int → Int) (z : Int) : Nat → (zσ → zρ) × (zσ → zρ)
  | 0 => (yOne0 tp z, yNot0 tp z (yOne0 tp z))
  | r + 1 => (yOneS tp z (ylv tp z r).1 (yOr2 tp z (ylv tp z r).2), yNotS tp z (ylv tp z r).2 (yOneS tp z (ylv tp z r).1 (yOr2 tp z (ylv tp z r).2)))
theorem ylv_e {tp : Int → Int} {z : Int} : ∀ r : Nat, zlv tp z r = ylv tp z r := by
  intro r
  induction r with
  | zero =>
    show (zOne0 tp z, zNot0 tp z (zOne0 tp z)) = (yOne0 tp z, yNot0 tp z (yOne0 tp z))
    rw [yOne0_e, yNot0_e]
  | succ r ih =>
    show (zOneS tp z (zlv tp z r).1 (zOr2 tp z (zlv tp z r).2), zNotS tp z (zlv tp z r).2 (zOneS tp z (zlv tp z r).1 (zOr2 tp z (zlv tp z r).2))) = (yOneS tp z (ylv tp z r).1 (yOr2 tp z (ylv tp z r).2), yNotS tp z (ylv tp z r).2 (yOneS tp z (ylv tp z r).1 (yOr2 tp z (ylv tp z r).2)))
    rw [ih, yOr2_e, yOneS_e, yNotS_e]
def ypt (tp : Int → Int) (z k : Int) (s : zσ) : zρ := ((yOr2 tp z (ylv tp z 5).2 (ynd tp z (6 + k) s)).1, ynd tp z 59 (yOr2 tp z (ylv tp z 5).2 (ynd tp z (6 + k) s)).2)
theorem ypt_e {tp : Int → Int} {z k : Int} {s : zσ} : zpt tp z k s = ypt tp z k s := by
  unfold zpt ypt
  rw [ylv_e, yOr2_e, ynd_e, ynd_e]
def yp0 (tp : Int → Int) (z : Int) : zρ := ypt tp z 0 (yadv tp z (0, 0, 0, 0, -1))
def yp1 (tp : Int → Int) (z : Int) : zρ := ypt tp z 1 (yp0 tp z).2
def yp2 (tp : Int → Int) (z : Int) : zρ := ypt tp z 2 (yp1 tp z).2
def ypF (tp : Int → Int) (z : Int) : Int := (ynd tp z 0 (yp2 tp z).2).ft
theorem yp0_e {tp : Int → Int} {z : Int} : zp0 tp z = yp0 tp z := by
  unfold zp0 yp0
  rw [yadv_e, ypt_e]
theorem yp1_e {tp : Int → Int} {z : Int} : zp1 tp z = yp1 tp z := by
  unfold zp1 yp1
  rw [yp0_e, ypt_e]
theorem yp2_e {tp : Int → Int} {z : Int} : zp2 tp z = yp2 tp z := by
  unfold zp2 yp2
  rw [yp1_e, ypt_e]
theorem ypF_e {tp : Int → Int} {z : Int} : zpF tp z = ypF tp z := by
  unfold zpF ypF
  rw [yp2_e, ynd_e]
/-- the first text, the class's and the model's -/
def ytc : Int → Int := fun j => zby 0 j.toNat
def ytm : Int → Int := fun j => ([99, 111, 115, 116, 115, 32, 49, 32, 59, 32, 99, 114, 111, 119, 100, 115, 32, 109, 97, 110, 121, 32, 42, 32, 109, 97, 110, 121, 32, 59, 32, 109, 105, 110, 100, 115, 32, 114, 101, 115, 116, 32, 59, 32, 32, 32, 32, 32] : List Int).getD j.toNat 0
theorem ytc_c : (yp0 ytc 43).1 = [1] ∧ (yp1 ytc 43).1 = [-3, -3, -18] ∧ (yp2 ytc 43).1 = [-5] ∧ ypF ytc 43 = -1 := by decide +kernel
theorem ytm_c : (yp0 ytm 48).1 = [1] ∧ (yp1 ytm 48).1 = [-3, -3, -18] ∧ (yp2 ytm 48).1 = [-5] ∧ ypF ytm 48 = -1 := by decide +kernel
theorem ytc_t : ztp ytc 43 := ⟨by decide, fun j j0 j1 => by
  have := zby_r 0 (by decide) j.toNat (show j.toNat < 43 by omega)
  unfold ytc
  omega⟩
theorem ytm_t : ztp ytm 48 := ⟨by decide, fun j j0 j1 => by
  have k : ∀ n : Nat, n < 48 → 0 ≤ ytm n ∧ ytm n ≤ 255 := by decide +kernel
  have := k j.toNat (by omega)
  rw [Int.toNat_of_nonneg j0] at this
  exact this⟩
theorem ytm_F : zpF ytm 48 = -1 := ypF_e.trans ytm_c.2.2.2
theorem ytc_F : zpF ytc 43 = -1 := ypF_e.trans ytc_c.2.2.2
/-- the class's steps are those of the model's text -/
theorem zRT_0 {M : zM} {t : Int} (h : zRT M t ytc 43) : zRT M t ytm 48 := by
  unfold zRT at h ⊢
  rw [yp0_e, yp1_e, yp2_e, ytc_c.1, ytc_c.2.1, ytc_c.2.2.1] at h
  rw [yp0_e, yp1_e, yp2_e, ytm_c.1, ytm_c.2.1, ytm_c.2.2.1]
  exact h
