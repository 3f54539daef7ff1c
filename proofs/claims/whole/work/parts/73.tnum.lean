/-! TIES: numbers, plain (by hand) -/
theorem zso_bit (q : Int → Prop) : ∀ (n m : Nat), m < n → zso q n / 2 ^ m % 2 = zb (q m) := by
  intro n
  induction n with
  | zero => exact fun m h => absurd h (Nat.not_lt_zero _)
  | succ n ih =>
    intro m h
    show (zso q n + zb (q n) * 2 ^ n) / 2 ^ m % 2 = _
    have p0 : (0 : Int) < 2 ^ m := Int.pow_pos (by decide)
    by_cases e : m = n
    · subst e
      have r := zso_r q m
      rw [Int.add_mul_ediv_right _ _ (by omega), Int.ediv_eq_zero_of_lt r.1 r.2]
      have := zb_r (q m)
      omega
    · have e2 : (2 : Int) ^ n = 2 ^ (n - m - 1) * 2 * 2 ^ m := by
        rw [← Int.pow_succ, ← Int.pow_add]
        congr 1
        omega
      rw [e2, ← Int.mul_assoc, Int.add_mul_ediv_right _ _ (by omega), ← Int.mul_assoc, ← ih m (by omega)]
      generalize zso q n / 2 ^ m = A
      generalize zb (q n) * 2 ^ (n - m - 1) = B
      omega
theorem zso_up {q q' : Int → Prop} {t : Nat} (h : ∀ i : Int, i ≠ t → (q i ↔ q' i)) : ∀ n : Nat, t < n → zso q' n = zso q n - zb (q t) * 2 ^ t + zb (q' t) * 2 ^ t := by
  intro n
  induction n with
  | zero => exact fun h => absurd h (Nat.not_lt_zero _)
  | succ n ih =>
    intro hn
    show zso q' n + zb (q' n) * 2 ^ n = zso q n + zb (q n) * 2 ^ n - zb (q t) * 2 ^ t + zb (q' t) * 2 ^ t
    by_cases e : t = n
    · subst e
      rw [zso_c (q := q') (q' := q) (fun i i0 i1 => (h i (by omega)).symm)]
      omega
    · rw [ih (by omega), zb_c (h n (by omega)).symm]
      omega
theorem zwb_so {q q' : Int → Prop} {t : Int} {n : Nat} (ht : 0 ≤ t ∧ t < n) (h : ∀ i : Int, i ≠ t → (q i ↔ q' i)) : zwb (zso q n) t (q' t) = zso q' n := by
  have e : ((t.toNat : Nat) : Int) = t := Int.toNat_of_nonneg ht.1
  have a := zso_up (q := q) (q' := q') (t := t.toNat) (fun i hi => h i (by omega)) n (by omega)
  have b := zso_bit q n t.toNat (by omega)
  rw [e] at a b
  unfold zwb
  rw [a, b]
theorem zso_one {t : Nat} : ∀ n : Nat, t < n → zso (fun i => i = (t : Int)) n = 2 ^ t := by
  intro n
  induction n with
  | zero => exact fun h => absurd h (Nat.not_lt_zero _)
  | succ n ih =>
    intro hn
    show zso (fun i => i = (t : Int)) n + zb ((n : Int) = t) * 2 ^ n = _
    by_cases e : t = n
    · subst e
      rw [zb_t rfl, zso_c (q' := fun _ => False) (fun i i0 i1 => ⟨fun y => by omega, fun y => y.elim⟩)]
      have z : ∀ n : Nat, zso (fun _ => False) n = 0 := by
        intro n
        induction n with
        | zero => rfl
        | succ n ih =>
          show zso (fun _ => False) n + zb False * 2 ^ n = 0
          rw [ih, zb_f (fun y => y)]
          omega
      rw [z]
      omega
    · rw [ih (by omega), zb_f (by omega)]
      omega
/-- a coming together: only t comes, whenever it comes -/
theorem zcw_so {q : Int → Int → Prop} {f : Int → Int} {t : Int} {n : Nat} (ht : 0 ≤ t ∧ t < n) (hf : ∀ d : Int, f d = zso (q d) n) {m : Nat} : ¬ zcw f t m ↔ ∀ d : Int, 0 ≤ d → d < m → q d t → ∀ u : Int, 0 ≤ u → u < n → u ≠ t → ¬ q d u := by
  have e : ((t.toNat : Nat) : Int) = t := Int.toNat_of_nonneg ht.1
  have bt : ∀ d, f d / 2 ^ t.toNat % 2 = zb (q d t) := fun d => by rw [hf, zso_bit (q d) n t.toNat (by omega), e]
  constructor
  · intro h d d0 d1 hq u u0 u1 hu hqu
    refine h ⟨d, d0, d1, by rw [bt, zb_t hq], fun y => ?_⟩
    have b1 := zso_bit (q d) n u.toNat (by omega)
    have b2 := zso_bit (fun i => i = ((t.toNat : Nat) : Int)) n u.toNat (by omega)
    rw [zso_one n (by omega)] at b2
    rw [← hf, y, b2, Int.toNat_of_nonneg u0, zb_t hqu, zb_f (by omega)] at b1
    exact absurd b1 (by decide)
  · rintro h ⟨d, d0, d1, h1, h2⟩
    rw [bt] at h1
    have hq := zb_1.mp h1
    refine h2 ?_
    rw [hf, ← zso_one n (show t.toNat < n by omega)]
    refine zso_c (fun u u0 u1 => ?_)
    constructor
    · intro y
      by_cases c : u = t
      · omega
      · exact absurd y (h d d0 d1 hq u u0 u1 c)
    · intro y
      rw [show u = t by omega]
      exact hq
/-! two rounds that meet -/
theorem z_bez : ∀ p : Nat, p < 61 → ∀ q : Nat, q < 61 → (p == 0 || q == 0 || (List.range 60).any fun x => decide (((p : Int) * (x : Int) - (Nat.gcd p q : Int)) % (q : Int) = 0)) = true := by decide +kernel
theorem z_crt {p q b c : Int} (hp : 1 ≤ p ∧ p ≤ 60) (hq : 1 ≤ q ∧ q ≤ 60) (hb : 0 ≤ b ∧ b ≤ 59) (hc : 0 ≤ c ∧ c ≤ 59) : (∃ d : Int, 0 ≤ d ∧ (b ≤ d ∧ (d - b) % p = 0) ∧ c ≤ d ∧ (d - c) % q = 0) ↔ zshr p b q c := by
  unfold zshr
  have g1 : zgc p q ∣ p := by
    unfold zgc
    have := Int.natCast_dvd_natCast.mpr (Nat.gcd_dvd_left p.toNat q.toNat)
    rwa [Int.toNat_of_nonneg (show 0 ≤ p by omega)] at this
  have g2 : zgc p q ∣ q := by
    unfold zgc
    have := Int.natCast_dvd_natCast.mpr (Nat.gcd_dvd_right p.toNat q.toNat)
    rwa [Int.toNat_of_nonneg (show 0 ≤ q by omega)] at this
  constructor
  · rintro ⟨d, d0, ⟨-, h1⟩, -, h2⟩
    have a1 := Int.dvd_trans g1 (Int.dvd_of_emod_eq_zero h1)
    have a2 := Int.dvd_trans g2 (Int.dvd_of_emod_eq_zero h2)
    have := Int.dvd_sub a2 a1
    rw [show d - c - (d - b) = b - c by omega] at this
    exact Int.emod_eq_zero_of_dvd this
  · intro h
    have hz := z_bez p.toNat (by omega) q.toNat (by omega)
    rw [Bool.or_eq_true, Bool.or_eq_true, List.any_eq_true] at hz
    rcases hz with (hz | hz) | ⟨x, -, hx⟩
    · have := eq_of_beq hz
      omega
    · have := eq_of_beq hz
      omega
    have hx := of_decide_eq_true hx
    rw [Int.toNat_of_nonneg (show 0 ≤ p by omega), Int.toNat_of_nonneg (show 0 ≤ q by omega)] at hx
    have hx : (p * x - zgc p q) % q = 0 := hx
    obtain ⟨k, hk⟩ := Int.dvd_of_emod_eq_zero h
    have d1 := Int.dvd_of_emod_eq_zero hx
    -- (-k) times
    have k0 := Int.emod_nonneg (-k) (show q ≠ 0 by omega)
    have d2 : q ∣ (-k) % q - (-k) := by
      have := Int.emod_add_mul_ediv (-k) q
      exact ⟨-((-k) / q), by rw [Int.mul_neg]; omega⟩
    generalize (-k) % q = r at k0 d2
    have m0 : 0 ≤ (x : Int) * r := Int.mul_nonneg (Int.natCast_nonneg _) k0
    have m1 : 0 ≤ p * (x * r) := Int.mul_nonneg (by omega) m0
    have m2 : 1 ≤ p * q := by
      have := Int.mul_le_mul (show 1 ≤ p by omega) (show 1 ≤ q by omega) (by decide) (show 0 ≤ p by omega)
      omega
    refine ⟨b + p * (x * r) + p * q * 60, by omega, ⟨by omega, ?_⟩, by omega, ?_⟩
    · refine Int.emod_eq_zero_of_dvd ⟨x * r + q * 60, ?_⟩
      rw [Int.mul_add, ← Int.mul_assoc p q 60]
      omega
    · refine Int.emod_eq_zero_of_dvd ?_
      have e : b + p * (x * r) + p * q * 60 - c = (p * x - zgc p q) * r + zgc p q * (r - -k) + q * (p * 60) := by
        rw [Int.sub_mul, Int.mul_sub, Int.mul_neg, ← hk, Int.mul_assoc p x r, Int.mul_comm p q, Int.mul_assoc q p 60]
        omega
      rw [e]
      exact Int.dvd_add (Int.dvd_add (Int.dvd_trans d1 (Int.dvd_mul_right _ _)) (Int.dvd_trans d2 (Int.dvd_mul_left _ _))) (Int.dvd_mul_right _ _)
theorem z_bt2 : ∀ a, a < 6 → ∀ b, b < 6 → a ≠ b → ∀ e, e < 6 → decide (((2 : Int) ^ a + 2 ^ b) / 2 ^ e % 2 = 1) = decide (e = a ∨ e = b) := by decide +kernel
theorem ztwo_e {T : Int → Int → Int} {n a b : Int} (hn : n ≤ 6) (ha : 0 ≤ a ∧ a < n) (hb : 0 ≤ b ∧ b < n) (hab : a ≠ b) (pa : 1 ≤ T a 2 ∧ T a 2 ≤ 60) (pb : 1 ≤ T b 2 ∧ T b 2 ≤ 60) (ba : 0 ≤ T a 3 ∧ T a 3 ≤ 59) (bb : 0 ≤ T b 3 ∧ T b 3 ≤ 59) : ztwo T n a b ↔ zshr (T a 2) (T a 3) (T b 2) (T b 3) := by
  rw [← z_crt pa pb ba bb]
  have bt : ∀ e : Int, 0 ≤ e → e < n → (zbt (2 ^ a.toNat + 2 ^ b.toNat) e ↔ e = a ∨ e = b) := by
    intro e e0 e1
    have h := z_bt2 a.toNat (by omega) b.toNat (by omega) (by omega) e.toNat (by omega)
    unfold zbt
    constructor
    · intro y
      rw [decide_eq_true y] at h
      have := of_decide_eq_true h.symm
      omega
    · intro y
      rw [decide_eq_true (show e.toNat = a.toNat ∨ e.toNat = b.toNat by omega)] at h
      exact of_decide_eq_true h
  unfold ztwo zmc
  constructor
  · rintro ⟨d, d0, h⟩
    exact ⟨d, d0, h a ha.1 ha.2 ((bt a ha.1 ha.2).mpr (Or.inl rfl)), h b hb.1 hb.2 ((bt b hb.1 hb.2).mpr (Or.inr rfl))⟩
  · rintro ⟨d, d0, h1, h2⟩
    refine ⟨d, d0, fun e e0 e1 y => ?_⟩
    rcases (bt e e0 e1).mp y with rfl | rfl
    · exact h1
    · exact h2
theorem zwy_c {q q' : Int → Int → Prop} {n : Int} (h : ∀ a b : Int, 0 ≤ a → a < b → b < n → (q a b ↔ q' a b)) : ∀ (k : Nat) (a : Int), 0 ≤ a → a + k = n → zwy q n a k = zwy q' n a k := by
  intro k
  induction k with
  | zero => exact fun _ _ _ => rfl
  | succ k ih =>
    intro a a0 e
    have e2 : zfst (q a) (a + 1) (n - (a + 1)).toNat = zfst (q' a) (a + 1) (n - (a + 1)).toNat := zfst_c (fun j j0 j1 => h a j a0 (by omega) (by omega))
    show (if zfst (q a) (a + 1) (n - (a + 1)).toNat = -1 then zwy q n (a + 1) k else _) = (if zfst (q' a) (a + 1) (n - (a + 1)).toNat = -1 then zwy q' n (a + 1) k else _)
    rw [e2, ih (a + 1) (by omega) (by omega)]
/-! the share of a part -/
theorem zfab {p : Int → Int} : ∀ n : Nat, (∀ i : Int, 0 ≤ i → i < n → 1 ≤ p i) → ∃ c x y : Nat, 1 ≤ c ∧ 1 ≤ y ∧ Nat.gcd x y = 1 ∧ zfa p n = (((c * x : Nat) : Int), ((c * y : Nat) : Int)) ∧ zfb p n = ((x : Int), (y : Int)) := by
  intro n
  induction n with
  | zero => exact fun _ => ⟨1, 0, 1, by decide, by decide, by decide, rfl, rfl⟩
  | succ n ih =>
    intro h
    obtain ⟨c, x, y, hc, hy, hg, ea, eb⟩ := ih (fun i i0 i1 => h i i0 (by omega))
    have hp := h n (by omega) (by omega)
    obtain ⟨m, hm⟩ := Int.eq_ofNat_of_zero_le (show 0 ≤ p n by omega)
    have hm1 : 1 ≤ m := by omega
    have g0 : 0 < Nat.gcd (x * m + y) (y * m) := Nat.gcd_pos_of_pos_left _ (by omega)
    have hym : 1 ≤ y * m := Nat.mul_le_mul hy hm1
    refine ⟨c * Nat.gcd (x * m + y) (y * m), (x * m + y) / Nat.gcd (x * m + y) (y * m), (y * m) / Nat.gcd (x * m + y) (y * m), Nat.mul_le_mul hc g0, ?_, Nat.coprime_div_gcd_div_gcd g0, ?_, ?_⟩
    · exact Nat.div_pos (Nat.le_of_dvd (by omega) (Nat.gcd_dvd_right _ _)) g0
    · show ((zfa p n).1 * p n + (zfa p n).2, (zfa p n).2 * p n) = _
      rw [ea, hm, Nat.mul_assoc, Nat.mul_div_cancel' (Nat.gcd_dvd_left _ _), Nat.mul_assoc, Nat.mul_div_cancel' (Nat.gcd_dvd_right _ _)]
      refine Prod.ext ?_ ?_
      · show ((c * x : Nat) : Int) * (m : Int) + ((c * y : Nat) : Int) = ((c * (x * m + y) : Nat) : Int)
        rw [Nat.mul_add, Int.natCast_add, ← Nat.mul_assoc, Int.natCast_mul (c * x) m]
      · show ((c * y : Nat) : Int) * (m : Int) = ((c * (y * m) : Nat) : Int)
        rw [← Nat.mul_assoc, Int.natCast_mul (c * y) m]
    · show (((zfb p n).1 * p n + (zfb p n).2) / zgc ((zfb p n).1 * p n + (zfb p n).2) ((zfb p n).2 * p n), ((zfb p n).2 * p n) / zgc ((zfb p n).1 * p n + (zfb p n).2) ((zfb p n).2 * p n)) = _
      rw [eb, hm]
      have e1 : ((x : Int) * (m : Int) + (y : Int)) = ((x * m + y : Nat) : Int) := by rw [Int.natCast_add, Int.natCast_mul]
      have e2 : ((y : Int) * (m : Int)) = ((y * m : Nat) : Int) := by rw [Int.natCast_mul]
      show (((x : Int) * (m : Int) + (y : Int)) / zgc ((x : Int) * (m : Int) + (y : Int)) ((y : Int) * (m : Int)), ((y : Int) * (m : Int)) / zgc ((x : Int) * (m : Int) + (y : Int)) ((y : Int) * (m : Int))) = _
      rw [e1, e2]
      rfl
theorem zfull_e {p : Int → Int} {n : Nat} (h : ∀ i : Int, 0 ≤ i → i < n → 1 ≤ p i) : (zfa p n).1 / zgc (zfa p n).1 (zfa p n).2 = (zfb p n).1 ∧ (zfa p n).2 / zgc (zfa p n).1 (zfa p n).2 = (zfb p n).2 := by
  obtain ⟨c, x, y, hc, hy, hg, ea, eb⟩ := zfab n h
  rw [ea, eb]
  have e : zgc ((c * x : Nat) : Int) ((c * y : Nat) : Int) = (c : Int) := by
    unfold zgc
    rw [Int.toNat_natCast, Int.toNat_natCast, Nat.gcd_mul_left, hg, Nat.mul_one]
  show ((c * x : Nat) : Int) / zgc ((c * x : Nat) : Int) ((c * y : Nat) : Int) = _ ∧ ((c * y : Nat) : Int) / zgc ((c * x : Nat) : Int) ((c * y : Nat) : Int) = _
  rw [e, Int.natCast_mul, Int.natCast_mul, Int.mul_ediv_cancel_left _ (by omega), Int.mul_ediv_cancel_left _ (by omega)]
  exact ⟨rfl, rfl⟩
