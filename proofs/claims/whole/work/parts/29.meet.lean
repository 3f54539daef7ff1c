/-! MEETING: the numbers (printed by wip/whole/p29.py) -/
theorem zmt_2 {s p : Nat} (hs : 0 < s) : s / Nat.gcd s p * p = p / Nat.gcd s p * s := by
  have hg : 0 < Nat.gcd s p := Nat.gcd_pos_of_pos_left _ hs
  obtain ⟨a, ha⟩ := Nat.gcd_dvd_left s p
  obtain ⟨b, hb⟩ := Nat.gcd_dvd_right s p
  have e1 : s / Nat.gcd s p = a := Nat.div_eq_of_eq_mul_right hg ha
  have e2 : p / Nat.gcd s p = b := Nat.div_eq_of_eq_mul_right hg hb
  rw [e1, e2]
  calc a * p = a * (Nat.gcd s p * b) := by rw [← hb]
    _ = b * (Nat.gcd s p * a) := by ac_rfl
    _ = b * s := by rw [← ha]
theorem zmt_1 {s p m : Nat} (hs : 0 < s) (h : p ∣ m * s) : ∃ q : Nat, m * s = q * (s / Nat.gcd s p * p) := by
  have hg : 0 < Nat.gcd s p := Nat.gcd_pos_of_pos_left _ hs
  have hc := (Nat.coprime_div_gcd_div_gcd hg).symm
  have e1 : Nat.gcd s p * (p / Nat.gcd s p) = p := Nat.mul_div_cancel' (Nat.gcd_dvd_right s p)
  have e2 : Nat.gcd s p * (s / Nat.gcd s p) = s := Nat.mul_div_cancel' (Nat.gcd_dvd_left s p)
  have h1 : Nat.gcd s p * (p / Nat.gcd s p) ∣ Nat.gcd s p * (m * (s / Nat.gcd s p)) := by
    rw [e1, show Nat.gcd s p * (m * (s / Nat.gcd s p)) = m * (Nat.gcd s p * (s / Nat.gcd s p)) by ac_rfl, e2]
    exact h
  have h2 := Nat.dvd_of_mul_dvd_mul_left hg h1
  obtain ⟨q, hq⟩ := hc.dvd_of_dvd_mul_right h2
  refine ⟨q, ?_⟩
  rw [zmt_2 hs, hq]
  ac_rfl
/-- the days f, f + s, f + 2 s, .. -/
def zmR (f s d : Int) : Prop := ∃ k : Nat, d = f + k * s
theorem zmt_g {s p : Nat} : (s : Int) / zgc s p * p = ((s / Nat.gcd s p * p : Nat) : Int) := by
  unfold zgc
  rw [Int.toNat_natCast, Int.toNat_natCast]
  rfl
/-- one more thing of period p, from day b on: which days it leaves -/
theorem zmt_in {f s p b t d : Int} (hs : 1 ≤ s) (hp : 1 ≤ p) (ht : 0 ≤ t) (h0 : (f + t * s - b) % p = 0) (hm : ∀ i : Int, 0 ≤ i → i < t → (f + i * s - b) % p ≠ 0) : (zmR f s d ∧ (d - b) % p = 0) ↔ zmR (f + t * s) (s / zgc s p * p) d := by
  obtain ⟨s', rfl⟩ := Int.eq_ofNat_of_zero_le (show 0 ≤ s by omega)
  obtain ⟨p', rfl⟩ := Int.eq_ofNat_of_zero_le (show 0 ≤ p by omega)
  rw [zmt_g]
  have hs' : 0 < s' := by omega
  constructor
  · rintro ⟨⟨k, rfl⟩, h1⟩
    have hk : t ≤ k := by
      by_cases hc : t ≤ k
      · exact hc
      · exact absurd h1 (hm k (by omega) (by omega))
    obtain ⟨m, hmk⟩ := Int.eq_ofNat_of_zero_le (show 0 ≤ (k : Int) - t by omega)
    have e0 : (k : Int) = t + m := by omega
    have e1 : f + (k : Int) * s' = f + t * s' + ((m * s' : Nat) : Int) := by
      rw [e0, Int.add_mul, Int.natCast_mul]
      omega
    have dv : (p' : Int) ∣ ((m * s' : Nat) : Int) := by
      have d1 := Int.dvd_of_emod_eq_zero h1
      have d0 := Int.dvd_of_emod_eq_zero h0
      have := Int.dvd_sub d1 d0
      rw [e1, show f + t * (s' : Int) + ((m * s' : Nat) : Int) - b - (f + t * (s' : Int) - b) = ((m * s' : Nat) : Int) by omega] at this
      exact this
    obtain ⟨q, hq⟩ := zmt_1 hs' (Int.natCast_dvd_natCast.mp dv)
    exact ⟨q, by rw [e1, hq, Int.natCast_mul]⟩
  · rintro ⟨q, rfl⟩
    have e2 := zmt_2 (p := p') hs'
    refine ⟨⟨t.toNat + q * (p' / Nat.gcd s' p'), ?_⟩, ?_⟩
    · rw [e2, Int.natCast_add, Int.natCast_mul, Int.natCast_mul, Int.toNat_of_nonneg ht, Int.add_mul, Int.mul_assoc]
      omega
    · have d0 := Int.dvd_of_emod_eq_zero h0
      have d1 : (p' : Int) ∣ (q : Int) * ((s' / Nat.gcd s' p' * p' : Nat) : Int) := by
        rw [Int.natCast_mul, ← Int.mul_assoc]
        exact Int.dvd_mul_left _ _
      have := Int.dvd_add d0 d1
      rw [show f + t * (s' : Int) - b + (q : Int) * ((s' / Nat.gcd s' p' * p' : Nat) : Int) = f + t * (s' : Int) + (q : Int) * ((s' / Nat.gcd s' p' * p' : Nat) : Int) - b by omega] at this
      exact Int.emod_eq_zero_of_dvd this
/-- .. or none -/
theorem zmt_no {f s p b d : Int} (hp : 1 ≤ p) (hm : ∀ i : Int, 0 ≤ i → i < p → (f + i * s - b) % p ≠ 0) : ¬ (zmR f s d ∧ (d - b) % p = 0) := by
  rintro ⟨⟨k, rfl⟩, h1⟩
  refine hm ((k : Int) % p) (Int.emod_nonneg _ (by omega)) (Int.emod_lt_of_pos _ (by omega)) ?_
  have e := Int.emod_add_mul_ediv (k : Int) p
  have e1 : f + (k : Int) * s - b = f + (k : Int) % p * s - b + p * ((k : Int) / p * s) := by
    have : (k : Int) * s = (k : Int) % p * s + p * ((k : Int) / p * s) := by
      rw [← Int.mul_assoc, ← Int.add_mul, e]
    omega
  rw [e1, Int.add_mul_emod_self_left] at h1
  exact h1
/-- the first of them from b on -/
theorem zmt_ah {f s b d : Int} (hs : 1 ≤ s) (hb : f < b) : (zmR f s d ∧ b ≤ d) ↔ zmR (f + (b - f + s - 1) / s * s) s d := by
  have hdm := Int.emod_add_mul_ediv (b - f + s - 1) s
  have m0 := Int.emod_nonneg (b - f + s - 1) (b := s) (by omega)
  have m1 := Int.emod_lt_of_pos (b - f + s - 1) (b := s) (by omega)
  have hq : 0 ≤ (b - f + s - 1) / s := Int.ediv_nonneg (by omega) (by omega)
  generalize (b - f + s - 1) % s = r at hdm m0 m1
  generalize (b - f + s - 1) / s = q at hdm hq ⊢
  rw [Int.mul_comm] at hdm
  constructor
  · rintro ⟨⟨k, rfl⟩, h1⟩
    have hk : q ≤ k := by
      by_cases hc : q ≤ k
      · exact hc
      · exfalso
        have : ((k : Int) + 1) * s ≤ q * s := Int.mul_le_mul_of_nonneg_right (by omega) (by omega)
        rw [Int.add_mul] at this
        omega
    obtain ⟨m, hmk⟩ := Int.eq_ofNat_of_zero_le (show 0 ≤ (k : Int) - q by omega)
    refine ⟨m, ?_⟩
    rw [show (k : Int) = q + m by omega, Int.add_mul]
    omega
  · rintro ⟨k, rfl⟩
    have hk0 : 0 ≤ (k : Int) * s := Int.mul_nonneg (by omega) (by omega)
    refine ⟨⟨q.toNat + k, ?_⟩, by omega⟩
    rw [Int.natCast_add, Int.toNat_of_nonneg hq, Int.add_mul]
    omega
/-- what they say of a set of days, they say once -/
theorem zmR_u {f s f2 s2 : Int} (hs : 1 ≤ s) (hs2 : 1 ≤ s2) (h : ∀ d, zmR f s d ↔ zmR f2 s2 d) : f = f2 ∧ s = s2 := by
  have n0 : ∀ (a b : Int) (k : Nat), 1 ≤ b → a ≤ a + k * b := by
    intro a b k hb
    have := Int.mul_nonneg (show (0 : Int) ≤ k by omega) (show 0 ≤ b by omega)
    omega
  have n1 : ∀ (a b : Int) (k : Nat), 1 ≤ b → a + k * b = a ∨ a + b ≤ a + k * b := by
    intro a b k hb
    rcases Nat.eq_zero_or_pos k with rfl | hk
    · left
      simp
    · right
      have := Int.mul_le_mul_of_nonneg_right (show (1 : Int) ≤ k by omega) (show 0 ≤ b by omega)
      omega
  obtain ⟨k1, e1⟩ := (h f).mp ⟨0, by simp⟩
  obtain ⟨k2, e2⟩ := (h f2).mpr ⟨0, by simp⟩
  have hf : f = f2 := by
    have := n0 f2 s2 k1 hs2
    have := n0 f s k2 hs
    omega
  subst hf
  obtain ⟨k3, e3⟩ := (h (f + s)).mp ⟨1, by simp⟩
  obtain ⟨k4, e4⟩ := (h (f + s2)).mpr ⟨1, by simp⟩
  have := n1 f s2 k3 hs2
  have := n1 f s k4 hs
  exact ⟨rfl, by omega⟩

