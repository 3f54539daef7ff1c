/-! PLAIN FACTS of ints, and the words in which the calls are told -/
theorem zo_n {x : Int} (h : 0 ≤ x) : Int32.ofInt x = nI x.toNat := by
  conv => lhs; rw [show x = ((x.toNat : Nat) : Int) by omega]
  exact Int32.ofInt_eq_ofNat
theorem zn_o (n : Nat) : nI n = Int32.ofInt (n : Int) := Int32.ofInt_eq_ofNat.symm
theorem zn_and (a b : Nat) : nI a &&& nI b = nI (a &&& b) := by
  unfold nI
  apply Int32.toBitVec_inj.mp
  rw [Int32.toBitVec_and, Int32.toBitVec_ofNat', Int32.toBitVec_ofNat', Int32.toBitVec_ofNat', BitVec.ofNat_and]
theorem zn_or (a b : Nat) : nI a ||| nI b = nI (a ||| b) := by
  unfold nI
  apply Int32.toBitVec_inj.mp
  rw [Int32.toBitVec_or, Int32.toBitVec_ofNat', Int32.toBitVec_ofNat', Int32.toBitVec_ofNat', BitVec.ofNat_or]
theorem zs_l : ∀ n, n < 32 → ((nI n &&& 31).toBitVec.smod 32).toNat = n := by decide +kernel
theorem z_shr {x y z : Int} (hx : -2147483648 ≤ x ∧ x ≤ 2147483647) (hy : 0 ≤ y ∧ y ≤ 31) (hz : x / 2 ^ y.toNat = z) : Int32.ofInt x >>> (Int32.ofInt y &&& 31) = Int32.ofInt z := by
  subst hz
  have hn := zs_l y.toNat (by omega)
  rw [← zo_n hy.1] at hn
  apply Int32.toInt_inj.1
  show (Int32.ofInt x >>> (Int32.ofInt y &&& 31)).toBitVec.toInt = _
  rw [Int32.toBitVec_shiftRight, BitVec.toInt_sshiftRight', hn, zw_eq]
  show (Int32.ofInt x).toInt >>> y.toNat = _
  rw [zw_eq, zw_id hx, Int.shiftRight_eq_div_pow]
  have h1 : (0 : Int) < 2 ^ y.toNat := Int.pow_pos (by decide)
  have h3 : ((2 ^ y.toNat : Nat) : Int) = (2 : Int) ^ y.toNat := by simp
  rw [h3, zw_id]
  constructor
  · by_cases h0 : 0 ≤ x
    · have := Int.ediv_nonneg h0 (Int.le_of_lt h1)
      omega
    · have h2 : x ≤ x / 2 ^ y.toNat := by
        have h4 : (1 : Int) ≤ 2 ^ y.toNat := h1
        have h5 := Int.ediv_le_ediv (a := x * 2 ^ y.toNat) (b := x) (c := 2 ^ y.toNat) h1 (by
          have := Int.mul_le_mul_of_nonneg_left h4 (show 0 ≤ -x by omega)
          rw [Int.mul_one, Int.neg_mul] at this
          omega)
        rw [Int.mul_ediv_cancel _ (by omega)] at h5
        exact h5
      omega
  · by_cases h0 : 0 ≤ x
    · have := Int.ediv_le_self (2 ^ y.toNat) h0
      omega
    · have := Int.ediv_neg_of_neg_of_pos (show x < 0 by omega) h1
      omega
theorem z_and1 {x : Int} (hx : 0 ≤ x) : Int32.ofInt x &&& Int32.ofInt 1 = Int32.ofInt (x % 2) := by
  rw [zo_n hx, show Int32.ofInt 1 = nI 1 from rfl, zn_and, Nat.and_one_is_mod, zn_o]
  congr 1
  omega
theorem z_or2 {s : Int} {i : Nat} (hs : 0 ≤ s ∧ s < 2 ^ i) : Int32.ofInt s ||| Int32.ofInt (2 ^ i) = Int32.ofInt (s + 2 ^ i) := by
  have h3 : ((2 ^ i : Nat) : Int) = (2 : Int) ^ i := by simp
  rw [zo_n hs.1, ← h3, ← zn_o, zn_or, zn_o]
  congr 1
  have h4 : s.toNat < 2 ^ i := by
    have : ((s.toNat : Nat) : Int) < ((2 ^ i : Nat) : Int) := by rw [h3]; omega
    exact Int.ofNat_lt.mp this
  have h5 := Nat.two_pow_add_eq_or_of_lt h4 1
  rw [Nat.mul_one] at h5
  rw [Nat.or_comm, ← h5]
  omega
theorem z_shl1 : ∀ n, n < 31 → Int32.ofInt 1 <<< (nI n &&& 31) = nI (2 ^ n) := by decide +kernel
theorem z_shl {y : Int} {n : Nat} (hy : y = n) (hn : n < 31) : Int32.ofInt 1 <<< (Int32.ofInt y &&& 31) = Int32.ofInt (2 ^ n) := by
  rw [hy, ← zn_o, z_shl1 n hn, zn_o]
  congr 1
theorem z_shl0 : ∀ n, n < 32 → Int32.ofInt 0 <<< (nI n &&& 31) = nI 0 := by decide +kernel
/-! sums, firsts -/
def zsum (f : Int → Int) : Nat → Int
  | 0 => 0
  | k + 1 => zsum f k + f k
theorem zsum_s (f : Int → Int) (k : Nat) : zsum f (k + 1) = zsum f k + f k := rfl
theorem zsum_c {f f' : Int → Int} : ∀ {n : Nat}, (∀ k : Int, 0 ≤ k → k < n → f k = f' k) → zsum f n = zsum f' n := by
  intro n
  induction n with
  | zero => intro _; rfl
  | succ n ih =>
    intro h
    rw [zsum_s, zsum_s, ih (fun k h0 h1 => h k h0 (by omega)), h n (by omega) (by omega)]
/-- the first from a on, of n, with q; else -1 -/
noncomputable def zfst (q : Int → Prop) : Int → Nat → Int
  | _, 0 => -1
  | a, k + 1 => @ite Int (q a) (Classical.propDecidable _) a (zfst q (a + 1) k)
theorem zfst_t {q : Int → Prop} {a : Int} {k : Nat} (h : q a) : zfst q a (k + 1) = a := by
  unfold zfst
  exact if_pos h
theorem zfst_f {q : Int → Prop} {a : Int} {k : Nat} (h : ¬ q a) : zfst q a (k + 1) = zfst q (a + 1) k := by
  conv => lhs; unfold zfst
  exact if_neg h
theorem zfst_c {q q' : Int → Prop} : ∀ {k : Nat} {a : Int}, (∀ j : Int, a ≤ j → j < a + k → (q j ↔ q' j)) → zfst q a k = zfst q' a k := by
  intro k
  induction k with
  | zero => intro a _; rfl
  | succ k ih =>
    intro a h
    by_cases hq : q a
    · rw [zfst_t hq, zfst_t ((h a (by omega) (by omega)).mp hq)]
    · rw [zfst_f hq, zfst_f (fun q2 => hq ((h a (by omega) (by omega)).mpr q2)), ih (fun j h1 h2 => h j (by omega) (by omega))]
theorem zfst_r {q : Int → Prop} : ∀ {k : Nat} {a : Int}, zfst q a k = -1 ∨ (a ≤ zfst q a k ∧ zfst q a k < a + k) := by
  intro k
  induction k with
  | zero => intro a; exact Or.inl rfl
  | succ k ih =>
    intro a
    by_cases hq : q a
    · rw [zfst_t hq]
      exact Or.inr ⟨Int.le_refl _, by omega⟩
    · rw [zfst_f hq]
      rcases ih (a := a + 1) with h | h
      · exact Or.inl h
      · exact Or.inr ⟨by omega, by omega⟩
/-! bits, rounds, holidays, who comes -/
def zbt (h i : Int) : Prop := h / 2 ^ i.toNat % 2 = 1
def zrd (p b d : Int) : Prop := b ≤ d ∧ (d - b) % p = 0
def zhd (h d : Int) : Prop := 0 ≤ d ∧ zbt h (d % 7)
def zls (n p b d : Int) : Prop := b ≤ d ∧ (d - b) % p ≤ n
def zpo (h p b d : Int) : Prop := ¬ zhd h d ∧ (zrd p b d ∨ ∃ k : Int, 1 ≤ k ∧ k ≤ 6 ∧ (∀ j : Int, 1 ≤ j → j ≤ k → zhd h (d - j)) ∧ zrd p b (d - k))
/-- whether a thing of kind k, number n, period p, begin b comes on day d -/
def zcm (k n p b h d : Int) : Prop := (k = 0 ∧ zrd p b d) ∨ (k = 1 ∧ zls n p b d) ∨ (k = 2 ∧ zpo h p b d) ∨ (k = 3 ∧ (zls n p b d ∨ zrd p b (d + 1))) ∨ (k = 4 ∧ zrd p b d ∧ ¬ zhd h d) ∨ (k = 5 ∧ (zrd p b d ∨ d % 30 = n))
theorem zrd_r {d b p : Int} (hb : b ≤ d) (hp : 0 < p) : 0 ≤ (d - b) % p ∧ (d - b) % p < p := ⟨Int.emod_nonneg _ (by omega), Int.emod_lt_of_pos _ hp⟩
theorem zcm_0 {n p b h d : Int} : zcm 0 n p b h d ↔ zrd p b d := by simp [zcm]
theorem zcm_1 {n p b h d : Int} : zcm 1 n p b h d ↔ zls n p b d := by simp [zcm]
theorem zcm_2 {n p b h d : Int} : zcm 2 n p b h d ↔ zpo h p b d := by simp [zcm]
theorem zcm_3 {n p b h d : Int} : zcm 3 n p b h d ↔ (zls n p b d ∨ zrd p b (d + 1)) := by simp [zcm]
theorem zcm_4 {n p b h d : Int} : zcm 4 n p b h d ↔ (zrd p b d ∧ ¬ zhd h d) := by simp [zcm]
theorem zcm_5 {n p b h d : Int} : zcm 5 n p b h d ↔ (zrd p b d ∨ d % 30 = n) := by simp [zcm]
theorem zPt {q : Prop} {N : Nat} {M : zM} (h : q) : zPp (zi (zb q)) N M (some (zi 1)) N M := ⟨by rw [zb_t h], rfl, rfl⟩
theorem zPf {q : Prop} {N : Nat} {M : zM} (h : ¬ q) : zPp (zi (zb q)) N M (some (zi 0)) N M := ⟨by rw [zb_f h], rfl, rfl⟩
theorem zPe {z z' : Int} {N : Nat} {M : zM} (h : z = z') : zPp (zi z') N M (some (zi z)) N M := ⟨by rw [h], rfl, rfl⟩
theorem zPl {z z' : Int} {N : Nat} {M : zM} (h : z = z') : zPp (zl z') N M (some (zl z)) N M := ⟨by rw [h], rfl, rfl⟩
theorem zPc {q q' : Prop} {N : Nat} {M : zM} (h : q ↔ q') : zPp (zi (zb q')) N M (some (zi (zb q))) N M := ⟨by rw [zb_c h], rfl, rfl⟩
