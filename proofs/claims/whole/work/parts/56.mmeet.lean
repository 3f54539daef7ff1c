/-! THE MODEL: meets, meet, every, why (printed by wip/whole/p56.py) -/
/-- as zmc, but rounds that never begin -/
def zmo (T : Int → Int → Int) (s i d : Int) : Prop := 0 ≤ d ∧ ∀ e : Int, 0 ≤ e → e < i → zbt s e → (d - T e 3) % T e 2 = 0
theorem zmo_0 {T : Int → Int → Int} {s d : Int} : zmo T s 0 d ↔ zmR 0 1 d := by
  constructor
  · rintro ⟨h, -⟩
    exact ⟨d.toNat, by omega⟩
  · rintro ⟨k, rfl⟩
    exact ⟨by omega, fun e e0 e1 => by omega⟩
theorem zmo_n {T : Int → Int → Int} {s i d : Int} (hb : ¬ zbt s i) : zmo T s (i + 1) d ↔ zmo T s i d := by
  constructor
  · rintro ⟨h, h2⟩
    exact ⟨h, fun e e0 e1 hb => h2 e e0 (by omega) hb⟩
  · rintro ⟨h, h2⟩
    refine ⟨h, fun e e0 e1 hb2 => ?_⟩
    by_cases ee : e = i
    · subst ee
      exact absurd hb2 hb
    · exact h2 e e0 (by omega) hb2
theorem zmo_y {T : Int → Int → Int} {s i d : Int} (hi : 0 ≤ i) (hb : zbt s i) : zmo T s (i + 1) d ↔ (zmo T s i d ∧ (d - T i 3) % T i 2 = 0) := by
  constructor
  · rintro ⟨h, h2⟩
    exact ⟨⟨h, fun e e0 e1 hb => h2 e e0 (by omega) hb⟩, h2 i hi (by omega) hb⟩
  · rintro ⟨⟨h, h2⟩, h3⟩
    refine ⟨h, fun e e0 e1 hb2 => ?_⟩
    by_cases ee : e = i
    · subst ee
      exact h3
    · exact h2 e e0 (by omega) hb2
/-- F is where all of them have begun -/
def zmf_ (T : Int → Int → Int) (s i F : Int) : Prop := ∀ d : Int, (0 ≤ d ∧ ∀ e : Int, 0 ≤ e → e < i → zbt s e → T e 3 ≤ d) ↔ F ≤ d
theorem zmf_n {T : Int → Int → Int} {s i F : Int} (hb : ¬ zbt s i) (h : zmf_ T s i F) : zmf_ T s (i + 1) F := by
  intro d
  rw [← h d]
  constructor
  · rintro ⟨a, b⟩
    exact ⟨a, fun e e0 e1 hb => b e e0 (by omega) hb⟩
  · rintro ⟨a, b⟩
    refine ⟨a, fun e e0 e1 hb2 => ?_⟩
    by_cases ee : e = i
    · subst ee
      exact absurd hb2 hb
    · exact b e e0 (by omega) hb2
theorem zmf_y {T : Int → Int → Int} {s i F G : Int} (hi : 0 ≤ i) (hb : zbt s i) (h : zmf_ T s i F) (hG : ∀ d : Int, G ≤ d ↔ (F ≤ d ∧ T i 3 ≤ d)) : zmf_ T s (i + 1) G := by
  intro d
  rw [hG, ← h d]
  constructor
  · rintro ⟨a, b⟩
    exact ⟨⟨a, fun e e0 e1 hb => b e e0 (by omega) hb⟩, b i hi (by omega) hb⟩
  · rintro ⟨⟨a, b⟩, c⟩
    refine ⟨a, fun e e0 e1 hb2 => ?_⟩
    by_cases ee : e = i
    · subst ee
      exact c
    · exact b e e0 (by omega) hb2
theorem zmc_o {T : Int → Int → Int} {s i F d : Int} (h : zmf_ T s i F) : zmc T s i d ↔ (zmo T s i d ∧ F ≤ d) := by
  rw [← h d]
  constructor
  · rintro ⟨a, b⟩
    exact ⟨⟨a, fun e e0 e1 hb => (b e e0 e1 hb).2⟩, a, fun e e0 e1 hb => (b e e0 e1 hb).1⟩
  · rintro ⟨⟨a, b⟩, -, c⟩
    exact ⟨a, fun e e0 e1 hb => ⟨c e e0 e1 hb, b e e0 e1 hb⟩⟩
/-- the first one that fits is below the next step -/
theorem zmt_lt {r s p b c : Int} (hr : 0 ≤ r ∧ r < s) (hp : 1 ≤ p) (hc : 0 ≤ c) (h0 : (r + c * s - b) % p = 0) (hm : ∀ j : Int, 0 ≤ j → j < c → (r + j * s - b) % p ≠ 0) : 0 ≤ r + c * s ∧ r + c * s < s / zgc s p * p := by
  obtain ⟨s', rfl⟩ := Int.eq_ofNat_of_zero_le (show 0 ≤ s by omega)
  obtain ⟨p', rfl⟩ := Int.eq_ofNat_of_zero_le (show 0 ≤ p by omega)
  have hs' : 0 < s' := by omega
  rw [zmt_g]
  have e2 := zmt_2 (p := p') hs'
  have c0 : 0 ≤ c * (s' : Int) := Int.mul_nonneg hc (by omega)
  refine ⟨by omega, ?_⟩
  by_cases hlt : c < ((p' / Nat.gcd s' p' : Nat) : Int)
  · have m := Int.mul_le_mul_of_nonneg_right (show c + 1 ≤ ((p' / Nat.gcd s' p' : Nat) : Int) by omega) (show (0 : Int) ≤ s' by omega)
    rw [Int.add_mul, Int.one_mul] at m
    rw [e2, Int.natCast_mul]
    omega
  · exfalso
    have hg : 0 < Nat.gcd s' p' := Nat.gcd_pos_of_pos_left _ hs'
    have hq : 0 < p' / Nat.gcd s' p' := Nat.div_pos (Nat.gcd_le_right _ (by omega)) hg
    refine hm (c - ((p' / Nat.gcd s' p' : Nat) : Int)) (by omega) (by omega) ?_
    have e3 : r + (c - ((p' / Nat.gcd s' p' : Nat) : Int)) * s' - b = (r + c * s' - b) - ((s' / Nat.gcd s' p' * p' : Nat) : Int) := by
      rw [e2, Int.natCast_mul, Int.sub_mul]
      omega
    rw [e3]
    have d0 := Int.dvd_of_emod_eq_zero h0
    have d1 : (p' : Int) ∣ ((s' / Nat.gcd s' p' * p' : Nat) : Int) := by
      rw [Int.natCast_mul]
      exact Int.dvd_mul_left _ _
    exact Int.emod_eq_zero_of_dvd (Int.dvd_sub d0 d1)
theorem zmR_s {x s F d : Int} (hs : 1 ≤ s) (hx : x < F) : (zmR x s d ∧ F ≤ d) ↔ (zmR (x + s) s d ∧ F ≤ d) := by
  constructor
  · rintro ⟨⟨k, rfl⟩, h⟩
    refine ⟨?_, h⟩
    rcases Nat.eq_zero_or_pos k with rfl | hk
    · exfalso
      have : ((0 : Nat) : Int) * s = 0 := by simp
      omega
    · refine ⟨k - 1, ?_⟩
      have : ((k - 1 : Nat) : Int) = (k : Int) - 1 := by omega
      rw [this, Int.sub_mul]
      omega
  · rintro ⟨⟨k, rfl⟩, h⟩
    refine ⟨⟨k + 1, ?_⟩, h⟩
    rw [Int.natCast_add, Int.add_mul]
    simp
    omega
theorem zmR_a {x s F d : Int} (hs : 1 ≤ s) (hx : F ≤ x) : (zmR x s d ∧ F ≤ d) ↔ zmR x s d := by
  constructor
  · exact fun q => q.1
  · rintro ⟨k, rfl⟩
    have := Int.mul_nonneg (show (0 : Int) ≤ k by omega) (show 0 ≤ s by omega)
    exact ⟨⟨k, rfl⟩, by omega⟩
section
variable {g : zG} {N : Nat} {M : zM}
set_option maxRecDepth 20000 in
set_option maxHeartbeats 2000000 in
theorem kX10_meE (hS : zSt M) (hW : zWm M) {S : Int} (hs : 0 ≤ S ∧ S ≤ 2147483647) {F s t : Int} {w5 : zv} (hs1 : 1 ≤ s ∧ s ≤ 46656000000) (hF : 0 ≤ F ∧ F ≤ 59) : ∀ (k : Nat) (x : Int) (M1 : zM), F - x ≤ k → zFr zMs M M1 → M1 58 32 = x → M1 58 33 = s → (0 ≤ x ∧ x ≤ 46656000059) → (∀ d, zmc (zTm M) S (M 58 12) d ↔ (zmR x s d ∧ F ≤ d)) → zV g xX10_meets ((fun w N' M1 => N' = 75 ∧ zFr zMs M M1 ∧ ((w = some (zi 0) ∧ ∀ d, ¬ zmc (zTm M) S (M 58 12) d) ∨ (w = some (zi 1) ∧ (∀ d, zmc (zTm M) S (M 58 12) d ↔ zmR (M1 58 32) (M1 58 33) d) ∧ 1 ≤ M1 58 33)))) 200 [zr 58, zi S, zl F, (3, 0), zi t, w5] [] 75 M1 0 0 := by
  intro k
  induction k with
  | zero =>
    intro x M1 h0 h1 h2 h3 h4 h5
    refine zV_aload_n (pc := 200) (i := 0) dX10_meets_200 rfl rfl ?_
    refine zV_get (pc := 201) (j := 32) dX10_meets_201 flX10_379 (zOb_of rfl) rfl h2 ?_
    refine zV_lload_n (pc := 204) (i := 2) dX10_meets_204 rfl rfl ?_
    refine zV_lcmp (pc := 205) dX10_meets_205 (by omega) ?_
    refine zV_if_gec (pc := 206) (tgt := 225) dX10_meets_206 (by decide) (fun c_206 => ?_) (fun c_206 => absurd (by omega) c_206)
    refine zV_iconst (pc := 225) dX10_meets_225 ?_
    refine zV_iret (pc := 226) dX10_meets_226 (by first | exact zok_b1 | exact zok_b0 | exact zok_b) ⟨Nat.zero_le _, Nat.zero_le _⟩ ?_
    refine ⟨rfl, h1, Or.inr ⟨rfl, fun d => ?_, by rw [h3]; exact hs1.1⟩⟩
    rw [h2, h3]
    exact (h5 d).trans (zmR_a hs1.1 (by omega))
  | succ k ih =>
    intro x M1 h0 h1 h2 h3 h4 h5
    refine zV_aload_n (pc := 200) (i := 0) dX10_meets_200 rfl rfl ?_
    refine zV_get (pc := 201) (j := 32) dX10_meets_201 flX10_379 (zOb_of rfl) rfl h2 ?_
    refine zV_lload_n (pc := 204) (i := 2) dX10_meets_204 rfl rfl ?_
    refine zV_lcmp (pc := 205) dX10_meets_205 (by omega) ?_
    refine zV_if_gec (pc := 206) (tgt := 225) dX10_meets_206 (by decide) (fun c_206 => ?_) (fun c_206 => ?_)
    · refine zV_iconst (pc := 225) dX10_meets_225 ?_
      refine zV_iret (pc := 226) dX10_meets_226 (by first | exact zok_b1 | exact zok_b0 | exact zok_b) ⟨Nat.zero_le _, Nat.zero_le _⟩ ?_
      refine ⟨rfl, h1, Or.inr ⟨rfl, fun d => ?_, by rw [h3]; exact hs1.1⟩⟩
      rw [h2, h3]
      exact (h5 d).trans (zmR_a hs1.1 (by omega))
    · refine zV_aload_n (pc := 209) (i := 0) dX10_meets_209 rfl rfl ?_
      refine zV_dup (pc := 210) dX10_meets_210 (by simp) ?_
      refine zV_get (pc := 211) (j := 32) dX10_meets_211 flX10_379 (zOb_of rfl) rfl h2 ?_
      refine zV_aload_n (pc := 214) (i := 0) dX10_meets_214 rfl rfl ?_
      refine zV_get (pc := 215) (j := 33) dX10_meets_215 flX10_382 (zOb_of rfl) rfl h3 ?_
      refine zV_ladd (pc := 218) dX10_meets_218 ?_
      refine zV_put (pc := 219) (j := 32) dX10_meets_219 flX10_379 rfl (zOb_of rfl) rfl trivial ?_
      refine zV_goto (pc := 222) (tgt := 200) dX10_meets_222 (by decide) ?_
      exact ih (x + s) _ (by omega) (h1.up (a := 58) (j := 32) (Or.inr (Or.inr (Or.inr (Or.inr ⟨rfl, Or.inr ⟨by decide, by decide⟩⟩))))) (zU_s _ _ _ _) ((zU_j _ _ _ _ (by decide)).trans h3) (by omega) (fun d => (h5 d).trans (zmR_s hs1.1 (by omega)))
set_option maxRecDepth 20000 in
set_option maxHeartbeats 2000000 in
theorem kX10_meS (hS : zSt M) (hW : zWm M) {S : Int} (hs : 0 ≤ S ∧ S ≤ 2147483647) {P : zP} {M1 : zM} (h9 : zFr zMs M M1) {F t r s : Int} (ht : 0 ≤ t ∧ t < M 58 12) (k32 : M1 58 32 = r) (k33 : M1 58 33 = s) (hr : 0 ≤ r ∧ r < s) (hs1 : 1 ≤ s ∧ s ≤ 46656000000) (hX : (∀ c : Int, (0 ≤ c ∧ c ≤ zTm M t 2) → (∀ j : Int, 0 ≤ j → j < c → (r + j * s - zTm M t 3) % zTm M t 2 ≠ 0) → (c = zTm M t 2 ∨ (r + c * s - zTm M t 3) % zTm M t 2 = 0) → zV g xX10_meets P 91 [zr 58, zi S, zl F, (3, 0), zi t, zi c] [] 75 M1 0 0)) : ∀ (k : Nat) (c : Int), c + k = zTm M t 2 → 0 ≤ c → (∀ j : Int, 0 ≤ j → j < c → (r + j * s - zTm M t 3) % zTm M t 2 ≠ 0) → zV g xX10_meets P 37 [zr 58, zi S, zl F, (3, 0), zi t, zi c] [] 75 M1 0 0 := by
  intro k
  induction k with
  | zero =>
    intro c h0 h1 h2
    have hR1 := hS.fr h9 zMs_st
    have hti := hW.2 t ht.1 (by omega)
    have g64 : M1 64 t = zTm M t 2 := zTm_fr h9 t 2 (by decide)
    have g65 : M1 65 t = zTm M t 3 := zTm_fr h9 t 3 (by decide)
    have hn := hW.1
    have hp := hti.2.2.1
    have hp2 : 1 ≤ M 64 t ∧ M 64 t ≤ 60 := hp
    have hcs : 0 ≤ c * s ∧ c * s ≤ 60 * 46656000000 := ⟨Int.mul_nonneg h1 (by omega), Int.le_trans (Int.mul_le_mul_of_nonneg_right (by omega : c ≤ 60) (by omega)) (by omega)⟩
    have htr := ztm_r (x := r + c * s - zTm M t 3) (y := zTm M t 2) (by have := hti.2.2.1; omega)
    have hb := hti.2.2.2
    refine zV_iload (pc := 37) dX10_meets_37 rfl ?_
    refine zV_aload_n (pc := 39) (i := 0) dX10_meets_39 rfl rfl ?_
    refine zV_get (pc := 40) (j := 10) dX10_meets_40 flX10_29 (zOb_of rfl) rfl hR1.e58_10 ?_
    refine zV_iload (pc := 43) dX10_meets_43 rfl ?_
    refine zV_iald (pc := 45) dX10_meets_45 (zAr_of rfl : zAr 75 64 0 6) (by omega) g64 ?_
    refine zV_icmp_ge (pc := 46) (tgt := 91) dX10_meets_46 (by decide) (by omega) (fun c_46 => ?_) (fun c_46 => absurd (by omega) c_46)
    exact hX c (by omega) h2 (Or.inl (by omega))
  | succ k ih =>
    intro c h0 h1 h2
    have hR1 := hS.fr h9 zMs_st
    have hti := hW.2 t ht.1 (by omega)
    have g64 : M1 64 t = zTm M t 2 := zTm_fr h9 t 2 (by decide)
    have g65 : M1 65 t = zTm M t 3 := zTm_fr h9 t 3 (by decide)
    have hn := hW.1
    have hp := hti.2.2.1
    have hp2 : 1 ≤ M 64 t ∧ M 64 t ≤ 60 := hp
    have hcs : 0 ≤ c * s ∧ c * s ≤ 60 * 46656000000 := ⟨Int.mul_nonneg h1 (by omega), Int.le_trans (Int.mul_le_mul_of_nonneg_right (by omega : c ≤ 60) (by omega)) (by omega)⟩
    have htr := ztm_r (x := r + c * s - zTm M t 3) (y := zTm M t 2) (by have := hti.2.2.1; omega)
    have hb := hti.2.2.2
    refine zV_iload (pc := 37) dX10_meets_37 rfl ?_
    refine zV_aload_n (pc := 39) (i := 0) dX10_meets_39 rfl rfl ?_
    refine zV_get (pc := 40) (j := 10) dX10_meets_40 flX10_29 (zOb_of rfl) rfl hR1.e58_10 ?_
    refine zV_iload (pc := 43) dX10_meets_43 rfl ?_
    refine zV_iald (pc := 45) dX10_meets_45 (zAr_of rfl : zAr 75 64 0 6) (by omega) g64 ?_
    refine zV_icmp_ge (pc := 46) (tgt := 91) dX10_meets_46 (by decide) (by omega) (fun c_46 => absurd c_46 (by omega)) (fun c_46 => ?_)
    refine zV_aload_n (pc := 49) (i := 0) dX10_meets_49 rfl rfl ?_
    refine zV_get (pc := 50) (j := 32) dX10_meets_50 flX10_379 (zOb_of rfl) rfl k32 ?_
    refine zV_iload (pc := 53) dX10_meets_53 rfl ?_
    refine zV_i2l (pc := 55) dX10_meets_55 (by omega) ?_
    refine zV_aload_n (pc := 56) (i := 0) dX10_meets_56 rfl rfl ?_
    refine zV_get (pc := 57) (j := 33) dX10_meets_57 flX10_382 (zOb_of rfl) rfl k33 ?_
    refine zV_lmul (pc := 60) dX10_meets_60 ?_
    refine zV_ladd (pc := 61) dX10_meets_61 ?_
    refine zV_aload_n (pc := 62) (i := 0) dX10_meets_62 rfl rfl ?_
    refine zV_get (pc := 63) (j := 11) dX10_meets_63 flX10_32 (zOb_of rfl) rfl hR1.e58_11 ?_
    refine zV_iload (pc := 66) dX10_meets_66 rfl ?_
    refine zV_iald (pc := 68) dX10_meets_68 (zAr_of rfl : zAr 75 65 0 6) (by omega) g65 ?_
    refine zV_i2l (pc := 69) dX10_meets_69 (by omega) ?_
    refine zV_lsub (pc := 70) dX10_meets_70 ?_
    refine zV_aload_n (pc := 71) (i := 0) dX10_meets_71 rfl rfl ?_
    refine zV_get (pc := 72) (j := 10) dX10_meets_72 flX10_29 (zOb_of rfl) rfl hR1.e58_10 ?_
    refine zV_iload (pc := 75) dX10_meets_75 rfl ?_
    refine zV_iald (pc := 77) dX10_meets_77 (zAr_of rfl : zAr 75 64 0 6) (by omega) g64 ?_
    refine zV_i2l (pc := 78) dX10_meets_78 (by omega) ?_
    refine zV_lrem (pc := 79) dX10_meets_79 (by omega) (by omega) ?_
    refine zV_lconst0 (pc := 80) dX10_meets_80 ?_
    refine zV_lcmp (pc := 81) dX10_meets_81 (by omega) ?_
    refine zV_if_eqc (pc := 82) (tgt := 91) dX10_meets_82 (by decide) (fun c_82 => ?_) (fun c_82 => ?_)
    · exact hX c (by omega) h2 (Or.inr (ztm.mp c_82))
    · refine zV_iinc (pc := 85) dX10_meets_85 rfl rfl ?_
      try dsimp only [List.set_cons_succ, List.set_cons_zero]
      refine zV_goto (pc := 88) (tgt := 37) dX10_meets_88 (by decide) ?_
      refine ih (c + 1) (by omega) (by omega) (fun j j0 j1 => ?_)
      by_cases e : j = c
      · rw [e]; exact fun q => c_82 (ztm.mpr q)
      · exact h2 j j0 (by omega)
set_option maxRecDepth 20000 in
set_option maxHeartbeats 2000000 in
theorem kX10_meL (hS : zSt M) (hW : zWm M) {S : Int} (hs : 0 ≤ S ∧ S ≤ 2147483647) : ∀ (k : Nat) (t F r s : Int) (M1 : zM) (w5 : zv), t + k = M 58 12 → zFr zMs M M1 → 0 ≤ t → M1 58 32 = r → M1 58 33 = s → ((0 ≤ r ∧ r < s) ∧ 1 ≤ s ∧ s ≤ z60 t) → (0 ≤ F ∧ F ≤ 59) → (∀ d, zmo (zTm M) S t d ↔ zmR r s d) → zmf_ (zTm M) S t F → zV g xX10_meets ((fun w N' M1 => N' = 75 ∧ zFr zMs M M1 ∧ ((w = some (zi 0) ∧ ∀ d, ¬ zmc (zTm M) S (M 58 12) d) ∨ (w = some (zi 1) ∧ (∀ d, zmc (zTm M) S (M 58 12) d ↔ zmR (M1 58 32) (M1 58 33) d) ∧ 1 ≤ M1 58 33)))) 15 [zr 58, zi S, zl F, (3, 0), zi t, w5] [] 75 M1 0 0 := by
  intro k
  induction k with
  | zero =>
    intro t F r s M1 w5 h0 h1 h2 h3 h4 h5 h6 h7 h8
    have hn := hW.1
    have hS1 := hS.fr h1 zMs_st
    have e12 : M1 58 12 = M 58 12 := h1 _ _ (by unfold zMs; omega)
    have z2 := z60_b (i := t)
    refine zV_iload (pc := 15) dX10_meets_15 rfl ?_
    refine zV_aload_n (pc := 17) (i := 0) dX10_meets_17 rfl rfl ?_
    refine zV_get (pc := 18) (j := 12) dX10_meets_18 flX10_73 (zOb_of rfl) rfl e12 ?_
    refine zV_icmp_ge (pc := 21) (tgt := 200) dX10_meets_21 (by decide) (by omega) (fun c_21 => ?_) (fun c_21 => absurd (by omega) c_21)
    have et : t = M 58 12 := by omega
    subst et
    exact kX10_meE hS hW hs (by omega) h6 (F - r).toNat r M1 (by omega) h1 h3 h4 (by omega) (fun d => (zmc_o h8).trans (and_congr_left (fun _ => h7 d)))
  | succ k ih =>
    intro t F r s M1 w5 h0 h1 h2 h3 h4 h5 h6 h7 h8
    have hn := hW.1
    have hS1 := hS.fr h1 zMs_st
    have e12 : M1 58 12 = M 58 12 := h1 _ _ (by unfold zMs; omega)
    have z2 := z60_b (i := t)
    have hti := hW.2 t h2 (by omega)
    have g64 : M1 64 t = zTm M t 2 := zTm_fr h1 t 2 (by decide)
    have g65 : M1 65 t = zTm M t 3 := zTm_fr h1 t 3 (by decide)
    have hp := hti.2.2.1
    have hb3 := hti.2.2.2
    have h0b : 0 ≤ S / 2 ^ t.toNat := Int.ediv_nonneg hs.1 (Int.le_of_lt (Int.pow_pos (by decide)))
    refine zV_iload (pc := 15) dX10_meets_15 rfl ?_
    refine zV_aload_n (pc := 17) (i := 0) dX10_meets_17 rfl rfl ?_
    refine zV_get (pc := 18) (j := 12) dX10_meets_18 flX10_73 (zOb_of rfl) rfl e12 ?_
    refine zV_icmp_ge (pc := 21) (tgt := 200) dX10_meets_21 (by decide) (by omega) (fun c_21 => absurd c_21 (by omega)) (fun c_21 => ?_)
    refine zV_iload_n (pc := 24) (i := 1) dX10_meets_24 rfl rfl ?_
    refine zV_iload (pc := 25) dX10_meets_25 rfl ?_
    refine zV_ishr (pc := 27) dX10_meets_27 (z_shr (by omega) (by omega) rfl) ?_
    refine zV_iconst (pc := 28) dX10_meets_28 ?_
    refine zV_iand (pc := 29) dX10_meets_29 (z_and1 h0b) ?_
    refine zV_iconst (pc := 30) dX10_meets_30 ?_
    refine zV_icmp_ne (pc := 31) (tgt := 194) dX10_meets_31 (by decide) (by omega) (fun c_31 => ?_) (fun c_31 => ?_)
    · refine zV_iinc (pc := 194) dX10_meets_194 rfl rfl ?_
      try dsimp only [List.set_cons_succ, List.set_cons_zero]
      refine zV_goto (pc := 197) (tgt := 15) dX10_meets_197 (by decide) ?_
      have z9 := z60_s (i := t) (by omega)
      exact ih (t + 1) F r s M1 _ (by omega) h1 (by omega) h3 h4 ⟨h5.1, h5.2.1, by omega⟩ h6 (fun d => (zmo_n c_31).trans (h7 d)) (zmf_n c_31 h8)
    · refine zV_iconst (pc := 34) dX10_meets_34 ?_
      refine zV_istore (pc := 35) dX10_meets_35 rfl ?_
      try dsimp only [List.set_cons_succ, List.set_cons_zero]
      have hbt : zbt S t := c_31
      refine kX10_meS hS hW hs h1 (F := F) ⟨h2, by omega⟩ h3 h4 h5.1 ⟨h5.2.1, by omega⟩ (fun c hc hcm hcx => ?_) (zTm M t 2).toNat 0 (by omega) (by omega) (fun j j0 j1 => absurd j0 (by omega))
      refine zV_iload (pc := 91) dX10_meets_91 rfl ?_
      refine zV_aload_n (pc := 93) (i := 0) dX10_meets_93 rfl rfl ?_
      refine zV_get (pc := 94) (j := 10) dX10_meets_94 flX10_29 (zOb_of rfl) rfl hS1.e58_10 ?_
      refine zV_iload (pc := 97) dX10_meets_97 rfl ?_
      refine zV_iald (pc := 99) dX10_meets_99 (zAr_of rfl : zAr 75 64 0 6) (by omega) g64 ?_
      refine zV_icmp_ne (pc := 100) (tgt := 105) dX10_meets_100 (by decide) (by omega) (fun c_100 => ?_) (fun c_100 => ?_)
      · have h0 : (r + c * s - zTm M t 3) % zTm M t 2 = 0 := hcx.resolve_left c_100
        have lt := zmt_lt (b := zTm M t 3) h5.1 hp.1 hc.1 h0 hcm
        have key := fun d => zmt_in (d := d) (f := r) (s := s) (b := zTm M t 3) (p := zTm M t 2) h5.2.1 hp.1 hc.1 h0 hcm
        have hg := zgc_p (a := s) (b := zTm M t 2) (Or.inl (by omega))
        have hgl := zgc_le (a := s) (b := zTm M t 2) (by omega)
        have hq0 : 1 ≤ s / zgc s (zTm M t 2) := by
          have := Int.ediv_le_ediv hg hgl
          rw [Int.ediv_self (by omega)] at this
          exact this
        have hq1 : s / zgc s (zTm M t 2) ≤ s := Int.ediv_le_self _ (by omega)
        have hn0 : 1 * zTm M t 2 ≤ s / zgc s (zTm M t 2) * zTm M t 2 := Int.mul_le_mul_of_nonneg_right hq0 (by omega)
        have hn1 : s / zgc s (zTm M t 2) * zTm M t 2 ≤ s * 60 := Int.le_trans (Int.mul_le_mul_of_nonneg_right hq1 (by omega)) (Int.mul_le_mul_of_nonneg_left hp.2 (by omega))
        have zs := z60_s (i := t) (by omega)
        have z3 := z60_b (i := t + 1)
        have ef : (r + c * s) % (s / zgc s (zTm M t 2) * zTm M t 2) = r + c * s := Int.emod_eq_of_lt lt.1 lt.2
        refine zV_aload_n (pc := 105) (i := 0) dX10_meets_105 rfl rfl ?_
        refine zV_dup (pc := 106) dX10_meets_106 (by simp) ?_
        refine zV_get (pc := 107) (j := 32) dX10_meets_107 flX10_379 (zOb_of rfl) rfl h3 ?_
        refine zV_iload (pc := 110) dX10_meets_110 rfl ?_
        refine zV_i2l (pc := 112) dX10_meets_112 (by omega) ?_
        refine zV_aload_n (pc := 113) (i := 0) dX10_meets_113 rfl rfl ?_
        refine zV_get (pc := 114) (j := 33) dX10_meets_114 flX10_382 (zOb_of rfl) rfl h4 ?_
        refine zV_lmul (pc := 117) dX10_meets_117 ?_
        refine zV_ladd (pc := 118) dX10_meets_118 ?_
        refine zV_put (pc := 119) (j := 32) dX10_meets_119 flX10_379 rfl (zOb_of rfl) rfl trivial ?_
        refine zV_aload_n (pc := 122) (i := 0) dX10_meets_122 rfl rfl ?_
        refine zV_aload_n (pc := 123) (i := 0) dX10_meets_123 rfl rfl ?_
        refine zV_get (pc := 124) (j := 33) dX10_meets_124 flX10_382 (zOb_of rfl) rfl ((zU_j _ _ _ _ (by decide)).trans h4) ?_
        refine zV_aload_n (pc := 127) (i := 0) dX10_meets_127 rfl rfl ?_
        refine zV_get (pc := 128) (j := 33) dX10_meets_128 flX10_382 (zOb_of rfl) rfl ((zU_j _ _ _ _ (by decide)).trans h4) ?_
        refine zV_aload_n (pc := 131) (i := 0) dX10_meets_131 rfl rfl ?_
        refine zV_get (pc := 132) (j := 10) dX10_meets_132 flX10_29 (zOb_of rfl) rfl ((zU_j _ _ _ _ (by decide)).trans hS1.e58_10) ?_
        refine zV_iload (pc := 135) dX10_meets_135 rfl ?_
        refine zV_iald (pc := 137) dX10_meets_137 (zAr_of rfl : zAr 75 64 0 6) (by omega) ((zU_a _ _ _ _ (by decide)).trans g64) ?_
        refine zV_i2l (pc := 138) dX10_meets_138 (by omega) ?_
        refine zV_isp (pc := 139) dX10_meets_139 klX10_385 mX10_common rfl ⟨Nat.zero_le _, Nat.zero_le _⟩ (kX10_common (by omega) (by omega)) rfl rfl (Nat.le_of_ble_eq_true rfl) ?_
        refine zV_ldivN (pc := 142) dX10_meets_142 (by omega) (by omega) ?_
        refine zV_aload_n (pc := 143) (i := 0) dX10_meets_143 rfl rfl ?_
        refine zV_get (pc := 144) (j := 10) dX10_meets_144 flX10_29 (zOb_of rfl) rfl ((zU_j _ _ _ _ (by decide)).trans hS1.e58_10) ?_
        refine zV_iload (pc := 147) dX10_meets_147 rfl ?_
        refine zV_iald (pc := 149) dX10_meets_149 (zAr_of rfl : zAr 75 64 0 6) (by omega) ((zU_a _ _ _ _ (by decide)).trans g64) ?_
        refine zV_i2l (pc := 150) dX10_meets_150 (by omega) ?_
        refine zV_lmul (pc := 151) dX10_meets_151 ?_
        refine zV_put (pc := 152) (j := 33) dX10_meets_152 flX10_382 rfl (zOb_of rfl) rfl trivial ?_
        refine zV_aload_n (pc := 155) (i := 0) dX10_meets_155 rfl rfl ?_
        refine zV_dup (pc := 156) dX10_meets_156 (by simp) ?_
        refine zV_get (pc := 157) (j := 32) dX10_meets_157 flX10_379 (zOb_of rfl) rfl ((zU_j _ _ _ _ (by decide)).trans (zU_s _ _ _ _)) ?_
        refine zV_aload_n (pc := 160) (i := 0) dX10_meets_160 rfl rfl ?_
        refine zV_get (pc := 161) (j := 33) dX10_meets_161 flX10_382 (zOb_of rfl) rfl (zU_s _ _ _ _) ?_
        refine zV_lremN (pc := 164) dX10_meets_164 (by omega) (by omega) ?_
        rw [ef]
        refine zV_put (pc := 165) (j := 32) dX10_meets_165 flX10_379 rfl (zOb_of rfl) rfl trivial ?_
        refine zV_aload_n (pc := 168) (i := 0) dX10_meets_168 rfl rfl ?_
        refine zV_get (pc := 169) (j := 11) dX10_meets_169 flX10_32 (zOb_of rfl) rfl ((zU_j _ _ _ _ (by decide)).trans ((zU_j _ _ _ _ (by decide)).trans ((zU_j _ _ _ _ (by decide)).trans hS1.e58_11))) ?_
        refine zV_iload (pc := 172) dX10_meets_172 rfl ?_
        refine zV_iald (pc := 174) dX10_meets_174 (zAr_of rfl : zAr 75 65 0 6) (by omega) ((zU_a _ _ _ _ (by decide)).trans ((zU_a _ _ _ _ (by decide)).trans ((zU_a _ _ _ _ (by decide)).trans g65))) ?_
        refine zV_i2l (pc := 175) dX10_meets_175 (by omega) ?_
        refine zV_lload_n (pc := 176) (i := 2) dX10_meets_176 rfl rfl ?_
        refine zV_lcmp (pc := 177) dX10_meets_177 (by omega) ?_
        refine zV_if_lec (pc := 178) (tgt := 192) dX10_meets_178 (by decide) (fun c_178 => ?_) (fun c_178 => ?_)
        · refine zV_lload_n (pc := 192) (i := 2) dX10_meets_192 rfl rfl ?_
          refine zV_lstore_n (pc := 193) (i := 2) dX10_meets_193 rfl rfl ?_
          try dsimp only [List.set_cons_succ, List.set_cons_zero]
          refine zV_iinc (pc := 194) dX10_meets_194 rfl rfl ?_
          try dsimp only [List.set_cons_succ, List.set_cons_zero]
          refine zV_goto (pc := 197) (tgt := 15) dX10_meets_197 (by decide) ?_
          have hz9 : ∀ d, zmo (zTm M) S (t + 1) d ↔ zmR (r + c * s) (s / zgc s (zTm M t 2) * zTm M t 2) d := fun d => (zmo_y h2 hbt).trans ((and_congr_left (fun _ => h7 d)).trans (key d))
          first
            | exact ih (t + 1) _ _ _ _ _ (by omega) (((h1.up (a := 58) (j := 32) (Or.inr (Or.inr (Or.inr (Or.inr ⟨rfl, Or.inr ⟨by decide, by decide⟩⟩))))).up (a := 58) (j := 33) (Or.inr (Or.inr (Or.inr (Or.inr ⟨rfl, Or.inr ⟨by decide, by decide⟩⟩))))).up (a := 58) (j := 32) (Or.inr (Or.inr (Or.inr (Or.inr ⟨rfl, Or.inr ⟨by decide, by decide⟩⟩))))) (by omega) (zU_s _ _ _ _) ((zU_j _ _ _ _ (by decide)).trans (zU_s _ _ _ _)) ⟨lt, by omega, by omega⟩ (by omega) hz9 (zmf_y h2 hbt h8 (fun d => ⟨fun q => by omega, fun q => q.2⟩))
            | exact ih (t + 1) _ _ _ _ _ (by omega) (((h1.up (a := 58) (j := 32) (Or.inr (Or.inr (Or.inr (Or.inr ⟨rfl, Or.inr ⟨by decide, by decide⟩⟩))))).up (a := 58) (j := 33) (Or.inr (Or.inr (Or.inr (Or.inr ⟨rfl, Or.inr ⟨by decide, by decide⟩⟩))))).up (a := 58) (j := 32) (Or.inr (Or.inr (Or.inr (Or.inr ⟨rfl, Or.inr ⟨by decide, by decide⟩⟩))))) (by omega) (zU_s _ _ _ _) ((zU_j _ _ _ _ (by decide)).trans (zU_s _ _ _ _)) ⟨lt, by omega, by omega⟩ (by omega) hz9 (zmf_y h2 hbt h8 (fun d => ⟨fun q => by omega, fun q => q.1⟩))
        · refine zV_aload_n (pc := 181) (i := 0) dX10_meets_181 rfl rfl ?_
          refine zV_get (pc := 182) (j := 11) dX10_meets_182 flX10_32 (zOb_of rfl) rfl ((zU_j _ _ _ _ (by decide)).trans ((zU_j _ _ _ _ (by decide)).trans ((zU_j _ _ _ _ (by decide)).trans hS1.e58_11))) ?_
          refine zV_iload (pc := 185) dX10_meets_185 rfl ?_
          refine zV_iald (pc := 187) dX10_meets_187 (zAr_of rfl : zAr 75 65 0 6) (by omega) ((zU_a _ _ _ _ (by decide)).trans ((zU_a _ _ _ _ (by decide)).trans ((zU_a _ _ _ _ (by decide)).trans g65))) ?_
          refine zV_i2l (pc := 188) dX10_meets_188 (by omega) ?_
          refine zV_goto (pc := 189) (tgt := 193) dX10_meets_189 (by decide) ?_
          refine zV_lstore_n (pc := 193) (i := 2) dX10_meets_193 rfl rfl ?_
          try dsimp only [List.set_cons_succ, List.set_cons_zero]
          refine zV_iinc (pc := 194) dX10_meets_194 rfl rfl ?_
          try dsimp only [List.set_cons_succ, List.set_cons_zero]
          refine zV_goto (pc := 197) (tgt := 15) dX10_meets_197 (by decide) ?_
          have hz9 : ∀ d, zmo (zTm M) S (t + 1) d ↔ zmR (r + c * s) (s / zgc s (zTm M t 2) * zTm M t 2) d := fun d => (zmo_y h2 hbt).trans ((and_congr_left (fun _ => h7 d)).trans (key d))
          first
            | exact ih (t + 1) _ _ _ _ _ (by omega) (((h1.up (a := 58) (j := 32) (Or.inr (Or.inr (Or.inr (Or.inr ⟨rfl, Or.inr ⟨by decide, by decide⟩⟩))))).up (a := 58) (j := 33) (Or.inr (Or.inr (Or.inr (Or.inr ⟨rfl, Or.inr ⟨by decide, by decide⟩⟩))))).up (a := 58) (j := 32) (Or.inr (Or.inr (Or.inr (Or.inr ⟨rfl, Or.inr ⟨by decide, by decide⟩⟩))))) (by omega) (zU_s _ _ _ _) ((zU_j _ _ _ _ (by decide)).trans (zU_s _ _ _ _)) ⟨lt, by omega, by omega⟩ (by omega) hz9 (zmf_y h2 hbt h8 (fun d => ⟨fun q => by omega, fun q => q.2⟩))
            | exact ih (t + 1) _ _ _ _ _ (by omega) (((h1.up (a := 58) (j := 32) (Or.inr (Or.inr (Or.inr (Or.inr ⟨rfl, Or.inr ⟨by decide, by decide⟩⟩))))).up (a := 58) (j := 33) (Or.inr (Or.inr (Or.inr (Or.inr ⟨rfl, Or.inr ⟨by decide, by decide⟩⟩))))).up (a := 58) (j := 32) (Or.inr (Or.inr (Or.inr (Or.inr ⟨rfl, Or.inr ⟨by decide, by decide⟩⟩))))) (by omega) (zU_s _ _ _ _) ((zU_j _ _ _ _ (by decide)).trans (zU_s _ _ _ _)) ⟨lt, by omega, by omega⟩ (by omega) hz9 (zmf_y h2 hbt h8 (fun d => ⟨fun q => by omega, fun q => q.1⟩))
      · refine zV_iconst (pc := 103) dX10_meets_103 ?_
        refine zV_iret (pc := 104) dX10_meets_104 (by first | exact zok_b1 | exact zok_b0 | exact zok_b) ⟨Nat.zero_le _, Nat.zero_le _⟩ ?_
        refine ⟨rfl, h1, Or.inl ⟨rfl, fun d q => ?_⟩⟩
        have hz := zmt_no (f := r) (s := s) (b := zTm M t 3) (p := zTm M t 2) (d := d) hp.1 (fun j j0 j1 => hcm j j0 (by omega))
        have q1 : zmc (zTm M) S (t + 1) d := ⟨q.1, fun e e0 e1 hb => q.2 e e0 (by omega) hb⟩
        have q2 := (zmc_y h2 hbt).mp q1
        exact hz ⟨(h7 d).mp ⟨q.1, fun e e0 e1 hb => (q.2 e e0 (by omega) hb).2⟩, q2.2.2⟩
set_option maxRecDepth 20000 in
set_option maxHeartbeats 2000000 in
theorem kX10_meets (hS : zSt M) (hW : zWm M) {S : Int} (hs : 0 ≤ S ∧ S ≤ 2147483647) : zK g yX10_meets xX10_meets [zr 58, zi S] 75 M ((fun w N' M1 => N' = 75 ∧ zFr zMs M M1 ∧ ((w = some (zi 0) ∧ ∀ d, ¬ zmc (zTm M) S (M 58 12) d) ∨ (w = some (zi 1) ∧ (∀ d, zmc (zTm M) S (M 58 12) d ↔ zmR (M1 58 32) (M1 58 33) d) ∧ 1 ≤ M1 58 33)))) := by
  refine zK_of (ls0 := [zr 58, zi S, (3, 0), (3, 0), (3, 0), (3, 0)]) (by decide) rfl (by decide) rfl (Nat.le_of_ble_eq_true rfl) ?_
  refine zV_aload_n (pc := 0) (i := 0) dX10_meets_0 rfl rfl ?_
  refine zV_lconst0 (pc := 1) dX10_meets_1 ?_
  refine zV_put (pc := 2) (j := 32) dX10_meets_2 flX10_379 rfl (zOb_of rfl) rfl trivial ?_
  refine zV_aload_n (pc := 5) (i := 0) dX10_meets_5 rfl rfl ?_
  refine zV_lconst1 (pc := 6) dX10_meets_6 ?_
  refine zV_put (pc := 7) (j := 33) dX10_meets_7 flX10_382 rfl (zOb_of rfl) rfl trivial ?_
  refine zV_lconst0 (pc := 10) dX10_meets_10 ?_
  refine zV_lstore_n (pc := 11) (i := 2) dX10_meets_11 rfl rfl ?_
  try dsimp only [List.set_cons_succ, List.set_cons_zero]
  refine zV_iconst (pc := 12) dX10_meets_12 ?_
  refine zV_istore (pc := 13) dX10_meets_13 rfl ?_
  try dsimp only [List.set_cons_succ, List.set_cons_zero]
  exact kX10_meL hS hW hs (M 58 12).toNat 0 0 0 1 _ _ (by have := hW.1; omega) ((zFr.rf.up (a := 58) (j := 32) (Or.inr (Or.inr (Or.inr (Or.inr ⟨rfl, Or.inr ⟨by decide, by decide⟩⟩))))).up (a := 58) (j := 33) (Or.inr (Or.inr (Or.inr (Or.inr ⟨rfl, Or.inr ⟨by decide, by decide⟩⟩))))) (by omega) ((zU_j _ _ _ _ (by decide)).trans (zU_s _ _ _ _)) (zU_s _ _ _ _) ⟨by decide, by decide⟩ (by decide) (fun d => zmo_0) (fun d => ⟨fun q => q.1, fun q => ⟨q, fun e e0 e1 => by omega⟩⟩)
set_option maxRecDepth 20000 in
set_option maxHeartbeats 2000000 in
theorem kX10_meet (hS : zSt M) (hW : zWm M) {S : Int} (hs : -2147483648 ≤ S ∧ S ≤ 2147483647) : zK g yX10_meet xX10_meet [zr 58, zi S] 75 M (fun w N' M1 => N' = 75 ∧ zFr zMs M M1 ∧ ((w = some (zl (-4611686018427387904)) ∧ (¬ (0 ≤ S ∧ S ≤ 2 ^ (M 58 12).toNat - 1) ∨ ∀ d, ¬ zmc (zTm M) S (M 58 12) d)) ∨ ((0 ≤ S ∧ S ≤ 2 ^ (M 58 12).toNat - 1) ∧ ∃ f s : Int, w = some (zl f) ∧ 1 ≤ s ∧ ∀ d, zmc (zTm M) S (M 58 12) d ↔ zmR f s d))) := by
  refine zK_of (ls0 := [zr 58, zi S]) (by decide) rfl (by decide) rfl (Nat.le_of_ble_eq_true rfl) ?_
  refine zV_iload_n (pc := 0) (i := 1) dX10_meet_0 rfl rfl ?_
  refine zV_i2l (pc := 1) dX10_meet_1 (by omega) ?_
  refine zV_lconst0 (pc := 2) dX10_meet_2 ?_
  refine zV_aload_n (pc := 3) (i := 0) dX10_meet_3 rfl rfl ?_
  refine zV_ivp (pc := 4) (ci := 10) dX10_meet_4 klX10_389 mX10_allThings ⟨by decide, rfl⟩ rfl ⟨Nat.zero_le _, Nat.zero_le _⟩ (kX10_allThings hW.1) (zOb_of rfl) rfl rfl (Nat.le_of_ble_eq_true rfl) ?_
  have h2p : (1 : Int) ≤ 2 ^ (M 58 12).toNat ∧ (2 : Int) ^ (M 58 12).toNat ≤ 64 := by
    have hn := hW.1
    rcases (show (M 58 12).toNat = 0 ∨ (M 58 12).toNat = 1 ∨ (M 58 12).toNat = 2 ∨ (M 58 12).toNat = 3 ∨ (M 58 12).toNat = 4 ∨ (M 58 12).toNat = 5 ∨ (M 58 12).toNat = 6 by omega) with e | e | e | e | e | e | e <;> rw [e] <;> decide
  refine zV_i2l (pc := 7) dX10_meet_7 (by omega) ?_
  refine zV_isp (pc := 8) dX10_meet_8 klX10_76 mX10_in rfl ⟨Nat.zero_le _, Nat.zero_le _⟩ (kX10_in (by omega) (by omega) (by omega)) rfl rfl (Nat.le_of_ble_eq_true rfl) ?_
  refine zV_if_eqb (pc := 11) (tgt := 29) dX10_meet_11 (by decide) (fun c_11 => ?_) (fun c_11 => ?_)
  · refine zV_ldc2 (pc := 29) dX10_meet_29 kiX10_395 ?_
    refine zV_lret (pc := 32) dX10_meet_32 trivial ⟨Nat.zero_le _, Nat.zero_le _⟩ ?_
    exact ⟨rfl, zFr.rf, Or.inl ⟨rfl, Or.inl c_11⟩⟩
  · refine zV_aload_n (pc := 14) (i := 0) dX10_meet_14 rfl rfl ?_
    refine zV_iload_n (pc := 15) (i := 1) dX10_meet_15 rfl rfl ?_
    refine zV_ivs (pc := 16) (ci := 10) dX10_meet_16 klX10_392 mX10_meets ⟨by decide, rfl⟩ rfl ⟨Nat.zero_le _, Nat.zero_le _⟩ (kX10_meets hS hW (by omega)) (zOb_of rfl) rfl rfl (Nat.le_of_ble_eq_true rfl) ?_
    rintro w9 N9 M1 ⟨rfl, fr, ⟨rfl, q⟩ | ⟨rfl, q, hs1⟩⟩
    · skip
      refine zV_if_eq (pc := 19) (tgt := 29) dX10_meet_19 (by decide) (by decide) (fun _ => ?_) (fun q => absurd rfl q)
      refine zV_ldc2 (pc := 29) dX10_meet_29 kiX10_395 ?_
      refine zV_lret (pc := 32) dX10_meet_32 trivial ⟨Nat.zero_le _, Nat.zero_le _⟩ ?_
      exact ⟨rfl, fr, Or.inl ⟨rfl, Or.inr q⟩⟩
    · skip
      refine zV_if_eq (pc := 19) (tgt := 29) dX10_meet_19 (by decide) (by decide) (fun q => absurd q (by decide)) (fun _ => ?_)
      refine zV_aload_n (pc := 22) (i := 0) dX10_meet_22 rfl rfl ?_
      refine zV_get (pc := 23) (j := 32) dX10_meet_23 flX10_379 (zOb_of rfl) rfl rfl ?_
      refine zV_goto (pc := 26) (tgt := 32) dX10_meet_26 (by decide) ?_
      refine zV_lret (pc := 32) dX10_meet_32 trivial ⟨Nat.zero_le _, Nat.zero_le _⟩ ?_
      exact ⟨rfl, fr, Or.inr ⟨c_11, M1 58 32, M1 58 33, rfl, hs1, q⟩⟩
set_option maxRecDepth 20000 in
set_option maxHeartbeats 2000000 in
theorem kX10_every (hS : zSt M) (hW : zWm M) {S : Int} (hs : -2147483648 ≤ S ∧ S ≤ 2147483647) : zK g yX10_every xX10_every [zr 58, zi S] 75 M (fun w N' M1 => N' = 75 ∧ zFr zMs M M1 ∧ ((w = some (zl (-4611686018427387904)) ∧ (¬ (0 ≤ S ∧ S ≤ 2 ^ (M 58 12).toNat - 1) ∨ ∀ d, ¬ zmc (zTm M) S (M 58 12) d)) ∨ ((0 ≤ S ∧ S ≤ 2 ^ (M 58 12).toNat - 1) ∧ ∃ f s : Int, w = some (zl s) ∧ 1 ≤ s ∧ ∀ d, zmc (zTm M) S (M 58 12) d ↔ zmR f s d))) := by
  refine zK_of (ls0 := [zr 58, zi S]) (by decide) rfl (by decide) rfl (Nat.le_of_ble_eq_true rfl) ?_
  refine zV_iload_n (pc := 0) (i := 1) dX10_every_0 rfl rfl ?_
  refine zV_i2l (pc := 1) dX10_every_1 (by omega) ?_
  refine zV_lconst0 (pc := 2) dX10_every_2 ?_
  refine zV_aload_n (pc := 3) (i := 0) dX10_every_3 rfl rfl ?_
  refine zV_ivp (pc := 4) (ci := 10) dX10_every_4 klX10_389 mX10_allThings ⟨by decide, rfl⟩ rfl ⟨Nat.zero_le _, Nat.zero_le _⟩ (kX10_allThings hW.1) (zOb_of rfl) rfl rfl (Nat.le_of_ble_eq_true rfl) ?_
  have h2p : (1 : Int) ≤ 2 ^ (M 58 12).toNat ∧ (2 : Int) ^ (M 58 12).toNat ≤ 64 := by
    have hn := hW.1
    rcases (show (M 58 12).toNat = 0 ∨ (M 58 12).toNat = 1 ∨ (M 58 12).toNat = 2 ∨ (M 58 12).toNat = 3 ∨ (M 58 12).toNat = 4 ∨ (M 58 12).toNat = 5 ∨ (M 58 12).toNat = 6 by omega) with e | e | e | e | e | e | e <;> rw [e] <;> decide
  refine zV_i2l (pc := 7) dX10_every_7 (by omega) ?_
  refine zV_isp (pc := 8) dX10_every_8 klX10_76 mX10_in rfl ⟨Nat.zero_le _, Nat.zero_le _⟩ (kX10_in (by omega) (by omega) (by omega)) rfl rfl (Nat.le_of_ble_eq_true rfl) ?_
  refine zV_if_eqb (pc := 11) (tgt := 29) dX10_every_11 (by decide) (fun c_11 => ?_) (fun c_11 => ?_)
  · refine zV_ldc2 (pc := 29) dX10_every_29 kiX10_395 ?_
    refine zV_lret (pc := 32) dX10_every_32 trivial ⟨Nat.zero_le _, Nat.zero_le _⟩ ?_
    exact ⟨rfl, zFr.rf, Or.inl ⟨rfl, Or.inl c_11⟩⟩
  · refine zV_aload_n (pc := 14) (i := 0) dX10_every_14 rfl rfl ?_
    refine zV_iload_n (pc := 15) (i := 1) dX10_every_15 rfl rfl ?_
    refine zV_ivs (pc := 16) (ci := 10) dX10_every_16 klX10_392 mX10_meets ⟨by decide, rfl⟩ rfl ⟨Nat.zero_le _, Nat.zero_le _⟩ (kX10_meets hS hW (by omega)) (zOb_of rfl) rfl rfl (Nat.le_of_ble_eq_true rfl) ?_
    rintro w9 N9 M1 ⟨rfl, fr, ⟨rfl, q⟩ | ⟨rfl, q, hs1⟩⟩
    · skip
      refine zV_if_eq (pc := 19) (tgt := 29) dX10_every_19 (by decide) (by decide) (fun _ => ?_) (fun q => absurd rfl q)
      refine zV_ldc2 (pc := 29) dX10_every_29 kiX10_395 ?_
      refine zV_lret (pc := 32) dX10_every_32 trivial ⟨Nat.zero_le _, Nat.zero_le _⟩ ?_
      exact ⟨rfl, fr, Or.inl ⟨rfl, Or.inr q⟩⟩
    · skip
      refine zV_if_eq (pc := 19) (tgt := 29) dX10_every_19 (by decide) (by decide) (fun q => absurd q (by decide)) (fun _ => ?_)
      refine zV_aload_n (pc := 22) (i := 0) dX10_every_22 rfl rfl ?_
      refine zV_get (pc := 23) (j := 33) dX10_every_23 flX10_382 (zOb_of rfl) rfl rfl ?_
      refine zV_goto (pc := 26) (tgt := 32) dX10_every_26 (by decide) ?_
      refine zV_lret (pc := 32) dX10_every_32 trivial ⟨Nat.zero_le _, Nat.zero_le _⟩ ?_
      exact ⟨rfl, fr, Or.inr ⟨c_11, M1 58 32, M1 58 33, rfl, hs1, q⟩⟩
end
