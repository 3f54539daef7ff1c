/-! THE MODEL: numbers, things, days (printed by wip/whole/p45.py) -/
/-- the model's things, by number and fact -/
def zTm (M : zM) : Int → Int → Int := fun i f => M (62 + f) i
def zTt (T : Int → Int → Int) (i : Int) : Prop := (0 ≤ T i 0 ∧ T i 0 ≤ 5) ∧ (0 ≤ T i 1 ∧ T i 1 ≤ 9) ∧ (1 ≤ T i 2 ∧ T i 2 ≤ 60) ∧ (0 ≤ T i 3 ∧ T i 3 ≤ 59)
def zWm (M : zM) : Prop := (0 ≤ M 58 12 ∧ M 58 12 ≤ 6) ∧ ∀ i : Int, 0 ≤ i → i < M 58 12 → zTt (zTm M) i
theorem zls_e {n p b d : Int} (hn : 0 ≤ n) (hp : 1 ≤ p) : (∃ k : Int, (0 ≤ k ∧ k ≤ n) ∧ zrd p b (d - k)) ↔ zls n p b d := by
  unfold zrd zls
  constructor
  · rintro ⟨k, hk, h1, h2⟩
    refine ⟨by omega, ?_⟩
    have e : d - b = (d - k - b) + k := by omega
    rw [e, Int.add_emod, h2, Int.zero_add, Int.emod_emod]
    have := Int.emod_lt_of_pos k (show 0 < p by omega)
    by_cases c : k < p
    · rw [Int.emod_eq_of_lt hk.1 c]
      exact hk.2
    · omega
  · rintro ⟨h1, h2⟩
    have r := Int.emod_nonneg (d - b) (show p ≠ 0 by omega)
    have q1 := Int.ediv_nonneg (a := d - b) (b := p) (by omega) (by omega)
    have q2 := Int.mul_nonneg (a := p) (by omega) q1
    have q3 := Int.emod_def (d - b) p
    refine ⟨(d - b) % p, ⟨r, h2⟩, by omega, ?_⟩
    rw [show d - (d - b) % p - b = (d - b) - (d - b) % p by omega, Int.sub_emod, Int.emod_emod, Int.sub_self, Int.zero_emod]
theorem zb64 : ∀ n, n < 64 → n ≠ 0 → zpc ((n &&& (n - 1) : Nat) : Int) = zpc n - 1 ∧ n &&& (n - 1) < 64 := by decide +kernel
theorem zand64 {x : Nat} (h : 1 ≤ x) : Int32.ofInt (x : Int) &&& Int32.ofInt ((x : Int) - 1) = Int32.ofInt ((x &&& (x - 1) : Nat) : Int) := by
  rw [show (x : Int) - 1 = ((x - 1 : Nat) : Int) by omega, ← zn_o, ← zn_o, zn_and, zn_o]
theorem zpc_0 : ∀ n, n < 64 → zpc ((n : Nat) : Int) = 0 → n = 0 := by decide +kernel
theorem zpc_b : ∀ n, n < 64 → 0 ≤ zpc ((n : Nat) : Int) ∧ zpc ((n : Nat) : Int) ≤ 6 := by decide +kernel
section
variable {g : zG} {N : Nat} {M : zM}
set_option maxRecDepth 20000 in
set_option maxHeartbeats 2000000 in
theorem kX10_in {v a b : Int} (hv : -9223372036854775808 ≤ v ∧ v ≤ 9223372036854775807) (ha : -9223372036854775808 ≤ a ∧ a ≤ 9223372036854775807) (hb : -9223372036854775808 ≤ b ∧ b ≤ 9223372036854775807) : zK g yX10_in xX10_in [zl v, zl a, zl b] N M (zPp (zi (zb (a ≤ v ∧ v ≤ b))) N M) := by
  refine zK_of (ls0 := [zl v, (3, 0), zl a, (3, 0), zl b, (3, 0)]) (by decide) rfl (by decide) rfl (Nat.le_of_ble_eq_true rfl) ?_
  refine zV_lload_n (pc := 0) (i := 0) dX10_in_0 rfl rfl ?_
  refine zV_lload_n (pc := 1) (i := 2) dX10_in_1 rfl rfl ?_
  refine zV_lcmp (pc := 2) dX10_in_2 (by omega) ?_
  refine zV_if_ltc (pc := 3) (tgt := 17) dX10_in_3 (by decide) (fun c_3 => ?_) (fun c_3 => ?_)
  · refine zV_iconst (pc := 17) dX10_in_17 ?_
    refine zV_iret (pc := 18) dX10_in_18 (by first | exact zok_b1 | exact zok_b0 | exact zok_b) ⟨Nat.zero_le _, Nat.zero_le _⟩ ?_
    first
      | (exfalso; omega)
      | exact zPt (by omega)
      | exact zPf (by omega)
  · refine zV_lload_n (pc := 6) (i := 0) dX10_in_6 rfl rfl ?_
    refine zV_lload (pc := 7) dX10_in_7 rfl ?_
    refine zV_lcmp (pc := 9) dX10_in_9 (by omega) ?_
    refine zV_if_gtc (pc := 10) (tgt := 17) dX10_in_10 (by decide) (fun c_10 => ?_) (fun c_10 => ?_)
    · refine zV_iconst (pc := 17) dX10_in_17 ?_
      refine zV_iret (pc := 18) dX10_in_18 (by first | exact zok_b1 | exact zok_b0 | exact zok_b) ⟨Nat.zero_le _, Nat.zero_le _⟩ ?_
      first
        | (exfalso; omega)
        | exact zPt (by omega)
        | exact zPf (by omega)
    · refine zV_iconst (pc := 13) dX10_in_13 ?_
      refine zV_goto (pc := 14) (tgt := 18) dX10_in_14 (by decide) ?_
      refine zV_iret (pc := 18) dX10_in_18 (by first | exact zok_b1 | exact zok_b0 | exact zok_b) ⟨Nat.zero_le _, Nat.zero_le _⟩ ?_
      first
        | (exfalso; omega)
        | exact zPt (by omega)
        | exact zPf (by omega)
set_option maxRecDepth 20000 in
set_option maxHeartbeats 2000000 in
theorem kX10_within {v : Int} (hv : -2147483648 ≤ v ∧ v ≤ 2147483647) : zK g yX10_within xX10_within [zi v, zi 0, zi 99] N M (zPp (zi (zc99 v)) N M) := by
  refine zK_of (ls0 := [zi v, zi 0, zi 99]) (by decide) rfl (by decide) rfl (Nat.le_of_ble_eq_true rfl) ?_
  refine zV_iload_n (pc := 0) (i := 0) dX10_within_0 rfl rfl ?_
  refine zV_iload_n (pc := 1) (i := 1) dX10_within_1 rfl rfl ?_
  refine zV_icmp_ge (pc := 2) (tgt := 9) dX10_within_2 (by decide) (by omega) (fun c_2 => ?_) (fun c_2 => ?_)
  · refine zV_iload_n (pc := 9) (i := 0) dX10_within_9 rfl rfl ?_
    refine zV_iload_n (pc := 10) (i := 2) dX10_within_10 rfl rfl ?_
    refine zV_icmp_le (pc := 11) (tgt := 18) dX10_within_11 (by decide) (by omega) (fun c_11 => ?_) (fun c_11 => ?_)
    · refine zV_iload_n (pc := 18) (i := 0) dX10_within_18 rfl rfl ?_
      refine zV_iret (pc := 19) dX10_within_19 trivial ⟨Nat.zero_le _, Nat.zero_le _⟩ ?_
      exact zPe (by unfold zc99; omega)
    · refine zV_iload_n (pc := 14) (i := 2) dX10_within_14 rfl rfl ?_
      refine zV_goto (pc := 15) (tgt := 19) dX10_within_15 (by decide) ?_
      refine zV_iret (pc := 19) dX10_within_19 trivial ⟨Nat.zero_le _, Nat.zero_le _⟩ ?_
      exact zPe (by unfold zc99; omega)
  · refine zV_iload_n (pc := 5) (i := 1) dX10_within_5 rfl rfl ?_
    refine zV_goto (pc := 6) (tgt := 19) dX10_within_6 (by decide) ?_
    refine zV_iret (pc := 19) dX10_within_19 trivial ⟨Nat.zero_le _, Nat.zero_le _⟩ ?_
    exact zPe (by unfold zc99; omega)
set_option maxRecDepth 20000 in
set_option maxHeartbeats 2000000 in
theorem kX10_isDay {v : Int} (hv : -2147483648 ≤ v ∧ v ≤ 2147483647) : zK g yX10_isDay xX10_isDay [zi v] N M (zPp (zi (zb (0 ≤ v ∧ v ≤ 399))) N M) := by
  refine zK_of (ls0 := [zi v]) (by decide) rfl (by decide) rfl (Nat.le_of_ble_eq_true rfl) ?_
  refine zV_iload_n (pc := 0) (i := 0) dX10_isDay_0 rfl rfl ?_
  refine zV_i2l (pc := 1) dX10_isDay_1 (by omega) ?_
  refine zV_lconst0 (pc := 2) dX10_isDay_2 ?_
  refine zV_ldc2 (pc := 3) dX10_isDay_3 kiX10_80 ?_
  refine zV_isp (pc := 6) dX10_isDay_6 klX10_76 mX10_in rfl ⟨Nat.zero_le _, Nat.zero_le _⟩ (kX10_in (by omega) (by omega) (by omega)) rfl rfl (Nat.le_of_ble_eq_true rfl) ?_
  refine zV_iret (pc := 9) dX10_isDay_9 (by first | exact zok_b1 | exact zok_b0 | exact zok_b) ⟨Nat.zero_le _, Nat.zero_le _⟩ ?_
  exact zPe rfl
set_option maxRecDepth 20000 in
set_option maxHeartbeats 2000000 in
theorem kX10_isSheet {v : Int} (hv : -2147483648 ≤ v ∧ v ≤ 2147483647) : zK g yX10_isSheet xX10_isSheet [zi v] N M (zPp (zi (zb (0 ≤ v ∧ v ≤ 3))) N M) := by
  refine zK_of (ls0 := [zi v]) (by decide) rfl (by decide) rfl (Nat.le_of_ble_eq_true rfl) ?_
  refine zV_iload_n (pc := 0) (i := 0) dX10_isSheet_0 rfl rfl ?_
  refine zV_i2l (pc := 1) dX10_isSheet_1 (by omega) ?_
  refine zV_lconst0 (pc := 2) dX10_isSheet_2 ?_
  refine zV_ldc2 (pc := 3) dX10_isSheet_3 kiX10_82 ?_
  refine zV_isp (pc := 6) dX10_isSheet_6 klX10_76 mX10_in rfl ⟨Nat.zero_le _, Nat.zero_le _⟩ (kX10_in (by omega) (by omega) (by omega)) rfl rfl (Nat.le_of_ble_eq_true rfl) ?_
  refine zV_iret (pc := 9) dX10_isSheet_9 (by first | exact zok_b1 | exact zok_b0 | exact zok_b) ⟨Nat.zero_le _, Nat.zero_le _⟩ ?_
  exact zPe rfl
set_option maxRecDepth 20000 in
set_option maxHeartbeats 2000000 in
theorem kX10_isThing (hn : 0 ≤ M 58 12 ∧ M 58 12 ≤ 6) {i : Int} (hi : -2147483648 ≤ i ∧ i ≤ 2147483647) : zK g yX10_isThing xX10_isThing [zr 58, zi i] 75 M (zPp (zi (zb (0 ≤ i ∧ i < M 58 12))) 75 M) := by
  refine zK_of (ls0 := [zr 58, zi i]) (by decide) rfl (by decide) rfl (Nat.le_of_ble_eq_true rfl) ?_
  refine zV_iload_n (pc := 0) (i := 1) dX10_isThing_0 rfl rfl ?_
  refine zV_i2l (pc := 1) dX10_isThing_1 (by omega) ?_
  refine zV_lconst0 (pc := 2) dX10_isThing_2 ?_
  refine zV_aload_n (pc := 3) (i := 0) dX10_isThing_3 rfl rfl ?_
  refine zV_get (pc := 4) (j := 12) dX10_isThing_4 flX10_73 (zOb_of rfl) rfl rfl ?_
  refine zV_iconst (pc := 7) dX10_isThing_7 ?_
  refine zV_isub (pc := 8) dX10_isThing_8 ?_
  refine zV_i2l (pc := 9) dX10_isThing_9 (by omega) ?_
  refine zV_isp (pc := 10) dX10_isThing_10 klX10_76 mX10_in rfl ⟨Nat.zero_le _, Nat.zero_le _⟩ (kX10_in (by omega) (by omega) (by omega)) rfl rfl (Nat.le_of_ble_eq_true rfl) ?_
  refine zV_iret (pc := 13) dX10_isThing_13 (by first | exact zok_b1 | exact zok_b0 | exact zok_b) ⟨Nat.zero_le _, Nat.zero_le _⟩ ?_
  exact zPc (by omega)
set_option maxRecDepth 20000 in
set_option maxHeartbeats 2000000 in
theorem kX10_allThings (hn : 0 ≤ M 58 12 ∧ M 58 12 ≤ 6) : zK g yX10_allThings xX10_allThings [zr 58] 75 M (zPp (zi (2 ^ (M 58 12).toNat - 1)) 75 M) := by
  refine zK_of (ls0 := [zr 58]) (by decide) rfl (by decide) rfl (Nat.le_of_ble_eq_true rfl) ?_
  refine zV_iconst (pc := 0) dX10_allThings_0 ?_
  refine zV_aload_n (pc := 1) (i := 0) dX10_allThings_1 rfl rfl ?_
  refine zV_get (pc := 2) (j := 12) dX10_allThings_2 flX10_73 (zOb_of rfl) rfl rfl ?_
  refine zV_ishl (pc := 5) dX10_allThings_5 (z_shl (n := (M 58 12).toNat) (by omega) (by omega)) ?_
  refine zV_iconst (pc := 6) dX10_allThings_6 ?_
  refine zV_isub (pc := 7) dX10_allThings_7 ?_
  refine zV_iret (pc := 8) dX10_allThings_8 trivial ⟨Nat.zero_le _, Nat.zero_le _⟩ ?_
  exact zPe rfl
set_option maxRecDepth 20000 in
set_option maxHeartbeats 2000000 in
theorem kX10_boL {s : Int} {v : Int} : ∀ (k : Nat) (x : Nat) (c : Int), zpc (x : Int) = k → x < 64 → c + zpc (x : Int) = zpc s → zV g xX10_bitsOf (zPp (zi (zpc s)) N M) 4 [zi v, zi c, zi (x : Int)] [] N M 0 0 := by
  intro k
  induction k with
  | zero =>
    intro x c h0 h1 h2
    refine zV_iload_n (pc := 4) (i := 2) dX10_bitsOf_4 rfl rfl ?_
    refine zV_if_eq (pc := 5) (tgt := 20) dX10_bitsOf_5 (by decide) (by omega) (fun c_5 => ?_) (fun c_5 => ?_)
    · refine zV_iload_n (pc := 20) (i := 1) dX10_bitsOf_20 rfl rfl ?_
      refine zV_iret (pc := 21) dX10_bitsOf_21 trivial ⟨Nat.zero_le _, Nat.zero_le _⟩ ?_
      exact zPe (by omega)
    · exfalso
      have := zpc_0 x h1 (by omega)
      omega
  | succ k ih =>
    intro x c h0 h1 h2
    refine zV_iload_n (pc := 4) (i := 2) dX10_bitsOf_4 rfl rfl ?_
    refine zV_if_eq (pc := 5) (tgt := 20) dX10_bitsOf_5 (by decide) (by omega) (fun c_5 => ?_) (fun c_5 => ?_)
    · refine zV_iload_n (pc := 20) (i := 1) dX10_bitsOf_20 rfl rfl ?_
      refine zV_iret (pc := 21) dX10_bitsOf_21 trivial ⟨Nat.zero_le _, Nat.zero_le _⟩ ?_
      exfalso
      have e0 : x = 0 := by omega
      subst e0
      have : zpc ((0 : Nat) : Int) = 0 := by decide
      omega
    · have hq := zb64 x h1 (by omega)
      refine zV_iinc (pc := 8) dX10_bitsOf_8 rfl rfl ?_
      try dsimp only [List.set_cons_succ, List.set_cons_zero]
      refine zV_iload_n (pc := 11) (i := 2) dX10_bitsOf_11 rfl rfl ?_
      refine zV_iload_n (pc := 12) (i := 2) dX10_bitsOf_12 rfl rfl ?_
      refine zV_iconst (pc := 13) dX10_bitsOf_13 ?_
      refine zV_isub (pc := 14) dX10_bitsOf_14 ?_
      refine zV_iand (pc := 15) dX10_bitsOf_15 (zand64 (by omega)) ?_
      refine zV_istore_n (pc := 16) (i := 2) dX10_bitsOf_16 rfl rfl ?_
      try dsimp only [List.set_cons_succ, List.set_cons_zero]
      refine zV_goto (pc := 17) (tgt := 4) dX10_bitsOf_17 (by decide) ?_
      exact ih _ _ (by omega) hq.2 (by omega)
set_option maxRecDepth 20000 in
set_option maxHeartbeats 2000000 in
theorem kX10_bitsOf {s : Int} (hs : 0 ≤ s ∧ s < 64) : zK g yX10_bitsOf xX10_bitsOf [zi s] N M (zPp (zi (zpc s)) N M) := by
  refine zK_of (ls0 := [zi s, (3, 0), (3, 0)]) (by decide) rfl (by decide) rfl (Nat.le_of_ble_eq_true rfl) ?_
  refine zV_iconst (pc := 0) dX10_bitsOf_0 ?_
  refine zV_istore_n (pc := 1) (i := 1) dX10_bitsOf_1 rfl rfl ?_
  try dsimp only [List.set_cons_succ, List.set_cons_zero]
  refine zV_iload_n (pc := 2) (i := 0) dX10_bitsOf_2 rfl rfl ?_
  refine zV_istore_n (pc := 3) (i := 2) dX10_bitsOf_3 rfl rfl ?_
  try dsimp only [List.set_cons_succ, List.set_cons_zero]
  have e : s = ((s.toNat : Nat) : Int) := by omega
  have hb := zpc_b s.toNat (by omega)
  rw [← e] at hb
  have := kX10_boL (g := g) (N := N) (M := M) (s := s) (v := s) (zpc s).toNat s.toNat 0 (by rw [← e]; omega) (by omega) (by rw [← e]; omega)
  rw [← e] at this
  exact this
set_option maxRecDepth 20000 in
set_option maxHeartbeats 2000000 in
theorem kX10_isRound (hS : zSt M) {t : Int} (ht : 0 ≤ t ∧ t < 6) (hk : 0 ≤ M 62 t ∧ M 62 t ≤ 5) (hm : 0 ≤ M 63 t ∧ M 63 t ≤ 9) (hp : 1 ≤ M 64 t ∧ M 64 t ≤ 60) (hb : 0 ≤ M 65 t ∧ M 65 t ≤ 59) {d : Int} (hd : -100 ≤ d ∧ d ≤ 1000) : zK g yX10_isRound xX10_isRound [zr 58, zi t, zi d] 75 M (zPp (zi (zb (zrd (M 64 t) (M 65 t) d))) 75 M) := by
  refine zK_of (ls0 := [zr 58, zi t, zi d]) (by decide) rfl (by decide) rfl (Nat.le_of_ble_eq_true rfl) ?_
  refine zV_iload_n (pc := 0) (i := 2) dX10_isRound_0 rfl rfl ?_
  refine zV_aload_n (pc := 1) (i := 0) dX10_isRound_1 rfl rfl ?_
  refine zV_get (pc := 2) (j := 11) dX10_isRound_2 flX10_32 (zOb_of rfl) rfl hS.e58_11 ?_
  refine zV_iload_n (pc := 5) (i := 1) dX10_isRound_5 rfl rfl ?_
  refine zV_iald (pc := 6) dX10_isRound_6 (zAr_of rfl : zAr 75 65 0 6) (by omega) rfl ?_
  refine zV_icmp_lt (pc := 7) (tgt := 32) dX10_isRound_7 (by decide) (by omega) (fun c_7 => ?_) (fun c_7 => ?_)
  · refine zV_iconst (pc := 32) dX10_isRound_32 ?_
    refine zV_iret (pc := 33) dX10_isRound_33 (by first | exact zok_b1 | exact zok_b0 | exact zok_b) ⟨Nat.zero_le _, Nat.zero_le _⟩ ?_
    first
      | exact zPt ⟨by omega, c_25⟩
      | exact zPf (fun q => c_25 q.2)
      | exact zPf (fun q => by have := q.1; omega)
  · refine zV_iload_n (pc := 10) (i := 2) dX10_isRound_10 rfl rfl ?_
    refine zV_aload_n (pc := 11) (i := 0) dX10_isRound_11 rfl rfl ?_
    refine zV_get (pc := 12) (j := 11) dX10_isRound_12 flX10_32 (zOb_of rfl) rfl hS.e58_11 ?_
    refine zV_iload_n (pc := 15) (i := 1) dX10_isRound_15 rfl rfl ?_
    refine zV_iald (pc := 16) dX10_isRound_16 (zAr_of rfl : zAr 75 65 0 6) (by omega) rfl ?_
    refine zV_isub (pc := 17) dX10_isRound_17 ?_
    refine zV_aload_n (pc := 18) (i := 0) dX10_isRound_18 rfl rfl ?_
    refine zV_get (pc := 19) (j := 10) dX10_isRound_19 flX10_29 (zOb_of rfl) rfl hS.e58_10 ?_
    refine zV_iload_n (pc := 22) (i := 1) dX10_isRound_22 rfl rfl ?_
    refine zV_iald (pc := 23) dX10_isRound_23 (zAr_of rfl : zAr 75 64 0 6) (by omega) rfl ?_
    have er := zrd_r (d := d) (b := M 65 t) (p := M 64 t) (by omega) (by omega)
    refine zV_iremN (pc := 24) dX10_isRound_24 (by omega) (by omega) ?_
    refine zV_if_ne (pc := 25) (tgt := 32) dX10_isRound_25 (by decide) (by omega) (fun c_25 => ?_) (fun c_25 => ?_)
    · refine zV_iconst (pc := 32) dX10_isRound_32 ?_
      refine zV_iret (pc := 33) dX10_isRound_33 (by first | exact zok_b1 | exact zok_b0 | exact zok_b) ⟨Nat.zero_le _, Nat.zero_le _⟩ ?_
      first
        | exact zPt ⟨by omega, c_25⟩
        | exact zPf (fun q => c_25 q.2)
        | exact zPf (fun q => by have := q.1; omega)
    · refine zV_iconst (pc := 28) dX10_isRound_28 ?_
      refine zV_goto (pc := 29) (tgt := 33) dX10_isRound_29 (by decide) ?_
      refine zV_iret (pc := 33) dX10_isRound_33 (by first | exact zok_b1 | exact zok_b0 | exact zok_b) ⟨Nat.zero_le _, Nat.zero_le _⟩ ?_
      first
        | exact zPt ⟨by omega, c_25⟩
        | exact zPf (fun q => c_25 q.2)
        | exact zPf (fun q => by have := q.1; omega)
set_option maxRecDepth 20000 in
set_option maxHeartbeats 2000000 in
theorem kX10_isHoliday (hS : zSt M) (hh : 0 ≤ M 58 7 ∧ M 58 7 ≤ 127) {d : Int} (hd : -100 ≤ d ∧ d ≤ 1000) : zK g yX10_isHoliday xX10_isHoliday [zr 58, zi d] 75 M (zPp (zi (zb (zhd (M 58 7) d))) 75 M) := by
  refine zK_of (ls0 := [zr 58, zi d]) (by decide) rfl (by decide) rfl (Nat.le_of_ble_eq_true rfl) ?_
  refine zV_iload_n (pc := 0) (i := 1) dX10_isHoliday_0 rfl rfl ?_
  refine zV_if_lt (pc := 1) (tgt := 23) dX10_isHoliday_1 (by decide) (by omega) (fun c_1 => ?_) (fun c_1 => ?_)
  · refine zV_iconst (pc := 23) dX10_isHoliday_23 ?_
    refine zV_iret (pc := 24) dX10_isHoliday_24 (by first | exact zok_b1 | exact zok_b0 | exact zok_b) ⟨Nat.zero_le _, Nat.zero_le _⟩ ?_
    first
      | exact zPf (fun q => by have := q.1; omega)
      | exact zPt ⟨by omega, c_16⟩
      | exact zPf (fun q => c_16 q.2)
  · refine zV_aload_n (pc := 4) (i := 0) dX10_isHoliday_4 rfl rfl ?_
    refine zV_get (pc := 5) (j := 7) dX10_isHoliday_5 flX10_96 (zOb_of rfl) rfl rfl ?_
    refine zV_iload_n (pc := 8) (i := 1) dX10_isHoliday_8 rfl rfl ?_
    refine zV_bipush (pc := 9) dX10_isHoliday_9 (by decide) ?_
    refine zV_iremN (pc := 11) dX10_isHoliday_11 (by omega) (by omega) ?_
    have h0 : 0 ≤ M 58 7 / 2 ^ (d % 7).toNat := Int.ediv_nonneg hh.1 (Int.le_of_lt (Int.pow_pos (by decide)))
    refine zV_ishr (pc := 12) dX10_isHoliday_12 (z_shr (by omega) (by omega) rfl) ?_
    refine zV_iconst (pc := 13) dX10_isHoliday_13 ?_
    refine zV_iand (pc := 14) dX10_isHoliday_14 (z_and1 h0) ?_
    refine zV_iconst (pc := 15) dX10_isHoliday_15 ?_
    refine zV_icmp_ne (pc := 16) (tgt := 23) dX10_isHoliday_16 (by decide) (by omega) (fun c_16 => ?_) (fun c_16 => ?_)
    · refine zV_iconst (pc := 23) dX10_isHoliday_23 ?_
      refine zV_iret (pc := 24) dX10_isHoliday_24 (by first | exact zok_b1 | exact zok_b0 | exact zok_b) ⟨Nat.zero_le _, Nat.zero_le _⟩ ?_
      first
        | exact zPf (fun q => by have := q.1; omega)
        | exact zPt ⟨by omega, c_16⟩
        | exact zPf (fun q => c_16 q.2)
    · refine zV_iconst (pc := 19) dX10_isHoliday_19 ?_
      refine zV_goto (pc := 20) (tgt := 24) dX10_isHoliday_20 (by decide) ?_
      refine zV_iret (pc := 24) dX10_isHoliday_24 (by first | exact zok_b1 | exact zok_b0 | exact zok_b) ⟨Nat.zero_le _, Nat.zero_le _⟩ ?_
      first
        | exact zPf (fun q => by have := q.1; omega)
        | exact zPt ⟨by omega, c_16⟩
        | exact zPf (fun q => c_16 q.2)
set_option maxRecDepth 20000 in
set_option maxHeartbeats 2000000 in
theorem kX10_laL (hS : zSt M) {t : Int} (ht : 0 ≤ t ∧ t < 6) (hk : 0 ≤ M 62 t ∧ M 62 t ≤ 5) (hm : 0 ≤ M 63 t ∧ M 63 t ≤ 9) (hp : 1 ≤ M 64 t ∧ M 64 t ≤ 60) (hb : 0 ≤ M 65 t ∧ M 65 t ≤ 59) {d : Int} (hd : 0 ≤ d ∧ d ≤ 901) : ∀ (k : Nat) (i : Int), i + k = M 63 t + 1 → 0 ≤ i → (∀ j : Int, 0 ≤ j → j < i → ¬ zrd (M 64 t) (M 65 t) (d - j)) → zV g xX10_lasts (zPp (zi (zb (zls (M 63 t) (M 64 t) (M 65 t) d))) 75 M) 2 [zr 58, zi t, zi d, zi i] [] 75 M 0 0 := by
  intro k
  induction k with
  | zero =>
    intro i h0 h1 h2
    refine zV_iload_n (pc := 2) (i := 3) dX10_lasts_2 rfl rfl ?_
    refine zV_aload_n (pc := 3) (i := 0) dX10_lasts_3 rfl rfl ?_
    refine zV_get (pc := 4) (j := 9) dX10_lasts_4 flX10_26 (zOb_of rfl) rfl hS.e58_9 ?_
    refine zV_iload_n (pc := 7) (i := 1) dX10_lasts_7 rfl rfl ?_
    refine zV_iald (pc := 8) dX10_lasts_8 (zAr_of rfl : zAr 75 63 0 6) (by omega) rfl ?_
    refine zV_icmp_gt (pc := 9) (tgt := 31) dX10_lasts_9 (by decide) (by omega) (fun c_9 => ?_) (fun c_9 => absurd (by omega) c_9)
    refine zV_iconst (pc := 31) dX10_lasts_31 ?_
    refine zV_iret (pc := 32) dX10_lasts_32 (by first | exact zok_b1 | exact zok_b0 | exact zok_b) ⟨Nat.zero_le _, Nat.zero_le _⟩ ?_
    exact zPf (fun q => by obtain ⟨j, j0, j1⟩ := (zls_e hm.1 hp.1).mpr q; exact h2 j j0.1 (by omega) j1)
  | succ k ih =>
    intro i h0 h1 h2
    refine zV_iload_n (pc := 2) (i := 3) dX10_lasts_2 rfl rfl ?_
    refine zV_aload_n (pc := 3) (i := 0) dX10_lasts_3 rfl rfl ?_
    refine zV_get (pc := 4) (j := 9) dX10_lasts_4 flX10_26 (zOb_of rfl) rfl hS.e58_9 ?_
    refine zV_iload_n (pc := 7) (i := 1) dX10_lasts_7 rfl rfl ?_
    refine zV_iald (pc := 8) dX10_lasts_8 (zAr_of rfl : zAr 75 63 0 6) (by omega) rfl ?_
    refine zV_icmp_gt (pc := 9) (tgt := 31) dX10_lasts_9 (by decide) (by omega) (fun c_9 => absurd c_9 (by omega)) (fun c_9 => ?_)
    refine zV_aload_n (pc := 12) (i := 0) dX10_lasts_12 rfl rfl ?_
    refine zV_iload_n (pc := 13) (i := 1) dX10_lasts_13 rfl rfl ?_
    refine zV_iload_n (pc := 14) (i := 2) dX10_lasts_14 rfl rfl ?_
    refine zV_iload_n (pc := 15) (i := 3) dX10_lasts_15 rfl rfl ?_
    refine zV_isub (pc := 16) dX10_lasts_16 ?_
    refine zV_ivp (pc := 17) (ci := 10) dX10_lasts_17 klX10_109 mX10_isRound ⟨by decide, rfl⟩ rfl ⟨Nat.zero_le _, Nat.zero_le _⟩ (kX10_isRound hS ht hk hm hp hb (by omega)) (zOb_of rfl) rfl rfl (Nat.le_of_ble_eq_true rfl) ?_
    refine zV_if_eqb (pc := 20) (tgt := 25) dX10_lasts_20 (by decide) (fun c_20 => ?_) (fun c_20 => ?_)
    · refine zV_iinc (pc := 25) dX10_lasts_25 rfl rfl ?_
      try dsimp only [List.set_cons_succ, List.set_cons_zero]
      refine zV_goto (pc := 28) (tgt := 2) dX10_lasts_28 (by decide) ?_
      refine ih (i + 1) (by omega) (by omega) (fun j j0 j1 => ?_)
      by_cases e : j = i
      · rw [e]; exact c_20
      · exact h2 j j0 (by omega)
    · refine zV_iconst (pc := 23) dX10_lasts_23 ?_
      refine zV_iret (pc := 24) dX10_lasts_24 (by first | exact zok_b1 | exact zok_b0 | exact zok_b) ⟨Nat.zero_le _, Nat.zero_le _⟩ ?_
      exact zPt ((zls_e hm.1 hp.1).mp ⟨i, ⟨h1, by omega⟩, c_20⟩)
set_option maxRecDepth 20000 in
set_option maxHeartbeats 2000000 in
theorem kX10_lasts (hS : zSt M) {t : Int} (ht : 0 ≤ t ∧ t < 6) (hk : 0 ≤ M 62 t ∧ M 62 t ≤ 5) (hm : 0 ≤ M 63 t ∧ M 63 t ≤ 9) (hp : 1 ≤ M 64 t ∧ M 64 t ≤ 60) (hb : 0 ≤ M 65 t ∧ M 65 t ≤ 59) {d : Int} (hd : 0 ≤ d ∧ d ≤ 901) : zK g yX10_lasts xX10_lasts [zr 58, zi t, zi d] 75 M (zPp (zi (zb (zls (M 63 t) (M 64 t) (M 65 t) d))) 75 M) := by
  refine zK_of (ls0 := [zr 58, zi t, zi d, (3, 0)]) (by decide) rfl (by decide) rfl (Nat.le_of_ble_eq_true rfl) ?_
  refine zV_iconst (pc := 0) dX10_lasts_0 ?_
  refine zV_istore_n (pc := 1) (i := 3) dX10_lasts_1 rfl rfl ?_
  try dsimp only [List.set_cons_succ, List.set_cons_zero]
  exact kX10_laL hS ht hk hm hp hb hd (M 63 t + 1).toNat 0 (by omega) (by omega) (fun j j0 j1 => absurd j0 (by omega))
/-- put off to d, as far as i - 1 days back tell -/
def zpq (h p b d i : Int) : Prop := zrd p b d ∨ ∃ k : Int, 1 ≤ k ∧ k < i ∧ (∀ j : Int, 1 ≤ j → j ≤ k → zhd h (d - j)) ∧ zrd p b (d - k)
theorem zpq_e {h p b d i : Int} (c : ¬ zhd h d) (hi : 1 ≤ i ∧ i ≤ 7) (hx : i = 7 ∨ ¬ zhd h (d - i)) : zpq h p b d i ↔ zpo h p b d := by
  unfold zpq zpo
  constructor
  · rintro (a | ⟨k, k1, k2, k3, k4⟩)
    · exact ⟨c, Or.inl a⟩
    · exact ⟨c, Or.inr ⟨k, k1, by omega, k3, k4⟩⟩
  · rintro ⟨_, a | ⟨k, k1, k2, k3, k4⟩⟩
    · exact Or.inl a
    · refine Or.inr ⟨k, k1, ?_, k3, k4⟩
      rcases hx with e | e
      · omega
      · by_cases q : k < i
        · exact q
        · exact absurd (k3 i hi.1 (by omega)) e
theorem zpq_s {h p b d i : Int} (hi : 1 ≤ i) (hh : ∀ j : Int, 1 ≤ j → j ≤ i → zhd h (d - j)) : zpq h p b d (i + 1) ↔ (zpq h p b d i ∨ zrd p b (d - i)) := by
  unfold zpq
  constructor
  · rintro (a | ⟨k, k1, k2, k3, k4⟩)
    · exact Or.inl (Or.inl a)
    · by_cases e : k = i
      · subst e
        exact Or.inr k4
      · exact Or.inl (Or.inr ⟨k, k1, by omega, k3, k4⟩)
  · rintro ((a | ⟨k, k1, k2, k3, k4⟩) | a)
    · exact Or.inl a
    · exact Or.inr ⟨k, k1, by omega, k3, k4⟩
    · exact Or.inr ⟨i, hi, by omega, hh, a⟩
set_option maxRecDepth 20000 in
set_option maxHeartbeats 2000000 in
theorem kX10_poL (hS : zSt M) {t : Int} (ht : 0 ≤ t ∧ t < 6) (hk : 0 ≤ M 62 t ∧ M 62 t ≤ 5) (hm : 0 ≤ M 63 t ∧ M 63 t ≤ 9) (hp : 1 ≤ M 64 t ∧ M 64 t ≤ 60) (hb : 0 ≤ M 65 t ∧ M 65 t ≤ 59) (hh : 0 ≤ M 58 7 ∧ M 58 7 ≤ 127) {d : Int} (hd : 0 ≤ d ∧ d ≤ 901) (hO : ¬ zhd (M 58 7) d) : ∀ (k : Nat) (i v : Int), i + k = 7 → 1 ≤ i → v = zb (zpq (M 58 7) (M 64 t) (M 65 t) d i) → (∀ j : Int, 1 ≤ j → j < i → zhd (M 58 7) (d - j)) → zV g xX10_isPutOff (zPp (zi (zb (zpo (M 58 7) (M 64 t) (M 65 t) d))) 75 M) 20 [zr 58, zi t, zi d, zi v, zi i] [] 75 M 0 0 := by
  intro k
  induction k with
  | zero =>
    intro i v h0 h1 h2 h3
    subst h2
    refine zV_iload (pc := 20) dX10_isPutOff_20 rfl ?_
    refine zV_bipush (pc := 22) dX10_isPutOff_22 (by decide) ?_
    refine zV_icmp_gt (pc := 24) (tgt := 66) dX10_isPutOff_24 (by decide) (by omega) (fun c_24 => ?_) (fun c_24 => absurd (by omega) c_24)
    refine zV_iload_n (pc := 66) (i := 3) dX10_isPutOff_66 rfl rfl ?_
    refine zV_iret (pc := 67) dX10_isPutOff_67 (by first | exact zok_b1 | exact zok_b0 | exact zok_b) ⟨Nat.zero_le _, Nat.zero_le _⟩ ?_
    exact zPc (zpq_e hO (by omega) (Or.inl (by omega)))
  | succ k ih =>
    intro i v h0 h1 h2 h3
    subst h2
    refine zV_iload (pc := 20) dX10_isPutOff_20 rfl ?_
    refine zV_bipush (pc := 22) dX10_isPutOff_22 (by decide) ?_
    refine zV_icmp_gt (pc := 24) (tgt := 66) dX10_isPutOff_24 (by decide) (by omega) (fun c_24 => absurd c_24 (by omega)) (fun c_24 => ?_)
    refine zV_aload_n (pc := 27) (i := 0) dX10_isPutOff_27 rfl rfl ?_
    refine zV_iload_n (pc := 28) (i := 2) dX10_isPutOff_28 rfl rfl ?_
    refine zV_iload (pc := 29) dX10_isPutOff_29 rfl ?_
    refine zV_isub (pc := 31) dX10_isPutOff_31 ?_
    refine zV_ivp (pc := 32) (ci := 10) dX10_isPutOff_32 klX10_113 mX10_isHoliday ⟨by decide, rfl⟩ rfl ⟨Nat.zero_le _, Nat.zero_le _⟩ (kX10_isHoliday hS hh (by omega)) (zOb_of rfl) rfl rfl (Nat.le_of_ble_eq_true rfl) ?_
    refine zV_if_eqb (pc := 35) (tgt := 66) dX10_isPutOff_35 (by decide) (fun c_35 => ?_) (fun c_35 => ?_)
    · refine zV_iload_n (pc := 66) (i := 3) dX10_isPutOff_66 rfl rfl ?_
      refine zV_iret (pc := 67) dX10_isPutOff_67 (by first | exact zok_b1 | exact zok_b0 | exact zok_b) ⟨Nat.zero_le _, Nat.zero_le _⟩ ?_
      exact zPc (zpq_e hO (by omega) (Or.inr c_35))
    · refine zV_iload_n (pc := 38) (i := 3) dX10_isPutOff_38 rfl rfl ?_
      refine zV_if_neb (pc := 39) (tgt := 54) dX10_isPutOff_39 (by decide) (fun c_39 => ?_) (fun c_39 => ?_)
      · refine zV_iconst (pc := 54) dX10_isPutOff_54 ?_
        refine zV_goto (pc := 55) (tgt := 59) dX10_isPutOff_55 (by decide) ?_
        refine zV_istore_n (pc := 59) (i := 3) dX10_isPutOff_59 rfl rfl ?_
        try dsimp only [List.set_cons_succ, List.set_cons_zero]
        refine zV_iinc (pc := 60) dX10_isPutOff_60 rfl rfl ?_
        try dsimp only [List.set_cons_succ, List.set_cons_zero]
        refine zV_goto (pc := 63) (tgt := 20) dX10_isPutOff_63 (by decide) ?_
        have hh2 : ∀ j : Int, 1 ≤ j → j ≤ i → zhd (M 58 7) (d - j) := fun j j0 j1 => by
          by_cases e : j = i
          · rw [e]; exact c_35
          · exact h3 j j0 (by omega)
        refine ih (i + 1) _ (by omega) (by omega) ?_ (fun j j0 j1 => hh2 j j0 (by omega))
        have es := zpq_s (p := M 64 t) (b := M 65 t) h1 hh2
        first
          | exact (zb_t (es.mpr (Or.inl c_39))).symm
          | exact (zb_t (es.mpr (Or.inr c_51))).symm
          | exact (zb_f (fun q => (es.mp q).elim c_39 c_51)).symm
      · refine zV_aload_n (pc := 42) (i := 0) dX10_isPutOff_42 rfl rfl ?_
        refine zV_iload_n (pc := 43) (i := 1) dX10_isPutOff_43 rfl rfl ?_
        refine zV_iload_n (pc := 44) (i := 2) dX10_isPutOff_44 rfl rfl ?_
        refine zV_iload (pc := 45) dX10_isPutOff_45 rfl ?_
        refine zV_isub (pc := 47) dX10_isPutOff_47 ?_
        refine zV_ivp (pc := 48) (ci := 10) dX10_isPutOff_48 klX10_109 mX10_isRound ⟨by decide, rfl⟩ rfl ⟨Nat.zero_le _, Nat.zero_le _⟩ (kX10_isRound hS ht hk hm hp hb (by omega)) (zOb_of rfl) rfl rfl (Nat.le_of_ble_eq_true rfl) ?_
        refine zV_if_eqb (pc := 51) (tgt := 58) dX10_isPutOff_51 (by decide) (fun c_51 => ?_) (fun c_51 => ?_)
        · refine zV_iconst (pc := 58) dX10_isPutOff_58 ?_
          refine zV_istore_n (pc := 59) (i := 3) dX10_isPutOff_59 rfl rfl ?_
          try dsimp only [List.set_cons_succ, List.set_cons_zero]
          refine zV_iinc (pc := 60) dX10_isPutOff_60 rfl rfl ?_
          try dsimp only [List.set_cons_succ, List.set_cons_zero]
          refine zV_goto (pc := 63) (tgt := 20) dX10_isPutOff_63 (by decide) ?_
          have hh2 : ∀ j : Int, 1 ≤ j → j ≤ i → zhd (M 58 7) (d - j) := fun j j0 j1 => by
            by_cases e : j = i
            · rw [e]; exact c_35
            · exact h3 j j0 (by omega)
          refine ih (i + 1) _ (by omega) (by omega) ?_ (fun j j0 j1 => hh2 j j0 (by omega))
          have es := zpq_s (p := M 64 t) (b := M 65 t) h1 hh2
          first
            | exact (zb_t (es.mpr (Or.inl c_39))).symm
            | exact (zb_t (es.mpr (Or.inr c_51))).symm
            | exact (zb_f (fun q => (es.mp q).elim c_39 c_51)).symm
        · refine zV_iconst (pc := 54) dX10_isPutOff_54 ?_
          refine zV_goto (pc := 55) (tgt := 59) dX10_isPutOff_55 (by decide) ?_
          refine zV_istore_n (pc := 59) (i := 3) dX10_isPutOff_59 rfl rfl ?_
          try dsimp only [List.set_cons_succ, List.set_cons_zero]
          refine zV_iinc (pc := 60) dX10_isPutOff_60 rfl rfl ?_
          try dsimp only [List.set_cons_succ, List.set_cons_zero]
          refine zV_goto (pc := 63) (tgt := 20) dX10_isPutOff_63 (by decide) ?_
          have hh2 : ∀ j : Int, 1 ≤ j → j ≤ i → zhd (M 58 7) (d - j) := fun j j0 j1 => by
            by_cases e : j = i
            · rw [e]; exact c_35
            · exact h3 j j0 (by omega)
          refine ih (i + 1) _ (by omega) (by omega) ?_ (fun j j0 j1 => hh2 j j0 (by omega))
          have es := zpq_s (p := M 64 t) (b := M 65 t) h1 hh2
          first
            | exact (zb_t (es.mpr (Or.inl c_39))).symm
            | exact (zb_t (es.mpr (Or.inr c_51))).symm
            | exact (zb_f (fun q => (es.mp q).elim c_39 c_51)).symm
set_option maxRecDepth 20000 in
set_option maxHeartbeats 2000000 in
theorem kX10_isPutOff (hS : zSt M) {t : Int} (ht : 0 ≤ t ∧ t < 6) (hk : 0 ≤ M 62 t ∧ M 62 t ≤ 5) (hm : 0 ≤ M 63 t ∧ M 63 t ≤ 9) (hp : 1 ≤ M 64 t ∧ M 64 t ≤ 60) (hb : 0 ≤ M 65 t ∧ M 65 t ≤ 59) (hh : 0 ≤ M 58 7 ∧ M 58 7 ≤ 127) {d : Int} (hd : 0 ≤ d ∧ d ≤ 901) : zK g yX10_isPutOff xX10_isPutOff [zr 58, zi t, zi d] 75 M (zPp (zi (zb (zpo (M 58 7) (M 64 t) (M 65 t) d))) 75 M) := by
  refine zK_of (ls0 := [zr 58, zi t, zi d, (3, 0), (3, 0)]) (by decide) rfl (by decide) rfl (Nat.le_of_ble_eq_true rfl) ?_
  refine zV_aload_n (pc := 0) (i := 0) dX10_isPutOff_0 rfl rfl ?_
  refine zV_iload_n (pc := 1) (i := 2) dX10_isPutOff_1 rfl rfl ?_
  refine zV_ivp (pc := 2) (ci := 10) dX10_isPutOff_2 klX10_113 mX10_isHoliday ⟨by decide, rfl⟩ rfl ⟨Nat.zero_le _, Nat.zero_le _⟩ (kX10_isHoliday hS hh (by omega)) (zOb_of rfl) rfl rfl (Nat.le_of_ble_eq_true rfl) ?_
  refine zV_if_eqb (pc := 5) (tgt := 10) dX10_isPutOff_5 (by decide) (fun c_5 => ?_) (fun c_5 => ?_)
  · refine zV_aload_n (pc := 10) (i := 0) dX10_isPutOff_10 rfl rfl ?_
    refine zV_iload_n (pc := 11) (i := 1) dX10_isPutOff_11 rfl rfl ?_
    refine zV_iload_n (pc := 12) (i := 2) dX10_isPutOff_12 rfl rfl ?_
    refine zV_ivp (pc := 13) (ci := 10) dX10_isPutOff_13 klX10_109 mX10_isRound ⟨by decide, rfl⟩ rfl ⟨Nat.zero_le _, Nat.zero_le _⟩ (kX10_isRound hS ht hk hm hp hb (by omega)) (zOb_of rfl) rfl rfl (Nat.le_of_ble_eq_true rfl) ?_
    refine zV_istore_n (pc := 16) (i := 3) dX10_isPutOff_16 rfl rfl ?_
    try dsimp only [List.set_cons_succ, List.set_cons_zero]
    refine zV_iconst (pc := 17) dX10_isPutOff_17 ?_
    refine zV_istore (pc := 18) dX10_isPutOff_18 rfl ?_
    try dsimp only [List.set_cons_succ, List.set_cons_zero]
    exact kX10_poL hS ht hk hm hp hb hh hd c_5 6 1 _ (by omega) (by omega) (zb_c ⟨fun q => Or.inl q, fun q => q.elim id (fun ⟨k, k1, k2, _⟩ => absurd k1 (by omega))⟩) (fun j j0 j1 => absurd j0 (by omega))
  · refine zV_iconst (pc := 8) dX10_isPutOff_8 ?_
    refine zV_iret (pc := 9) dX10_isPutOff_9 (by first | exact zok_b1 | exact zok_b0 | exact zok_b) ⟨Nat.zero_le _, Nat.zero_le _⟩ ?_
    exact zPf (fun q => q.1 c_5)
theorem zct_k {T : Int → Int → Int} {h d i k : Int} (e : T i 0 = k) : zct T h d i ↔ zcm k (T i 1) (T i 2) (T i 3) h d := by unfold zct; rw [e]
set_option maxRecDepth 20000 in
set_option maxHeartbeats 2000000 in
theorem kX10_comes (hS : zSt M) {t : Int} (ht : 0 ≤ t ∧ t < 6) (hk : 0 ≤ M 62 t ∧ M 62 t ≤ 5) (hm : 0 ≤ M 63 t ∧ M 63 t ≤ 9) (hp : 1 ≤ M 64 t ∧ M 64 t ≤ 60) (hb : 0 ≤ M 65 t ∧ M 65 t ≤ 59) (hh : 0 ≤ M 58 7 ∧ M 58 7 ≤ 127) {d : Int} (hd : 0 ≤ d ∧ d ≤ 900) : zK g yX10_comes xX10_comes [zr 58, zi t, zi d] 75 M (zPp (zi (zb (zct (zTm M) (M 58 7) d t))) 75 M) := by
  refine zK_of (ls0 := [zr 58, zi t, zi d, (3, 0)]) (by decide) rfl (by decide) rfl (Nat.le_of_ble_eq_true rfl) ?_
  refine zV_aload_n (pc := 0) (i := 0) dX10_comes_0 rfl rfl ?_
  refine zV_get (pc := 1) (j := 8) dX10_comes_1 flX10_23 (zOb_of rfl) rfl hS.e58_8 ?_
  refine zV_iload_n (pc := 4) (i := 1) dX10_comes_4 rfl rfl ?_
  refine zV_iald (pc := 5) dX10_comes_5 (zAr_of rfl : zAr 75 62 0 6) (by omega) rfl ?_
  refine zV_istore_n (pc := 6) (i := 3) dX10_comes_6 rfl rfl ?_
  try dsimp only [List.set_cons_succ, List.set_cons_zero]
  refine zV_iload_n (pc := 7) (i := 3) dX10_comes_7 rfl rfl ?_
  refine zV_iconst (pc := 8) dX10_comes_8 ?_
  refine zV_icmp_ne (pc := 9) (tgt := 19) dX10_comes_9 (by decide) (by omega) (fun c_9 => ?_) (fun c_9 => ?_)
  · refine zV_iload_n (pc := 19) (i := 3) dX10_comes_19 rfl rfl ?_
    refine zV_iconst (pc := 20) dX10_comes_20 ?_
    refine zV_icmp_eq (pc := 21) (tgt := 29) dX10_comes_21 (by decide) (by omega) (fun c_21 => ?_) (fun c_21 => ?_)
    · refine zV_aload_n (pc := 29) (i := 0) dX10_comes_29 rfl rfl ?_
      refine zV_iload_n (pc := 30) (i := 1) dX10_comes_30 rfl rfl ?_
      refine zV_iload_n (pc := 31) (i := 2) dX10_comes_31 rfl rfl ?_
      refine zV_ivp (pc := 32) (ci := 10) dX10_comes_32 klX10_119 mX10_lasts ⟨by decide, rfl⟩ rfl ⟨Nat.zero_le _, Nat.zero_le _⟩ (kX10_lasts hS ht hk hm hp hb (by omega)) (zOb_of rfl) rfl rfl (Nat.le_of_ble_eq_true rfl) ?_
      refine zV_if_neb (pc := 35) (tgt := 54) dX10_comes_35 (by decide) (fun c_35 => ?_) (fun c_35 => ?_)
      · refine zV_iconst (pc := 54) dX10_comes_54 ?_
        refine zV_goto (pc := 55) (tgt := 59) dX10_comes_55 (by decide) ?_
        refine zV_iret (pc := 59) dX10_comes_59 (by first | exact zok_b1 | exact zok_b0 | exact zok_b) ⟨Nat.zero_le _, Nat.zero_le _⟩ ?_
        rcases (show M 62 t = 1 ∨ M 62 t = 3 by omega) with e | e
        · first
            | exact zPt (((zct_k (T := zTm M) e).trans zcm_1).mpr c_35)
            | exact zPf (fun q => c_35 (((zct_k (T := zTm M) e).trans zcm_1).mp q))
            | (exfalso; omega)
        · first
            | exact zPt (((zct_k (T := zTm M) e).trans zcm_3).mpr (Or.inl c_35))
            | exact zPt (((zct_k (T := zTm M) e).trans zcm_3).mpr (Or.inr c_51))
            | exact zPf (fun q => (((zct_k (T := zTm M) e).trans zcm_3).mp q).elim c_35 c_51)
            | (exfalso; omega)
      · refine zV_iload_n (pc := 38) (i := 3) dX10_comes_38 rfl rfl ?_
        refine zV_iconst (pc := 39) dX10_comes_39 ?_
        refine zV_icmp_ne (pc := 40) (tgt := 58) dX10_comes_40 (by decide) (by omega) (fun c_40 => ?_) (fun c_40 => ?_)
        · refine zV_iconst (pc := 58) dX10_comes_58 ?_
          refine zV_iret (pc := 59) dX10_comes_59 (by first | exact zok_b1 | exact zok_b0 | exact zok_b) ⟨Nat.zero_le _, Nat.zero_le _⟩ ?_
          rcases (show M 62 t = 1 ∨ M 62 t = 3 by omega) with e | e
          · first
              | exact zPt (((zct_k (T := zTm M) e).trans zcm_1).mpr c_35)
              | exact zPf (fun q => c_35 (((zct_k (T := zTm M) e).trans zcm_1).mp q))
              | (exfalso; omega)
          · first
              | exact zPt (((zct_k (T := zTm M) e).trans zcm_3).mpr (Or.inl c_35))
              | exact zPt (((zct_k (T := zTm M) e).trans zcm_3).mpr (Or.inr c_51))
              | exact zPf (fun q => (((zct_k (T := zTm M) e).trans zcm_3).mp q).elim c_35 c_51)
              | (exfalso; omega)
        · refine zV_aload_n (pc := 43) (i := 0) dX10_comes_43 rfl rfl ?_
          refine zV_iload_n (pc := 44) (i := 1) dX10_comes_44 rfl rfl ?_
          refine zV_iload_n (pc := 45) (i := 2) dX10_comes_45 rfl rfl ?_
          refine zV_iconst (pc := 46) dX10_comes_46 ?_
          refine zV_iadd (pc := 47) dX10_comes_47 ?_
          refine zV_ivp (pc := 48) (ci := 10) dX10_comes_48 klX10_109 mX10_isRound ⟨by decide, rfl⟩ rfl ⟨Nat.zero_le _, Nat.zero_le _⟩ (kX10_isRound hS ht hk hm hp hb (by omega)) (zOb_of rfl) rfl rfl (Nat.le_of_ble_eq_true rfl) ?_
          refine zV_if_eqb (pc := 51) (tgt := 58) dX10_comes_51 (by decide) (fun c_51 => ?_) (fun c_51 => ?_)
          · refine zV_iconst (pc := 58) dX10_comes_58 ?_
            refine zV_iret (pc := 59) dX10_comes_59 (by first | exact zok_b1 | exact zok_b0 | exact zok_b) ⟨Nat.zero_le _, Nat.zero_le _⟩ ?_
            rcases (show M 62 t = 1 ∨ M 62 t = 3 by omega) with e | e
            · first
                | exact zPt (((zct_k (T := zTm M) e).trans zcm_1).mpr c_35)
                | exact zPf (fun q => c_35 (((zct_k (T := zTm M) e).trans zcm_1).mp q))
                | (exfalso; omega)
            · first
                | exact zPt (((zct_k (T := zTm M) e).trans zcm_3).mpr (Or.inl c_35))
                | exact zPt (((zct_k (T := zTm M) e).trans zcm_3).mpr (Or.inr c_51))
                | exact zPf (fun q => (((zct_k (T := zTm M) e).trans zcm_3).mp q).elim c_35 c_51)
                | (exfalso; omega)
          · refine zV_iconst (pc := 54) dX10_comes_54 ?_
            refine zV_goto (pc := 55) (tgt := 59) dX10_comes_55 (by decide) ?_
            refine zV_iret (pc := 59) dX10_comes_59 (by first | exact zok_b1 | exact zok_b0 | exact zok_b) ⟨Nat.zero_le _, Nat.zero_le _⟩ ?_
            rcases (show M 62 t = 1 ∨ M 62 t = 3 by omega) with e | e
            · first
                | exact zPt (((zct_k (T := zTm M) e).trans zcm_1).mpr c_35)
                | exact zPf (fun q => c_35 (((zct_k (T := zTm M) e).trans zcm_1).mp q))
                | (exfalso; omega)
            · first
                | exact zPt (((zct_k (T := zTm M) e).trans zcm_3).mpr (Or.inl c_35))
                | exact zPt (((zct_k (T := zTm M) e).trans zcm_3).mpr (Or.inr c_51))
                | exact zPf (fun q => (((zct_k (T := zTm M) e).trans zcm_3).mp q).elim c_35 c_51)
                | (exfalso; omega)
    · refine zV_iload_n (pc := 24) (i := 3) dX10_comes_24 rfl rfl ?_
      refine zV_iconst (pc := 25) dX10_comes_25 ?_
      refine zV_icmp_ne (pc := 26) (tgt := 60) dX10_comes_26 (by decide) (by omega) (fun c_26 => ?_) (fun c_26 => ?_)
      · refine zV_iload_n (pc := 60) (i := 3) dX10_comes_60 rfl rfl ?_
        refine zV_iconst (pc := 61) dX10_comes_61 ?_
        refine zV_icmp_ne (pc := 62) (tgt := 88) dX10_comes_62 (by decide) (by omega) (fun c_62 => ?_) (fun c_62 => ?_)
        · refine zV_aload_n (pc := 88) (i := 0) dX10_comes_88 rfl rfl ?_
          refine zV_iload_n (pc := 89) (i := 1) dX10_comes_89 rfl rfl ?_
          refine zV_iload_n (pc := 90) (i := 2) dX10_comes_90 rfl rfl ?_
          refine zV_ivp (pc := 91) (ci := 10) dX10_comes_91 klX10_109 mX10_isRound ⟨by decide, rfl⟩ rfl ⟨Nat.zero_le _, Nat.zero_le _⟩ (kX10_isRound hS ht hk hm hp hb (by omega)) (zOb_of rfl) rfl rfl (Nat.le_of_ble_eq_true rfl) ?_
          refine zV_if_neb (pc := 94) (tgt := 115) dX10_comes_94 (by decide) (fun c_94 => ?_) (fun c_94 => ?_)
          · refine zV_iconst (pc := 115) dX10_comes_115 ?_
            refine zV_goto (pc := 116) (tgt := 120) dX10_comes_116 (by decide) ?_
            refine zV_iret (pc := 120) dX10_comes_120 (by first | exact zok_b1 | exact zok_b0 | exact zok_b) ⟨Nat.zero_le _, Nat.zero_le _⟩ ?_
            rcases (show M 62 t = 0 ∨ M 62 t = 5 by omega) with e | e
            · first
                | exact zPt (((zct_k (T := zTm M) e).trans zcm_0).mpr c_94)
                | exact zPf (fun q => c_94 (((zct_k (T := zTm M) e).trans zcm_0).mp q))
                | (exfalso; omega)
            · first
                | exact zPt (((zct_k (T := zTm M) e).trans zcm_5).mpr (Or.inl c_94))
                | exact zPt (((zct_k (T := zTm M) e).trans zcm_5).mpr (Or.inr c_112))
                | exact zPf (fun q => (((zct_k (T := zTm M) e).trans zcm_5).mp q).elim c_94 c_112)
                | (exfalso; omega)
          · refine zV_iload_n (pc := 97) (i := 3) dX10_comes_97 rfl rfl ?_
            refine zV_iconst (pc := 98) dX10_comes_98 ?_
            refine zV_icmp_ne (pc := 99) (tgt := 119) dX10_comes_99 (by decide) (by omega) (fun c_99 => ?_) (fun c_99 => ?_)
            · refine zV_iconst (pc := 119) dX10_comes_119 ?_
              refine zV_iret (pc := 120) dX10_comes_120 (by first | exact zok_b1 | exact zok_b0 | exact zok_b) ⟨Nat.zero_le _, Nat.zero_le _⟩ ?_
              rcases (show M 62 t = 0 ∨ M 62 t = 5 by omega) with e | e
              · first
                  | exact zPt (((zct_k (T := zTm M) e).trans zcm_0).mpr c_94)
                  | exact zPf (fun q => c_94 (((zct_k (T := zTm M) e).trans zcm_0).mp q))
                  | (exfalso; omega)
              · first
                  | exact zPt (((zct_k (T := zTm M) e).trans zcm_5).mpr (Or.inl c_94))
                  | exact zPt (((zct_k (T := zTm M) e).trans zcm_5).mpr (Or.inr c_112))
                  | exact zPf (fun q => (((zct_k (T := zTm M) e).trans zcm_5).mp q).elim c_94 c_112)
                  | (exfalso; omega)
            · refine zV_iload_n (pc := 102) (i := 2) dX10_comes_102 rfl rfl ?_
              refine zV_bipush (pc := 103) dX10_comes_103 (by decide) ?_
              refine zV_iremN (pc := 105) dX10_comes_105 (by omega) (by omega) ?_
              refine zV_aload_n (pc := 106) (i := 0) dX10_comes_106 rfl rfl ?_
              refine zV_get (pc := 107) (j := 9) dX10_comes_107 flX10_26 (zOb_of rfl) rfl hS.e58_9 ?_
              refine zV_iload_n (pc := 110) (i := 1) dX10_comes_110 rfl rfl ?_
              refine zV_iald (pc := 111) dX10_comes_111 (zAr_of rfl : zAr 75 63 0 6) (by omega) rfl ?_
              refine zV_icmp_ne (pc := 112) (tgt := 119) dX10_comes_112 (by decide) (by omega) (fun c_112 => ?_) (fun c_112 => ?_)
              · refine zV_iconst (pc := 119) dX10_comes_119 ?_
                refine zV_iret (pc := 120) dX10_comes_120 (by first | exact zok_b1 | exact zok_b0 | exact zok_b) ⟨Nat.zero_le _, Nat.zero_le _⟩ ?_
                rcases (show M 62 t = 0 ∨ M 62 t = 5 by omega) with e | e
                · first
                    | exact zPt (((zct_k (T := zTm M) e).trans zcm_0).mpr c_94)
                    | exact zPf (fun q => c_94 (((zct_k (T := zTm M) e).trans zcm_0).mp q))
                    | (exfalso; omega)
                · first
                    | exact zPt (((zct_k (T := zTm M) e).trans zcm_5).mpr (Or.inl c_94))
                    | exact zPt (((zct_k (T := zTm M) e).trans zcm_5).mpr (Or.inr c_112))
                    | exact zPf (fun q => (((zct_k (T := zTm M) e).trans zcm_5).mp q).elim c_94 c_112)
                    | (exfalso; omega)
              · refine zV_iconst (pc := 115) dX10_comes_115 ?_
                refine zV_goto (pc := 116) (tgt := 120) dX10_comes_116 (by decide) ?_
                refine zV_iret (pc := 120) dX10_comes_120 (by first | exact zok_b1 | exact zok_b0 | exact zok_b) ⟨Nat.zero_le _, Nat.zero_le _⟩ ?_
                rcases (show M 62 t = 0 ∨ M 62 t = 5 by omega) with e | e
                · first
                    | exact zPt (((zct_k (T := zTm M) e).trans zcm_0).mpr c_94)
                    | exact zPf (fun q => c_94 (((zct_k (T := zTm M) e).trans zcm_0).mp q))
                    | (exfalso; omega)
                · first
                    | exact zPt (((zct_k (T := zTm M) e).trans zcm_5).mpr (Or.inl c_94))
                    | exact zPt (((zct_k (T := zTm M) e).trans zcm_5).mpr (Or.inr c_112))
                    | exact zPf (fun q => (((zct_k (T := zTm M) e).trans zcm_5).mp q).elim c_94 c_112)
                    | (exfalso; omega)
        · refine zV_aload_n (pc := 65) (i := 0) dX10_comes_65 rfl rfl ?_
          refine zV_iload_n (pc := 66) (i := 1) dX10_comes_66 rfl rfl ?_
          refine zV_iload_n (pc := 67) (i := 2) dX10_comes_67 rfl rfl ?_
          refine zV_ivp (pc := 68) (ci := 10) dX10_comes_68 klX10_109 mX10_isRound ⟨by decide, rfl⟩ rfl ⟨Nat.zero_le _, Nat.zero_le _⟩ (kX10_isRound hS ht hk hm hp hb (by omega)) (zOb_of rfl) rfl rfl (Nat.le_of_ble_eq_true rfl) ?_
          refine zV_if_eqb (pc := 71) (tgt := 86) dX10_comes_71 (by decide) (fun c_71 => ?_) (fun c_71 => ?_)
          · refine zV_iconst (pc := 86) dX10_comes_86 ?_
            refine zV_iret (pc := 87) dX10_comes_87 (by first | exact zok_b1 | exact zok_b0 | exact zok_b) ⟨Nat.zero_le _, Nat.zero_le _⟩ ?_
            first
              | exact zPt (((zct_k (T := zTm M) c_62).trans zcm_4).mpr ⟨c_71, c_79⟩)
              | exact zPf (fun q => c_71 (((zct_k (T := zTm M) c_62).trans zcm_4).mp q).1)
              | exact zPf (fun q => (((zct_k (T := zTm M) c_62).trans zcm_4).mp q).2 c_79)
          · refine zV_aload_n (pc := 74) (i := 0) dX10_comes_74 rfl rfl ?_
            refine zV_iload_n (pc := 75) (i := 2) dX10_comes_75 rfl rfl ?_
            refine zV_ivp (pc := 76) (ci := 10) dX10_comes_76 klX10_113 mX10_isHoliday ⟨by decide, rfl⟩ rfl ⟨Nat.zero_le _, Nat.zero_le _⟩ (kX10_isHoliday hS hh (by omega)) (zOb_of rfl) rfl rfl (Nat.le_of_ble_eq_true rfl) ?_
            refine zV_if_neb (pc := 79) (tgt := 86) dX10_comes_79 (by decide) (fun c_79 => ?_) (fun c_79 => ?_)
            · refine zV_iconst (pc := 86) dX10_comes_86 ?_
              refine zV_iret (pc := 87) dX10_comes_87 (by first | exact zok_b1 | exact zok_b0 | exact zok_b) ⟨Nat.zero_le _, Nat.zero_le _⟩ ?_
              first
                | exact zPt (((zct_k (T := zTm M) c_62).trans zcm_4).mpr ⟨c_71, c_79⟩)
                | exact zPf (fun q => c_71 (((zct_k (T := zTm M) c_62).trans zcm_4).mp q).1)
                | exact zPf (fun q => (((zct_k (T := zTm M) c_62).trans zcm_4).mp q).2 c_79)
            · refine zV_iconst (pc := 82) dX10_comes_82 ?_
              refine zV_goto (pc := 83) (tgt := 87) dX10_comes_83 (by decide) ?_
              refine zV_iret (pc := 87) dX10_comes_87 (by first | exact zok_b1 | exact zok_b0 | exact zok_b) ⟨Nat.zero_le _, Nat.zero_le _⟩ ?_
              first
                | exact zPt (((zct_k (T := zTm M) c_62).trans zcm_4).mpr ⟨c_71, c_79⟩)
                | exact zPf (fun q => c_71 (((zct_k (T := zTm M) c_62).trans zcm_4).mp q).1)
                | exact zPf (fun q => (((zct_k (T := zTm M) c_62).trans zcm_4).mp q).2 c_79)
      · refine zV_aload_n (pc := 29) (i := 0) dX10_comes_29 rfl rfl ?_
        refine zV_iload_n (pc := 30) (i := 1) dX10_comes_30 rfl rfl ?_
        refine zV_iload_n (pc := 31) (i := 2) dX10_comes_31 rfl rfl ?_
        refine zV_ivp (pc := 32) (ci := 10) dX10_comes_32 klX10_119 mX10_lasts ⟨by decide, rfl⟩ rfl ⟨Nat.zero_le _, Nat.zero_le _⟩ (kX10_lasts hS ht hk hm hp hb (by omega)) (zOb_of rfl) rfl rfl (Nat.le_of_ble_eq_true rfl) ?_
        refine zV_if_neb (pc := 35) (tgt := 54) dX10_comes_35 (by decide) (fun c_35 => ?_) (fun c_35 => ?_)
        · refine zV_iconst (pc := 54) dX10_comes_54 ?_
          refine zV_goto (pc := 55) (tgt := 59) dX10_comes_55 (by decide) ?_
          refine zV_iret (pc := 59) dX10_comes_59 (by first | exact zok_b1 | exact zok_b0 | exact zok_b) ⟨Nat.zero_le _, Nat.zero_le _⟩ ?_
          rcases (show M 62 t = 1 ∨ M 62 t = 3 by omega) with e | e
          · first
              | exact zPt (((zct_k (T := zTm M) e).trans zcm_1).mpr c_35)
              | exact zPf (fun q => c_35 (((zct_k (T := zTm M) e).trans zcm_1).mp q))
              | (exfalso; omega)
          · first
              | exact zPt (((zct_k (T := zTm M) e).trans zcm_3).mpr (Or.inl c_35))
              | exact zPt (((zct_k (T := zTm M) e).trans zcm_3).mpr (Or.inr c_51))
              | exact zPf (fun q => (((zct_k (T := zTm M) e).trans zcm_3).mp q).elim c_35 c_51)
              | (exfalso; omega)
        · refine zV_iload_n (pc := 38) (i := 3) dX10_comes_38 rfl rfl ?_
          refine zV_iconst (pc := 39) dX10_comes_39 ?_
          refine zV_icmp_ne (pc := 40) (tgt := 58) dX10_comes_40 (by decide) (by omega) (fun c_40 => ?_) (fun c_40 => ?_)
          · refine zV_iconst (pc := 58) dX10_comes_58 ?_
            refine zV_iret (pc := 59) dX10_comes_59 (by first | exact zok_b1 | exact zok_b0 | exact zok_b) ⟨Nat.zero_le _, Nat.zero_le _⟩ ?_
            rcases (show M 62 t = 1 ∨ M 62 t = 3 by omega) with e | e
            · first
                | exact zPt (((zct_k (T := zTm M) e).trans zcm_1).mpr c_35)
                | exact zPf (fun q => c_35 (((zct_k (T := zTm M) e).trans zcm_1).mp q))
                | (exfalso; omega)
            · first
                | exact zPt (((zct_k (T := zTm M) e).trans zcm_3).mpr (Or.inl c_35))
                | exact zPt (((zct_k (T := zTm M) e).trans zcm_3).mpr (Or.inr c_51))
                | exact zPf (fun q => (((zct_k (T := zTm M) e).trans zcm_3).mp q).elim c_35 c_51)
                | (exfalso; omega)
          · refine zV_aload_n (pc := 43) (i := 0) dX10_comes_43 rfl rfl ?_
            refine zV_iload_n (pc := 44) (i := 1) dX10_comes_44 rfl rfl ?_
            refine zV_iload_n (pc := 45) (i := 2) dX10_comes_45 rfl rfl ?_
            refine zV_iconst (pc := 46) dX10_comes_46 ?_
            refine zV_iadd (pc := 47) dX10_comes_47 ?_
            refine zV_ivp (pc := 48) (ci := 10) dX10_comes_48 klX10_109 mX10_isRound ⟨by decide, rfl⟩ rfl ⟨Nat.zero_le _, Nat.zero_le _⟩ (kX10_isRound hS ht hk hm hp hb (by omega)) (zOb_of rfl) rfl rfl (Nat.le_of_ble_eq_true rfl) ?_
            refine zV_if_eqb (pc := 51) (tgt := 58) dX10_comes_51 (by decide) (fun c_51 => ?_) (fun c_51 => ?_)
            · refine zV_iconst (pc := 58) dX10_comes_58 ?_
              refine zV_iret (pc := 59) dX10_comes_59 (by first | exact zok_b1 | exact zok_b0 | exact zok_b) ⟨Nat.zero_le _, Nat.zero_le _⟩ ?_
              rcases (show M 62 t = 1 ∨ M 62 t = 3 by omega) with e | e
              · first
                  | exact zPt (((zct_k (T := zTm M) e).trans zcm_1).mpr c_35)
                  | exact zPf (fun q => c_35 (((zct_k (T := zTm M) e).trans zcm_1).mp q))
                  | (exfalso; omega)
              · first
                  | exact zPt (((zct_k (T := zTm M) e).trans zcm_3).mpr (Or.inl c_35))
                  | exact zPt (((zct_k (T := zTm M) e).trans zcm_3).mpr (Or.inr c_51))
                  | exact zPf (fun q => (((zct_k (T := zTm M) e).trans zcm_3).mp q).elim c_35 c_51)
                  | (exfalso; omega)
            · refine zV_iconst (pc := 54) dX10_comes_54 ?_
              refine zV_goto (pc := 55) (tgt := 59) dX10_comes_55 (by decide) ?_
              refine zV_iret (pc := 59) dX10_comes_59 (by first | exact zok_b1 | exact zok_b0 | exact zok_b) ⟨Nat.zero_le _, Nat.zero_le _⟩ ?_
              rcases (show M 62 t = 1 ∨ M 62 t = 3 by omega) with e | e
              · first
                  | exact zPt (((zct_k (T := zTm M) e).trans zcm_1).mpr c_35)
                  | exact zPf (fun q => c_35 (((zct_k (T := zTm M) e).trans zcm_1).mp q))
                  | (exfalso; omega)
              · first
                  | exact zPt (((zct_k (T := zTm M) e).trans zcm_3).mpr (Or.inl c_35))
                  | exact zPt (((zct_k (T := zTm M) e).trans zcm_3).mpr (Or.inr c_51))
                  | exact zPf (fun q => (((zct_k (T := zTm M) e).trans zcm_3).mp q).elim c_35 c_51)
                  | (exfalso; omega)
  · refine zV_aload_n (pc := 12) (i := 0) dX10_comes_12 rfl rfl ?_
    refine zV_iload_n (pc := 13) (i := 1) dX10_comes_13 rfl rfl ?_
    refine zV_iload_n (pc := 14) (i := 2) dX10_comes_14 rfl rfl ?_
    refine zV_ivp (pc := 15) (ci := 10) dX10_comes_15 klX10_116 mX10_isPutOff ⟨by decide, rfl⟩ rfl ⟨Nat.zero_le _, Nat.zero_le _⟩ (kX10_isPutOff hS ht hk hm hp hb hh (by omega)) (zOb_of rfl) rfl rfl (Nat.le_of_ble_eq_true rfl) ?_
    refine zV_iret (pc := 18) dX10_comes_18 (by first | exact zok_b1 | exact zok_b0 | exact zok_b) ⟨Nat.zero_le _, Nat.zero_le _⟩ ?_
    exact zPc ((zct_k (T := zTm M) c_9).trans zcm_2).symm
set_option maxRecDepth 20000 in
set_option maxHeartbeats 2000000 in
theorem kX10_spendsOf (hS : zSt M) {t : Int} (ht : 0 ≤ t ∧ t < 6) (hk : 0 ≤ M 62 t ∧ M 62 t ≤ 5) (hm : 0 ≤ M 63 t ∧ M 63 t ≤ 9) (hp : 1 ≤ M 64 t ∧ M 64 t ≤ 60) (hb : 0 ≤ M 65 t ∧ M 65 t ≤ 59) {v : Int} (hv : 0 ≤ v ∧ v ≤ 99) : zK g yX10_spendsOf xX10_spendsOf [zr 58, zi t, zi v] 75 M (zPp (zi (zsp (M 62 t) (M 63 t) v)) 75 M) := by
  refine zK_of (ls0 := [zr 58, zi t, zi v, (3, 0), (3, 0), (3, 0)]) (by decide) rfl (by decide) rfl (Nat.le_of_ble_eq_true rfl) ?_
  refine zV_aload_n (pc := 0) (i := 0) dX10_spendsOf_0 rfl rfl ?_
  refine zV_get (pc := 1) (j := 8) dX10_spendsOf_1 flX10_23 (zOb_of rfl) rfl hS.e58_8 ?_
  refine zV_iload_n (pc := 4) (i := 1) dX10_spendsOf_4 rfl rfl ?_
  refine zV_iald (pc := 5) dX10_spendsOf_5 (zAr_of rfl : zAr 75 62 0 6) (by omega) rfl ?_
  refine zV_istore_n (pc := 6) (i := 3) dX10_spendsOf_6 rfl rfl ?_
  try dsimp only [List.set_cons_succ, List.set_cons_zero]
  refine zV_iload_n (pc := 7) (i := 3) dX10_spendsOf_7 rfl rfl ?_
  refine zV_iconst (pc := 8) dX10_spendsOf_8 ?_
  refine zV_icmp_eq (pc := 9) (tgt := 17) dX10_spendsOf_9 (by decide) (by omega) (fun c_9 => ?_) (fun c_9 => ?_)
  · refine zV_iload_n (pc := 17) (i := 2) dX10_spendsOf_17 rfl rfl ?_
    refine zV_aload_n (pc := 18) (i := 0) dX10_spendsOf_18 rfl rfl ?_
    refine zV_get (pc := 19) (j := 9) dX10_spendsOf_19 flX10_26 (zOb_of rfl) rfl hS.e58_9 ?_
    refine zV_iload_n (pc := 22) (i := 1) dX10_spendsOf_22 rfl rfl ?_
    refine zV_iald (pc := 23) dX10_spendsOf_23 (zAr_of rfl : zAr 75 63 0 6) (by omega) rfl ?_
    refine zV_iconst (pc := 24) dX10_spendsOf_24 ?_
    refine zV_iadd (pc := 25) dX10_spendsOf_25 ?_
    refine zV_idivN (pc := 26) dX10_spendsOf_26 (by omega) (by omega) ?_
    have hq0 : 0 ≤ v / (M 63 t + 1) := Int.ediv_nonneg hv.1 (by omega)
    have hq1 : v / (M 63 t + 1) ≤ v := Int.ediv_le_self _ hv.1
    refine zV_istore (pc := 27) dX10_spendsOf_27 rfl ?_
    try dsimp only [List.set_cons_succ, List.set_cons_zero]
    refine zV_iload (pc := 29) dX10_spendsOf_29 rfl ?_
    refine zV_iconst (pc := 31) dX10_spendsOf_31 ?_
    refine zV_icmp_ge (pc := 32) (tgt := 39) dX10_spendsOf_32 (by decide) (by omega) (fun c_32 => ?_) (fun c_32 => ?_)
    · refine zV_iload (pc := 39) dX10_spendsOf_39 rfl ?_
      refine zV_istore (pc := 41) dX10_spendsOf_41 rfl ?_
      try dsimp only [List.set_cons_succ, List.set_cons_zero]
      refine zV_iload_n (pc := 43) (i := 3) dX10_spendsOf_43 rfl rfl ?_
      refine zV_iconst (pc := 44) dX10_spendsOf_44 ?_
      refine zV_icmp_ne (pc := 45) (tgt := 55) dX10_spendsOf_45 (by decide) (by omega) (fun c_45 => ?_) (fun c_45 => ?_)
      · refine zV_iload (pc := 55) dX10_spendsOf_55 rfl ?_
        refine zV_iret (pc := 57) dX10_spendsOf_57 trivial ⟨Nat.zero_le _, Nat.zero_le _⟩ ?_
        refine zPe ?_
        unfold zsp
        first
          | (rw [if_pos (show M 62 t = 1 by omega)]; omega)
          | (rw [if_neg (show ¬ M 62 t = 1 by omega), if_pos (show M 62 t = 3 by omega)]; omega)
          | (rw [if_neg (show ¬ M 62 t = 1 by omega), if_neg (show ¬ M 62 t = 3 by omega), if_pos (by omega)])
          | (rw [if_neg (show ¬ M 62 t = 1 by omega), if_neg (show ¬ M 62 t = 3 by omega), if_neg (by omega)])
      · refine zV_iconst (pc := 48) dX10_spendsOf_48 ?_
        refine zV_iload (pc := 49) dX10_spendsOf_49 rfl ?_
        refine zV_imul (pc := 51) dX10_spendsOf_51 ?_
        refine zV_goto (pc := 52) (tgt := 57) dX10_spendsOf_52 (by decide) ?_
        refine zV_iret (pc := 57) dX10_spendsOf_57 trivial ⟨Nat.zero_le _, Nat.zero_le _⟩ ?_
        refine zPe ?_
        unfold zsp
        first
          | (rw [if_pos (show M 62 t = 1 by omega)]; omega)
          | (rw [if_neg (show ¬ M 62 t = 1 by omega), if_pos (show M 62 t = 3 by omega)]; omega)
          | (rw [if_neg (show ¬ M 62 t = 1 by omega), if_neg (show ¬ M 62 t = 3 by omega), if_pos (by omega)])
          | (rw [if_neg (show ¬ M 62 t = 1 by omega), if_neg (show ¬ M 62 t = 3 by omega), if_neg (by omega)])
    · refine zV_iconst (pc := 35) dX10_spendsOf_35 ?_
      refine zV_goto (pc := 36) (tgt := 41) dX10_spendsOf_36 (by decide) ?_
      refine zV_istore (pc := 41) dX10_spendsOf_41 rfl ?_
      try dsimp only [List.set_cons_succ, List.set_cons_zero]
      refine zV_iload_n (pc := 43) (i := 3) dX10_spendsOf_43 rfl rfl ?_
      refine zV_iconst (pc := 44) dX10_spendsOf_44 ?_
      refine zV_icmp_ne (pc := 45) (tgt := 55) dX10_spendsOf_45 (by decide) (by omega) (fun c_45 => ?_) (fun c_45 => ?_)
      · refine zV_iload (pc := 55) dX10_spendsOf_55 rfl ?_
        refine zV_iret (pc := 57) dX10_spendsOf_57 trivial ⟨Nat.zero_le _, Nat.zero_le _⟩ ?_
        refine zPe ?_
        unfold zsp
        first
          | (rw [if_pos (show M 62 t = 1 by omega)]; omega)
          | (rw [if_neg (show ¬ M 62 t = 1 by omega), if_pos (show M 62 t = 3 by omega)]; omega)
          | (rw [if_neg (show ¬ M 62 t = 1 by omega), if_neg (show ¬ M 62 t = 3 by omega), if_pos (by omega)])
          | (rw [if_neg (show ¬ M 62 t = 1 by omega), if_neg (show ¬ M 62 t = 3 by omega), if_neg (by omega)])
      · refine zV_iconst (pc := 48) dX10_spendsOf_48 ?_
        refine zV_iload (pc := 49) dX10_spendsOf_49 rfl ?_
        refine zV_imul (pc := 51) dX10_spendsOf_51 ?_
        refine zV_goto (pc := 52) (tgt := 57) dX10_spendsOf_52 (by decide) ?_
        refine zV_iret (pc := 57) dX10_spendsOf_57 trivial ⟨Nat.zero_le _, Nat.zero_le _⟩ ?_
        refine zPe ?_
        unfold zsp
        first
          | (rw [if_pos (show M 62 t = 1 by omega)]; omega)
          | (rw [if_neg (show ¬ M 62 t = 1 by omega), if_pos (show M 62 t = 3 by omega)]; omega)
          | (rw [if_neg (show ¬ M 62 t = 1 by omega), if_neg (show ¬ M 62 t = 3 by omega), if_pos (by omega)])
          | (rw [if_neg (show ¬ M 62 t = 1 by omega), if_neg (show ¬ M 62 t = 3 by omega), if_neg (by omega)])
  · refine zV_iload_n (pc := 12) (i := 3) dX10_spendsOf_12 rfl rfl ?_
    refine zV_iconst (pc := 13) dX10_spendsOf_13 ?_
    refine zV_icmp_ne (pc := 14) (tgt := 58) dX10_spendsOf_14 (by decide) (by omega) (fun c_14 => ?_) (fun c_14 => ?_)
    · refine zV_iload_n (pc := 58) (i := 3) dX10_spendsOf_58 rfl rfl ?_
      refine zV_iconst (pc := 59) dX10_spendsOf_59 ?_
      refine zV_icmp_eq (pc := 60) (tgt := 68) dX10_spendsOf_60 (by decide) (by omega) (fun c_60 => ?_) (fun c_60 => ?_)
      · refine zV_iload_n (pc := 68) (i := 2) dX10_spendsOf_68 rfl rfl ?_
        refine zV_iconst (pc := 69) dX10_spendsOf_69 ?_
        refine zV_iadd (pc := 70) dX10_spendsOf_70 ?_
        refine zV_goto (pc := 71) (tgt := 75) dX10_spendsOf_71 (by decide) ?_
        refine zV_iret (pc := 75) dX10_spendsOf_75 trivial ⟨Nat.zero_le _, Nat.zero_le _⟩ ?_
        refine zPe ?_
        unfold zsp
        first
          | (rw [if_pos (show M 62 t = 1 by omega)]; omega)
          | (rw [if_neg (show ¬ M 62 t = 1 by omega), if_pos (show M 62 t = 3 by omega)]; omega)
          | (rw [if_neg (show ¬ M 62 t = 1 by omega), if_neg (show ¬ M 62 t = 3 by omega), if_pos (by omega)])
          | (rw [if_neg (show ¬ M 62 t = 1 by omega), if_neg (show ¬ M 62 t = 3 by omega), if_neg (by omega)])
      · refine zV_iload_n (pc := 63) (i := 3) dX10_spendsOf_63 rfl rfl ?_
        refine zV_iconst (pc := 64) dX10_spendsOf_64 ?_
        refine zV_icmp_ne (pc := 65) (tgt := 74) dX10_spendsOf_65 (by decide) (by omega) (fun c_65 => ?_) (fun c_65 => ?_)
        · refine zV_iload_n (pc := 74) (i := 2) dX10_spendsOf_74 rfl rfl ?_
          refine zV_iret (pc := 75) dX10_spendsOf_75 trivial ⟨Nat.zero_le _, Nat.zero_le _⟩ ?_
          refine zPe ?_
          unfold zsp
          first
            | (rw [if_pos (show M 62 t = 1 by omega)]; omega)
            | (rw [if_neg (show ¬ M 62 t = 1 by omega), if_pos (show M 62 t = 3 by omega)]; omega)
            | (rw [if_neg (show ¬ M 62 t = 1 by omega), if_neg (show ¬ M 62 t = 3 by omega), if_pos (by omega)])
            | (rw [if_neg (show ¬ M 62 t = 1 by omega), if_neg (show ¬ M 62 t = 3 by omega), if_neg (by omega)])
        · refine zV_iload_n (pc := 68) (i := 2) dX10_spendsOf_68 rfl rfl ?_
          refine zV_iconst (pc := 69) dX10_spendsOf_69 ?_
          refine zV_iadd (pc := 70) dX10_spendsOf_70 ?_
          refine zV_goto (pc := 71) (tgt := 75) dX10_spendsOf_71 (by decide) ?_
          refine zV_iret (pc := 75) dX10_spendsOf_75 trivial ⟨Nat.zero_le _, Nat.zero_le _⟩ ?_
          refine zPe ?_
          unfold zsp
          first
            | (rw [if_pos (show M 62 t = 1 by omega)]; omega)
            | (rw [if_neg (show ¬ M 62 t = 1 by omega), if_pos (show M 62 t = 3 by omega)]; omega)
            | (rw [if_neg (show ¬ M 62 t = 1 by omega), if_neg (show ¬ M 62 t = 3 by omega), if_pos (by omega)])
            | (rw [if_neg (show ¬ M 62 t = 1 by omega), if_neg (show ¬ M 62 t = 3 by omega), if_neg (by omega)])
    · refine zV_iload_n (pc := 17) (i := 2) dX10_spendsOf_17 rfl rfl ?_
      refine zV_aload_n (pc := 18) (i := 0) dX10_spendsOf_18 rfl rfl ?_
      refine zV_get (pc := 19) (j := 9) dX10_spendsOf_19 flX10_26 (zOb_of rfl) rfl hS.e58_9 ?_
      refine zV_iload_n (pc := 22) (i := 1) dX10_spendsOf_22 rfl rfl ?_
      refine zV_iald (pc := 23) dX10_spendsOf_23 (zAr_of rfl : zAr 75 63 0 6) (by omega) rfl ?_
      refine zV_iconst (pc := 24) dX10_spendsOf_24 ?_
      refine zV_iadd (pc := 25) dX10_spendsOf_25 ?_
      refine zV_idivN (pc := 26) dX10_spendsOf_26 (by omega) (by omega) ?_
      have hq0 : 0 ≤ v / (M 63 t + 1) := Int.ediv_nonneg hv.1 (by omega)
      have hq1 : v / (M 63 t + 1) ≤ v := Int.ediv_le_self _ hv.1
      refine zV_istore (pc := 27) dX10_spendsOf_27 rfl ?_
      try dsimp only [List.set_cons_succ, List.set_cons_zero]
      refine zV_iload (pc := 29) dX10_spendsOf_29 rfl ?_
      refine zV_iconst (pc := 31) dX10_spendsOf_31 ?_
      refine zV_icmp_ge (pc := 32) (tgt := 39) dX10_spendsOf_32 (by decide) (by omega) (fun c_32 => ?_) (fun c_32 => ?_)
      · refine zV_iload (pc := 39) dX10_spendsOf_39 rfl ?_
        refine zV_istore (pc := 41) dX10_spendsOf_41 rfl ?_
        try dsimp only [List.set_cons_succ, List.set_cons_zero]
        refine zV_iload_n (pc := 43) (i := 3) dX10_spendsOf_43 rfl rfl ?_
        refine zV_iconst (pc := 44) dX10_spendsOf_44 ?_
        refine zV_icmp_ne (pc := 45) (tgt := 55) dX10_spendsOf_45 (by decide) (by omega) (fun c_45 => ?_) (fun c_45 => ?_)
        · refine zV_iload (pc := 55) dX10_spendsOf_55 rfl ?_
          refine zV_iret (pc := 57) dX10_spendsOf_57 trivial ⟨Nat.zero_le _, Nat.zero_le _⟩ ?_
          refine zPe ?_
          unfold zsp
          first
            | (rw [if_pos (show M 62 t = 1 by omega)]; omega)
            | (rw [if_neg (show ¬ M 62 t = 1 by omega), if_pos (show M 62 t = 3 by omega)]; omega)
            | (rw [if_neg (show ¬ M 62 t = 1 by omega), if_neg (show ¬ M 62 t = 3 by omega), if_pos (by omega)])
            | (rw [if_neg (show ¬ M 62 t = 1 by omega), if_neg (show ¬ M 62 t = 3 by omega), if_neg (by omega)])
        · refine zV_iconst (pc := 48) dX10_spendsOf_48 ?_
          refine zV_iload (pc := 49) dX10_spendsOf_49 rfl ?_
          refine zV_imul (pc := 51) dX10_spendsOf_51 ?_
          refine zV_goto (pc := 52) (tgt := 57) dX10_spendsOf_52 (by decide) ?_
          refine zV_iret (pc := 57) dX10_spendsOf_57 trivial ⟨Nat.zero_le _, Nat.zero_le _⟩ ?_
          refine zPe ?_
          unfold zsp
          first
            | (rw [if_pos (show M 62 t = 1 by omega)]; omega)
            | (rw [if_neg (show ¬ M 62 t = 1 by omega), if_pos (show M 62 t = 3 by omega)]; omega)
            | (rw [if_neg (show ¬ M 62 t = 1 by omega), if_neg (show ¬ M 62 t = 3 by omega), if_pos (by omega)])
            | (rw [if_neg (show ¬ M 62 t = 1 by omega), if_neg (show ¬ M 62 t = 3 by omega), if_neg (by omega)])
      · refine zV_iconst (pc := 35) dX10_spendsOf_35 ?_
        refine zV_goto (pc := 36) (tgt := 41) dX10_spendsOf_36 (by decide) ?_
        refine zV_istore (pc := 41) dX10_spendsOf_41 rfl ?_
        try dsimp only [List.set_cons_succ, List.set_cons_zero]
        refine zV_iload_n (pc := 43) (i := 3) dX10_spendsOf_43 rfl rfl ?_
        refine zV_iconst (pc := 44) dX10_spendsOf_44 ?_
        refine zV_icmp_ne (pc := 45) (tgt := 55) dX10_spendsOf_45 (by decide) (by omega) (fun c_45 => ?_) (fun c_45 => ?_)
        · refine zV_iload (pc := 55) dX10_spendsOf_55 rfl ?_
          refine zV_iret (pc := 57) dX10_spendsOf_57 trivial ⟨Nat.zero_le _, Nat.zero_le _⟩ ?_
          refine zPe ?_
          unfold zsp
          first
            | (rw [if_pos (show M 62 t = 1 by omega)]; omega)
            | (rw [if_neg (show ¬ M 62 t = 1 by omega), if_pos (show M 62 t = 3 by omega)]; omega)
            | (rw [if_neg (show ¬ M 62 t = 1 by omega), if_neg (show ¬ M 62 t = 3 by omega), if_pos (by omega)])
            | (rw [if_neg (show ¬ M 62 t = 1 by omega), if_neg (show ¬ M 62 t = 3 by omega), if_neg (by omega)])
        · refine zV_iconst (pc := 48) dX10_spendsOf_48 ?_
          refine zV_iload (pc := 49) dX10_spendsOf_49 rfl ?_
          refine zV_imul (pc := 51) dX10_spendsOf_51 ?_
          refine zV_goto (pc := 52) (tgt := 57) dX10_spendsOf_52 (by decide) ?_
          refine zV_iret (pc := 57) dX10_spendsOf_57 trivial ⟨Nat.zero_le _, Nat.zero_le _⟩ ?_
          refine zPe ?_
          unfold zsp
          first
            | (rw [if_pos (show M 62 t = 1 by omega)]; omega)
            | (rw [if_neg (show ¬ M 62 t = 1 by omega), if_pos (show M 62 t = 3 by omega)]; omega)
            | (rw [if_neg (show ¬ M 62 t = 1 by omega), if_neg (show ¬ M 62 t = 3 by omega), if_pos (by omega)])
            | (rw [if_neg (show ¬ M 62 t = 1 by omega), if_neg (show ¬ M 62 t = 3 by omega), if_neg (by omega)])
set_option maxRecDepth 20000 in
set_option maxHeartbeats 2000000 in
theorem kX10_told (hS : zSt M) (hn : 0 ≤ M 58 12 ∧ M 58 12 ≤ 6) {i k : Int} (hi : -2147483648 ≤ i ∧ i ≤ 2147483647) (hk : -2147483648 ≤ k ∧ k ≤ 2147483647) : zK g yX10_told xX10_told [zr 58, zi i, zi k] 75 M (zPp (zi (zif ((0 ≤ i ∧ i < M 58 12) ∧ (0 ≤ k ∧ k ≤ 3)) (zTm M i k) (-2))) 75 M) := by
  refine zK_of (ls0 := [zr 58, zi i, zi k]) (by decide) rfl (by decide) rfl (Nat.le_of_ble_eq_true rfl) ?_
  refine zV_aload_n (pc := 0) (i := 0) dX10_told_0 rfl rfl ?_
  refine zV_iload_n (pc := 1) (i := 1) dX10_told_1 rfl rfl ?_
  refine zV_ivp (pc := 2) (ci := 10) dX10_told_2 klX10_84 mX10_isThing ⟨by decide, rfl⟩ rfl ⟨Nat.zero_le _, Nat.zero_le _⟩ (kX10_isThing hn (by omega)) (zOb_of rfl) rfl rfl (Nat.le_of_ble_eq_true rfl) ?_
  refine zV_if_eqb (pc := 5) (tgt := 20) dX10_told_5 (by decide) (fun c_5 => ?_) (fun c_5 => ?_)
  · refine zV_bipush (pc := 20) dX10_told_20 (by decide) ?_
    refine zV_iret (pc := 22) dX10_told_22 trivial ⟨Nat.zero_le _, Nat.zero_le _⟩ ?_
    first
      | exact zPe (zif_f (fun q => c_5 q.1)).symm
      | exact zPe (zif_f (fun q => c_17 q.2)).symm
  · refine zV_iload_n (pc := 8) (i := 2) dX10_told_8 rfl rfl ?_
    refine zV_i2l (pc := 9) dX10_told_9 (by omega) ?_
    refine zV_lconst0 (pc := 10) dX10_told_10 ?_
    refine zV_ldc2 (pc := 11) dX10_told_11 kiX10_82 ?_
    refine zV_isp (pc := 14) dX10_told_14 klX10_76 mX10_in rfl ⟨Nat.zero_le _, Nat.zero_le _⟩ (kX10_in (by omega) (by omega) (by omega)) rfl rfl (Nat.le_of_ble_eq_true rfl) ?_
    refine zV_if_neb (pc := 17) (tgt := 23) dX10_told_17 (by decide) (fun c_17 => ?_) (fun c_17 => ?_)
    · refine zV_iload_n (pc := 23) (i := 2) dX10_told_23 rfl rfl ?_
      refine zV_if_ne (pc := 24) (tgt := 36) dX10_told_24 (by decide) (by omega) (fun c_24 => ?_) (fun c_24 => ?_)
      · refine zV_iload_n (pc := 36) (i := 2) dX10_told_36 rfl rfl ?_
        refine zV_iconst (pc := 37) dX10_told_37 ?_
        refine zV_icmp_ne (pc := 38) (tgt := 50) dX10_told_38 (by decide) (by omega) (fun c_38 => ?_) (fun c_38 => ?_)
        · refine zV_iload_n (pc := 50) (i := 2) dX10_told_50 rfl rfl ?_
          refine zV_iconst (pc := 51) dX10_told_51 ?_
          refine zV_icmp_ne (pc := 52) (tgt := 64) dX10_told_52 (by decide) (by omega) (fun c_52 => ?_) (fun c_52 => ?_)
          · refine zV_aload_n (pc := 64) (i := 0) dX10_told_64 rfl rfl ?_
            refine zV_get (pc := 65) (j := 11) dX10_told_65 flX10_32 (zOb_of rfl) rfl hS.e58_11 ?_
            refine zV_iload_n (pc := 68) (i := 1) dX10_told_68 rfl rfl ?_
            refine zV_iald (pc := 69) dX10_told_69 (zAr_of rfl : zAr 75 65 0 6) (by omega) rfl ?_
            refine zV_iret (pc := 70) dX10_told_70 trivial ⟨Nat.zero_le _, Nat.zero_le _⟩ ?_
            refine zPe (Eq.trans ?_ (zif_t ⟨c_5, c_17⟩).symm)
            show _ = M (62 + k) i
            first
              | rw [show k = 0 by omega]; rfl
              | rw [show k = 1 by omega]; rfl
              | rw [show k = 2 by omega]; rfl
              | rw [show k = 3 by omega]; rfl
          · refine zV_aload_n (pc := 55) (i := 0) dX10_told_55 rfl rfl ?_
            refine zV_get (pc := 56) (j := 10) dX10_told_56 flX10_29 (zOb_of rfl) rfl hS.e58_10 ?_
            refine zV_iload_n (pc := 59) (i := 1) dX10_told_59 rfl rfl ?_
            refine zV_iald (pc := 60) dX10_told_60 (zAr_of rfl : zAr 75 64 0 6) (by omega) rfl ?_
            refine zV_goto (pc := 61) (tgt := 70) dX10_told_61 (by decide) ?_
            refine zV_iret (pc := 70) dX10_told_70 trivial ⟨Nat.zero_le _, Nat.zero_le _⟩ ?_
            refine zPe (Eq.trans ?_ (zif_t ⟨c_5, c_17⟩).symm)
            show _ = M (62 + k) i
            first
              | rw [show k = 0 by omega]; rfl
              | rw [show k = 1 by omega]; rfl
              | rw [show k = 2 by omega]; rfl
              | rw [show k = 3 by omega]; rfl
        · refine zV_aload_n (pc := 41) (i := 0) dX10_told_41 rfl rfl ?_
          refine zV_get (pc := 42) (j := 9) dX10_told_42 flX10_26 (zOb_of rfl) rfl hS.e58_9 ?_
          refine zV_iload_n (pc := 45) (i := 1) dX10_told_45 rfl rfl ?_
          refine zV_iald (pc := 46) dX10_told_46 (zAr_of rfl : zAr 75 63 0 6) (by omega) rfl ?_
          refine zV_goto (pc := 47) (tgt := 70) dX10_told_47 (by decide) ?_
          refine zV_iret (pc := 70) dX10_told_70 trivial ⟨Nat.zero_le _, Nat.zero_le _⟩ ?_
          refine zPe (Eq.trans ?_ (zif_t ⟨c_5, c_17⟩).symm)
          show _ = M (62 + k) i
          first
            | rw [show k = 0 by omega]; rfl
            | rw [show k = 1 by omega]; rfl
            | rw [show k = 2 by omega]; rfl
            | rw [show k = 3 by omega]; rfl
      · refine zV_aload_n (pc := 27) (i := 0) dX10_told_27 rfl rfl ?_
        refine zV_get (pc := 28) (j := 8) dX10_told_28 flX10_23 (zOb_of rfl) rfl hS.e58_8 ?_
        refine zV_iload_n (pc := 31) (i := 1) dX10_told_31 rfl rfl ?_
        refine zV_iald (pc := 32) dX10_told_32 (zAr_of rfl : zAr 75 62 0 6) (by omega) rfl ?_
        refine zV_goto (pc := 33) (tgt := 70) dX10_told_33 (by decide) ?_
        refine zV_iret (pc := 70) dX10_told_70 trivial ⟨Nat.zero_le _, Nat.zero_le _⟩ ?_
        refine zPe (Eq.trans ?_ (zif_t ⟨c_5, c_17⟩).symm)
        show _ = M (62 + k) i
        first
          | rw [show k = 0 by omega]; rfl
          | rw [show k = 1 by omega]; rfl
          | rw [show k = 2 by omega]; rfl
          | rw [show k = 3 by omega]; rfl
    · refine zV_bipush (pc := 20) dX10_told_20 (by decide) ?_
      refine zV_iret (pc := 22) dX10_told_22 trivial ⟨Nat.zero_le _, Nat.zero_le _⟩ ?_
      first
        | exact zPe (zif_f (fun q => c_5 q.1)).symm
        | exact zPe (zif_f (fun q => c_17 q.2)).symm
set_option maxRecDepth 20000 in
set_option maxHeartbeats 2000000 in
theorem kX10_count {k : Int} (hk : -2147483648 ≤ k ∧ k ≤ 2147483647) : zK g yX10_count xX10_count [zr 58, zi k] 75 M (zPp (zi (if k = 0 then M 58 12 else if k = 1 then M 58 7 else if k = 2 then M 58 3 else if k = 3 then M 58 6 else if k = 4 then M 58 4 else -2)) 75 M) := by
  refine zK_of (ls0 := [zr 58, zi k]) (by decide) rfl (by decide) rfl (Nat.le_of_ble_eq_true rfl) ?_
  refine zV_iload_n (pc := 0) (i := 1) dX10_count_0 rfl rfl ?_
  refine zV_i2l (pc := 1) dX10_count_1 (by omega) ?_
  refine zV_lconst0 (pc := 2) dX10_count_2 ?_
  refine zV_ldc2 (pc := 3) dX10_count_3 kiX10_450 ?_
  refine zV_isp (pc := 6) dX10_count_6 klX10_76 mX10_in rfl ⟨Nat.zero_le _, Nat.zero_le _⟩ (kX10_in (by omega) (by omega) (by omega)) rfl rfl (Nat.le_of_ble_eq_true rfl) ?_
  refine zV_if_neb (pc := 9) (tgt := 15) dX10_count_9 (by decide) (fun c_9 => ?_) (fun c_9 => ?_)
  · refine zV_iload_n (pc := 15) (i := 1) dX10_count_15 rfl rfl ?_
    refine zV_if_ne (pc := 16) (tgt := 26) dX10_count_16 (by decide) (by omega) (fun c_16 => ?_) (fun c_16 => ?_)
    · refine zV_iload_n (pc := 26) (i := 1) dX10_count_26 rfl rfl ?_
      refine zV_iconst (pc := 27) dX10_count_27 ?_
      refine zV_icmp_ne (pc := 28) (tgt := 38) dX10_count_28 (by decide) (by omega) (fun c_28 => ?_) (fun c_28 => ?_)
      · refine zV_iload_n (pc := 38) (i := 1) dX10_count_38 rfl rfl ?_
        refine zV_iconst (pc := 39) dX10_count_39 ?_
        refine zV_icmp_ne (pc := 40) (tgt := 50) dX10_count_40 (by decide) (by omega) (fun c_40 => ?_) (fun c_40 => ?_)
        · refine zV_iload_n (pc := 50) (i := 1) dX10_count_50 rfl rfl ?_
          refine zV_iconst (pc := 51) dX10_count_51 ?_
          refine zV_icmp_ne (pc := 52) (tgt := 62) dX10_count_52 (by decide) (by omega) (fun c_52 => ?_) (fun c_52 => ?_)
          · refine zV_aload_n (pc := 62) (i := 0) dX10_count_62 rfl rfl ?_
            refine zV_get (pc := 63) (j := 4) dX10_count_63 flX10_329 (zOb_of rfl) rfl rfl ?_
            refine zV_iret (pc := 66) dX10_count_66 trivial ⟨Nat.zero_le _, Nat.zero_le _⟩ ?_
            first
              | exact zPe (by rw [if_pos (by omega)])
              | exact zPe (by rw [if_neg (by omega), if_pos (by omega)])
              | exact zPe (by rw [if_neg (by omega), if_neg (by omega), if_pos (by omega)])
              | exact zPe (by rw [if_neg (by omega), if_neg (by omega), if_neg (by omega), if_pos (by omega)])
              | exact zPe (by rw [if_neg (by omega), if_neg (by omega), if_neg (by omega), if_neg (by omega), if_pos (by omega)])
              | exact zPe (by rw [if_neg (by omega), if_neg (by omega), if_neg (by omega), if_neg (by omega), if_neg (by omega)])
          · refine zV_aload_n (pc := 55) (i := 0) dX10_count_55 rfl rfl ?_
            refine zV_get (pc := 56) (j := 6) dX10_count_56 flX10_124 (zOb_of rfl) rfl rfl ?_
            refine zV_goto (pc := 59) (tgt := 66) dX10_count_59 (by decide) ?_
            refine zV_iret (pc := 66) dX10_count_66 trivial ⟨Nat.zero_le _, Nat.zero_le _⟩ ?_
            first
              | exact zPe (by rw [if_pos (by omega)])
              | exact zPe (by rw [if_neg (by omega), if_pos (by omega)])
              | exact zPe (by rw [if_neg (by omega), if_neg (by omega), if_pos (by omega)])
              | exact zPe (by rw [if_neg (by omega), if_neg (by omega), if_neg (by omega), if_pos (by omega)])
              | exact zPe (by rw [if_neg (by omega), if_neg (by omega), if_neg (by omega), if_neg (by omega), if_pos (by omega)])
              | exact zPe (by rw [if_neg (by omega), if_neg (by omega), if_neg (by omega), if_neg (by omega), if_neg (by omega)])
        · refine zV_aload_n (pc := 43) (i := 0) dX10_count_43 rfl rfl ?_
          refine zV_get (pc := 44) (j := 3) dX10_count_44 flX10_70 (zOb_of rfl) rfl rfl ?_
          refine zV_goto (pc := 47) (tgt := 66) dX10_count_47 (by decide) ?_
          refine zV_iret (pc := 66) dX10_count_66 trivial ⟨Nat.zero_le _, Nat.zero_le _⟩ ?_
          first
            | exact zPe (by rw [if_pos (by omega)])
            | exact zPe (by rw [if_neg (by omega), if_pos (by omega)])
            | exact zPe (by rw [if_neg (by omega), if_neg (by omega), if_pos (by omega)])
            | exact zPe (by rw [if_neg (by omega), if_neg (by omega), if_neg (by omega), if_pos (by omega)])
            | exact zPe (by rw [if_neg (by omega), if_neg (by omega), if_neg (by omega), if_neg (by omega), if_pos (by omega)])
            | exact zPe (by rw [if_neg (by omega), if_neg (by omega), if_neg (by omega), if_neg (by omega), if_neg (by omega)])
      · refine zV_aload_n (pc := 31) (i := 0) dX10_count_31 rfl rfl ?_
        refine zV_get (pc := 32) (j := 7) dX10_count_32 flX10_96 (zOb_of rfl) rfl rfl ?_
        refine zV_goto (pc := 35) (tgt := 66) dX10_count_35 (by decide) ?_
        refine zV_iret (pc := 66) dX10_count_66 trivial ⟨Nat.zero_le _, Nat.zero_le _⟩ ?_
        first
          | exact zPe (by rw [if_pos (by omega)])
          | exact zPe (by rw [if_neg (by omega), if_pos (by omega)])
          | exact zPe (by rw [if_neg (by omega), if_neg (by omega), if_pos (by omega)])
          | exact zPe (by rw [if_neg (by omega), if_neg (by omega), if_neg (by omega), if_pos (by omega)])
          | exact zPe (by rw [if_neg (by omega), if_neg (by omega), if_neg (by omega), if_neg (by omega), if_pos (by omega)])
          | exact zPe (by rw [if_neg (by omega), if_neg (by omega), if_neg (by omega), if_neg (by omega), if_neg (by omega)])
    · refine zV_aload_n (pc := 19) (i := 0) dX10_count_19 rfl rfl ?_
      refine zV_get (pc := 20) (j := 12) dX10_count_20 flX10_73 (zOb_of rfl) rfl rfl ?_
      refine zV_goto (pc := 23) (tgt := 66) dX10_count_23 (by decide) ?_
      refine zV_iret (pc := 66) dX10_count_66 trivial ⟨Nat.zero_le _, Nat.zero_le _⟩ ?_
      first
        | exact zPe (by rw [if_pos (by omega)])
        | exact zPe (by rw [if_neg (by omega), if_pos (by omega)])
        | exact zPe (by rw [if_neg (by omega), if_neg (by omega), if_pos (by omega)])
        | exact zPe (by rw [if_neg (by omega), if_neg (by omega), if_neg (by omega), if_pos (by omega)])
        | exact zPe (by rw [if_neg (by omega), if_neg (by omega), if_neg (by omega), if_neg (by omega), if_pos (by omega)])
        | exact zPe (by rw [if_neg (by omega), if_neg (by omega), if_neg (by omega), if_neg (by omega), if_neg (by omega)])
  · refine zV_bipush (pc := 12) dX10_count_12 (by decide) ?_
    refine zV_iret (pc := 14) dX10_count_14 trivial ⟨Nat.zero_le _, Nat.zero_le _⟩ ?_
    first
      | exact zPe (by rw [if_pos (by omega)])
      | exact zPe (by rw [if_neg (by omega), if_pos (by omega)])
      | exact zPe (by rw [if_neg (by omega), if_neg (by omega), if_pos (by omega)])
      | exact zPe (by rw [if_neg (by omega), if_neg (by omega), if_neg (by omega), if_pos (by omega)])
      | exact zPe (by rw [if_neg (by omega), if_neg (by omega), if_neg (by omega), if_neg (by omega), if_pos (by omega)])
      | exact zPe (by rw [if_neg (by omega), if_neg (by omega), if_neg (by omega), if_neg (by omega), if_neg (by omega)])
set_option maxRecDepth 20000 in
set_option maxHeartbeats 2000000 in
theorem kX10_force (hc : 1 ≤ M 58 3 ∧ M 58 3 ≤ 6) {t : Int} (ht : -2147483648 ≤ t ∧ t ≤ 2147483647) : zK g yX10_force xX10_force [zr 58, zi t] 75 M (fun w N' M' => N' = 75 ∧ (((0 ≤ t ∧ t ≤ M 58 3 - 1) ∧ w = some (zi (M 58 4)) ∧ M' = zU M 58 4 t) ∨ (¬ (0 ≤ t ∧ t ≤ M 58 3 - 1) ∧ w = some (zi (-2)) ∧ M' = M))) := by
  refine zK_of (ls0 := [zr 58, zi t, (3, 0)]) (by decide) rfl (by decide) rfl (Nat.le_of_ble_eq_true rfl) ?_
  refine zV_iload_n (pc := 0) (i := 1) dX10_force_0 rfl rfl ?_
  refine zV_i2l (pc := 1) dX10_force_1 (by omega) ?_
  refine zV_lconst0 (pc := 2) dX10_force_2 ?_
  refine zV_aload_n (pc := 3) (i := 0) dX10_force_3 rfl rfl ?_
  refine zV_get (pc := 4) (j := 3) dX10_force_4 flX10_70 (zOb_of rfl) rfl rfl ?_
  refine zV_iconst (pc := 7) dX10_force_7 ?_
  refine zV_isub (pc := 8) dX10_force_8 ?_
  refine zV_i2l (pc := 9) dX10_force_9 (by omega) ?_
  refine zV_isp (pc := 10) dX10_force_10 klX10_76 mX10_in rfl ⟨Nat.zero_le _, Nat.zero_le _⟩ (kX10_in (by omega) (by omega) (by omega)) rfl rfl (Nat.le_of_ble_eq_true rfl) ?_
  refine zV_if_neb (pc := 13) (tgt := 19) dX10_force_13 (by decide) (fun c_13 => ?_) (fun c_13 => ?_)
  · refine zV_aload_n (pc := 19) (i := 0) dX10_force_19 rfl rfl ?_
    refine zV_get (pc := 20) (j := 4) dX10_force_20 flX10_329 (zOb_of rfl) rfl rfl ?_
    refine zV_istore_n (pc := 23) (i := 2) dX10_force_23 rfl rfl ?_
    try dsimp only [List.set_cons_succ, List.set_cons_zero]
    refine zV_aload_n (pc := 24) (i := 0) dX10_force_24 rfl rfl ?_
    refine zV_iload_n (pc := 25) (i := 1) dX10_force_25 rfl rfl ?_
    refine zV_put (pc := 26) (j := 4) dX10_force_26 flX10_329 rfl (zOb_of rfl) rfl trivial ?_
    refine zV_iload_n (pc := 29) (i := 2) dX10_force_29 rfl rfl ?_
    refine zV_iret (pc := 30) dX10_force_30 trivial ⟨Nat.zero_le _, Nat.zero_le _⟩ ?_
    first
      | exact ⟨rfl, Or.inl ⟨c_13, rfl, rfl⟩⟩
      | exact ⟨rfl, Or.inr ⟨c_13, rfl, rfl⟩⟩
  · refine zV_bipush (pc := 16) dX10_force_16 (by decide) ?_
    refine zV_iret (pc := 18) dX10_force_18 trivial ⟨Nat.zero_le _, Nat.zero_le _⟩ ?_
    first
      | exact ⟨rfl, Or.inl ⟨c_13, rfl, rfl⟩⟩
      | exact ⟨rfl, Or.inr ⟨c_13, rfl, rfl⟩⟩
set_option maxRecDepth 20000 in
set_option maxHeartbeats 2000000 in
theorem kX10_over {v : Int} (hv : 0 ≤ v ∧ v ≤ 5) : zK g yX10_over xX10_over [zi v] N M (zPp (zi (zab v)) N M) := by
  refine zK_of (ls0 := [zi v]) (by decide) rfl (by decide) rfl (Nat.le_of_ble_eq_true rfl) ?_
  refine zV_iload_n (pc := 0) (i := 0) dX10_over_0 rfl rfl ?_
  refine zV_if_ne (pc := 1) (tgt := 8) dX10_over_1 (by decide) (by omega) (fun c_1 => ?_) (fun c_1 => ?_)
  · refine zV_iload_n (pc := 8) (i := 0) dX10_over_8 rfl rfl ?_
    refine zV_iconst (pc := 9) dX10_over_9 ?_
    refine zV_icmp_ne (pc := 10) (tgt := 17) dX10_over_10 (by decide) (by omega) (fun c_10 => ?_) (fun c_10 => ?_)
    · refine zV_iload_n (pc := 17) (i := 0) dX10_over_17 rfl rfl ?_
      refine zV_iconst (pc := 18) dX10_over_18 ?_
      refine zV_icmp_ne (pc := 19) (tgt := 26) dX10_over_19 (by decide) (by omega) (fun c_19 => ?_) (fun c_19 => ?_)
      · refine zV_iconst (pc := 26) dX10_over_26 ?_
        refine zV_iret (pc := 27) dX10_over_27 trivial ⟨Nat.zero_le _, Nat.zero_le _⟩ ?_
        exact zPe (by unfold zab; first | (rw [if_pos (by omega)]) | (rw [if_neg (by omega), if_pos (by omega)]) | (rw [if_neg (by omega), if_neg (by omega), if_pos (by omega)]) | (rw [if_neg (by omega), if_neg (by omega), if_neg (by omega)]))
      · refine zV_iconst (pc := 22) dX10_over_22 ?_
        refine zV_goto (pc := 23) (tgt := 27) dX10_over_23 (by decide) ?_
        refine zV_iret (pc := 27) dX10_over_27 trivial ⟨Nat.zero_le _, Nat.zero_le _⟩ ?_
        exact zPe (by unfold zab; first | (rw [if_pos (by omega)]) | (rw [if_neg (by omega), if_pos (by omega)]) | (rw [if_neg (by omega), if_neg (by omega), if_pos (by omega)]) | (rw [if_neg (by omega), if_neg (by omega), if_neg (by omega)]))
    · refine zV_iconst (pc := 13) dX10_over_13 ?_
      refine zV_goto (pc := 14) (tgt := 27) dX10_over_14 (by decide) ?_
      refine zV_iret (pc := 27) dX10_over_27 trivial ⟨Nat.zero_le _, Nat.zero_le _⟩ ?_
      exact zPe (by unfold zab; first | (rw [if_pos (by omega)]) | (rw [if_neg (by omega), if_pos (by omega)]) | (rw [if_neg (by omega), if_neg (by omega), if_pos (by omega)]) | (rw [if_neg (by omega), if_neg (by omega), if_neg (by omega)]))
  · refine zV_iconst (pc := 4) dX10_over_4 ?_
    refine zV_goto (pc := 5) (tgt := 27) dX10_over_5 (by decide) ?_
    refine zV_iret (pc := 27) dX10_over_27 trivial ⟨Nat.zero_le _, Nat.zero_le _⟩ ?_
    exact zPe (by unfold zab; first | (rw [if_pos (by omega)]) | (rw [if_neg (by omega), if_pos (by omega)]) | (rw [if_neg (by omega), if_neg (by omega), if_pos (by omega)]) | (rw [if_neg (by omega), if_neg (by omega), if_neg (by omega)]))
end
