/-! THE MODEL: rounds (printed by wip/whole/p63.py) -/
theorem z_lor1 : ∀ n : Nat, n < 60 → Int64.ofInt (2 ^ n - 1) ||| Int64.ofInt (2 ^ n) = Int64.ofInt (2 ^ (n + 1) - 1) := by decide +kernel
theorem z_lor0 (x : Int) : Int64.ofInt x ||| Int64.ofInt 0 = Int64.ofInt x := Int64.or_zero
theorem z_0lor (x : Int) : Int64.ofInt 0 ||| Int64.ofInt x = Int64.ofInt x := Int64.zero_or
theorem z_lshl0 {y : Int} (h : 0 ≤ y ∧ y < 63) : Int64.ofInt 0 <<< ((Int32.ofInt y).toInt64 &&& 63) = Int64.ofInt 0 := by
  have k : ∀ n : Nat, n < 63 → Int64.ofInt 0 <<< ((nI n).toInt64 &&& 63) = Int64.ofInt 0 := by decide +kernel
  rw [zo_n h.1]
  exact k _ (by omega)
/-- the periods below p -/
noncomputable def zpa (R : Int → Int) (m p : Int) : Int := if m < 2 then 2 ^ (p - 1).toNat - 1 else zif (zev R m (R 1 - R 0) ∧ 1 ≤ R 1 - R 0 ∧ R 1 - R 0 < p) (2 ^ (R 1 - R 0 - 1).toNat) 0
theorem zif_c {q r : Prop} {a b : Int} (h : q ↔ r) : zif q a b = zif r a b := by rw [propext h]
theorem zpa_1 {R : Int → Int} {m : Int} : zpa R m 1 = 0 := by
  unfold zpa
  split
  · rfl
  · exact zif_f (fun y => by omega)
theorem zpa_t {R : Int → Int} {m p : Int} (hp : 1 ≤ p ∧ p ≤ 60) (h : zev R m p) : Int64.ofInt (zpa R m p) ||| Int64.ofInt (2 ^ (p - 1).toNat) = Int64.ofInt (zpa R m (p + 1)) := by
  unfold zpa
  by_cases c : m < 2
  · rw [if_pos c, if_pos c, show (p + 1 - 1).toNat = (p - 1).toNat + 1 by omega]
    exact z_lor1 _ (by omega)
  · rw [if_neg c, if_neg c]
    have e : R 1 - R 0 = p := h 1 (by decide) (by omega)
    rw [zif_f (fun y => by omega), z_0lor, zif_t ⟨by rw [e]; exact h, by omega, by omega⟩, e]
theorem zpa_f {R : Int → Int} {m p : Int} (h : ¬ zev R m p) : zpa R m p = zpa R m (p + 1) := by
  unfold zpa
  have c : ¬ m < 2 := fun c => h (fun j j0 j1 => by omega)
  rw [if_neg c, if_neg c]
  refine zif_c ⟨fun y => ⟨y.1, y.2.1, by omega⟩, fun y => ⟨y.1, y.2.1, ?_⟩⟩
  by_cases e : R 1 - R 0 = p
  · rw [e] at y
    exact absurd y.1 h
  · omega
theorem zpa_e {R : Int → Int} {m : Int} : zpa R m 61 = zper R m := by
  unfold zpa zper
  split
  · rfl
  · exact zif_c ⟨fun y => ⟨y.1, y.2.1, by omega⟩, fun y => ⟨y.1, y.2.1, by omega⟩⟩
theorem zbh_b {b p : Int} (h : 1 ≤ p) : zbh b b p := ⟨by omega, by omega, by rw [Int.sub_self]; exact Int.zero_emod p⟩
theorem zbh_s {x b p : Int} (h : zbh x b p) : zbh (x + p) b p := by
  obtain ⟨h1, h2, h3⟩ := h
  refine ⟨by omega, h2, ?_⟩
  rw [show x + p - b = (x - b) + p by omega, Int.add_emod, h3, Int.emod_self]
  rfl
theorem zbh_u {x d b p : Int} (hx : zbh x b p) (hd : zbh d b p) (h1 : x ≤ d) (h2 : d < x + p) : d = x := by
  have e : (d - x) % p = 0 := by
    rw [show d - x = (d - b) - (x - b) by omega, Int.sub_emod, hd.2.2, hx.2.2]
    rfl
  rw [Int.emod_eq_of_lt (by omega) (by omega)] at e
  omega
theorem zbh_e {b p e : Int} (hp : 1 ≤ p) (he : 0 ≤ e) : zbh (b + e * p) b p := by
  have := Int.mul_nonneg he (show 0 ≤ p by omega)
  refine ⟨by omega, by omega, ?_⟩
  rw [show b + e * p - b = e * p by omega]
  exact Int.mul_emod_left e p
theorem zbh_i {d b p : Int} (h : zbh d b p) : ∃ e : Int, 0 ≤ e ∧ d = b + e * p := by
  refine ⟨(d - b) / p, Int.ediv_nonneg (by have := h.1; omega) (by have := h.2.1; omega), ?_⟩
  have := Int.emod_def (d - b) p
  rw [h.2.2, Int.mul_comm] at this
  omega
/-- told, as 0 or 1 -/
noncomputable def zft (R : Int → Int) (m : Int) : Int → Int := fun d => zb (∃ j : Int, (0 ≤ j ∧ j < m) ∧ R j = d)
theorem zft_dt (R : Int → Int) (m : Int) : zdt R m (zft R m) := fun d _ _ => ⟨zb_01 _, zb_1⟩
theorem ztr_i {R : Int → Int} {m l b p : Int} (hp : 1 ≤ p) : ztr (zft R m) l b p ↔ ∀ d : Int, zbh d b p → d ≤ l → ∃ j : Int, (0 ≤ j ∧ j < m) ∧ R j = d := by
  constructor
  · intro h d hd hl
    obtain ⟨e, e0, rfl⟩ := zbh_i hd
    exact zb_1.mp (h e e0 hl)
  · intro h e e0 hl
    exact zb_1.mpr (h _ (zbh_e hp e0) hl)
/-- the first told day that Q does not hold -/
noncomputable def zfg (Q : Int → Prop) (R : Int → Int) : Int → Nat → Int
  | _, 0 => -1
  | i, k + 1 => zif (Q (R i)) (zfg Q R (i + 1) k) (R i)
theorem zfg_c {Q Q' : Int → Prop} {R : Int → Int} : ∀ (k : Nat) (i : Int), (∀ j : Int, i ≤ j → j < i + k → (Q (R j) ↔ Q' (R j))) → zfg Q R i k = zfg Q' R i k := by
  intro k
  induction k with
  | zero => exact fun _ _ => rfl
  | succ k ih =>
    intro i h
    show zif (Q (R i)) (zfg Q R (i + 1) k) (R i) = zif (Q' (R i)) (zfg Q' R (i + 1) k) (R i)
    rw [ih (i + 1) (fun j j0 j1 => h j (by omega) (by omega)), zif_c (h i (by omega) (by omega))]
theorem zfg_o {R : Int → Int} {b p : Int} : ∀ (k : Nat) (i : Int), zfg (fun d => zbh d b p) R i k = zfo R b p i k := by
  intro k
  induction k with
  | zero => exact fun _ => rfl
  | succ k ih =>
    intro i
    show zif (zbh (R i) b p) (zfg _ R (i + 1) k) (R i) = zif (zbh (R i) b p) (zfo R b p (i + 1) k) (R i)
    rw [ih]
theorem zfg_n {Q : Int → Prop} {R : Int → Int} : ∀ (k : Nat) (i : Int), (∀ j : Int, i ≤ j → j < i + k → 0 ≤ R j) → (zfg Q R i k = -1 ↔ ∀ j : Int, i ≤ j → j < i + k → Q (R j)) := by
  intro k
  induction k with
  | zero => exact fun i _ => ⟨fun _ j j0 j1 => by omega, fun _ => rfl⟩
  | succ k ih =>
    intro i h
    have h2 := ih (i + 1) (fun j j0 j1 => h j (by omega) (by omega))
    show zif (Q (R i)) (zfg Q R (i + 1) k) (R i) = -1 ↔ _
    by_cases c : Q (R i)
    · rw [zif_t c, h2]
      refine ⟨fun y j j0 j1 => ?_, fun y j j0 j1 => y j (by omega) (by omega)⟩
      by_cases e : j = i
      · rw [e]
        exact c
      · exact y j (by omega) (by omega)
    · rw [zif_f c]
      exact ⟨fun y => by have := h i (by omega) (by omega); omega, fun y => absurd (y i (by omega) (by omega)) c⟩
theorem zfg_b {Q : Int → Prop} {R : Int → Int} : ∀ (k : Nat) (i : Int), (∀ j : Int, i ≤ j → j < i + k → 0 ≤ R j ∧ R j < 400) → -1 ≤ zfg Q R i k ∧ zfg Q R i k < 400 := by
  intro k
  induction k with
  | zero => exact fun i _ => show (-1 : Int) ≤ -1 ∧ (-1 : Int) < 400 by decide
  | succ k ih =>
    intro i h
    have h2 := ih (i + 1) (fun j j0 j1 => h j (by omega) (by omega))
    have := h i (by omega) (by omega)
    show -1 ≤ zif (Q (R i)) (zfg Q R (i + 1) k) (R i) ∧ zif (Q (R i)) (zfg Q R (i + 1) k) (R i) < 400
    by_cases c : Q (R i)
    · rw [zif_t c]
      exact h2
    · rw [zif_f c]
      omega
section
variable {g : zG} {N : Nat} {M : zM}
set_option maxRecDepth 20000 in
set_option maxHeartbeats 2000000 in
theorem kX10_poI (hS : zSt M) {s : Int} {R : Int → Int} {m : Int} (hD : zDj s R m M) {P : zP} {p a : Int} (hp : 1 ≤ p ∧ p ≤ 60) : ∀ (k : Nat) (i v : Int), i + k = m → 1 ≤ i → v = zb (∀ j : Int, 1 ≤ j → j < i → R j - R (j - 1) = p) → zV g xX10_periodsOf (P) 79 [zr 58, zi s, zl a, (3, 0), zi p, zi (zb (zev R m p)), zi m] [] 75 M 0 0 → zV g xX10_periodsOf (P) 18 [zr 58, zi s, zl a, (3, 0), zi p, zi v, zi i] [] 75 M 0 0 := by
  intro k
  induction k with
  | zero =>
    intro i v h1 h2 h3 h4
    obtain ⟨hs, hm, ho, em, eR⟩ := id hD
    refine zV_iload (pc := 18) dX10_periodsOf_18 rfl ?_
    refine zV_aload_n (pc := 20) (i := 0) dX10_periodsOf_20 rfl rfl ?_
    refine zV_get (pc := 21) (j := 41) dX10_periodsOf_21 flX10_60 (zOb_of rfl) rfl hS.e58_41 ?_
    refine zV_iload_n (pc := 24) (i := 1) dX10_periodsOf_24 rfl rfl ?_
    refine zV_iald (pc := 25) dX10_periodsOf_25 (zAr_of rfl : zAr 75 73 0 4) (by omega) rfl ?_
    refine zV_icmp_ge (pc := 26) (tgt := 79) dX10_periodsOf_26 (by decide) (by omega) (fun c_26 => ?_) (fun c_26 => absurd (by omega) c_26)
    have e : i = m := by omega
    subst e
    rw [h3]
    exact h4
  | succ k ih =>
    intro i v h1 h2 h3 h4
    obtain ⟨hs, hm, ho, em, eR⟩ := id hD
    refine zV_iload (pc := 18) dX10_periodsOf_18 rfl ?_
    refine zV_aload_n (pc := 20) (i := 0) dX10_periodsOf_20 rfl rfl ?_
    refine zV_get (pc := 21) (j := 41) dX10_periodsOf_21 flX10_60 (zOb_of rfl) rfl hS.e58_41 ?_
    refine zV_iload_n (pc := 24) (i := 1) dX10_periodsOf_24 rfl rfl ?_
    refine zV_iald (pc := 25) dX10_periodsOf_25 (zAr_of rfl : zAr 75 73 0 4) (by omega) rfl ?_
    refine zV_icmp_ge (pc := 26) (tgt := 79) dX10_periodsOf_26 (by decide) (by omega) (fun c_26 => absurd c_26 (by omega)) (fun c_26 => ?_)
    subst h3
    have hr1 := (ho i (by omega) (by omega)).1
    have hr2 := (ho (i - 1) (by omega) (by omega)).1
    refine zV_iload (pc := 29) dX10_periodsOf_29 rfl ?_
    refine zV_if_eqb (pc := 31) (tgt := 70) dX10_periodsOf_31 (by decide) (fun c_31 => ?_) (fun c_31 => ?_)
    · refine zV_iconst (pc := 70) dX10_periodsOf_70 ?_
      refine zV_istore (pc := 71) dX10_periodsOf_71 rfl ?_
      try dsimp only [List.set_cons_succ, List.set_cons_zero]
      refine zV_iinc (pc := 73) dX10_periodsOf_73 rfl rfl ?_
      try dsimp only [List.set_cons_succ, List.set_cons_zero]
      refine zV_goto (pc := 76) (tgt := 18) dX10_periodsOf_76 (by decide) ?_
      first
        | exact ih (i + 1) _ (by omega) (by omega) ((zb_f (fun q => c_31 (fun j j0 j1 => q j j0 (by omega)))).symm) h4
        | exact ih (i + 1) _ (by omega) (by omega) ((zb_f (fun q => c_63 (q i (by omega) (by omega)))).symm) h4
        | (refine ih (i + 1) _ (by omega) (by omega) ((zb_t (fun j j0 j1 => ?_)).symm) h4
           by_cases c : j = i
           · rw [c]; exact c_63
           · exact c_31 j j0 (by omega))
    · refine zV_aload_n (pc := 34) (i := 0) dX10_periodsOf_34 rfl rfl ?_
      refine zV_get (pc := 35) (j := 42) dX10_periodsOf_35 flX10_63 (zOb_of rfl) rfl hS.e58_42 ?_
      refine zV_bipush (pc := 38) dX10_periodsOf_38 (by decide) ?_
      refine zV_iload_n (pc := 40) (i := 1) dX10_periodsOf_40 rfl rfl ?_
      refine zV_imul (pc := 41) dX10_periodsOf_41 ?_
      refine zV_iload (pc := 42) dX10_periodsOf_42 rfl ?_
      refine zV_iadd (pc := 44) dX10_periodsOf_44 ?_
      refine zV_iald (pc := 45) dX10_periodsOf_45 (zAr_of rfl : zAr 75 74 0 160) (by omega) (show M 74 (40 * s + i) = R i from eR _ _ (by omega) (by omega) rfl) ?_
      refine zV_aload_n (pc := 46) (i := 0) dX10_periodsOf_46 rfl rfl ?_
      refine zV_get (pc := 47) (j := 42) dX10_periodsOf_47 flX10_63 (zOb_of rfl) rfl hS.e58_42 ?_
      refine zV_bipush (pc := 50) dX10_periodsOf_50 (by decide) ?_
      refine zV_iload_n (pc := 52) (i := 1) dX10_periodsOf_52 rfl rfl ?_
      refine zV_imul (pc := 53) dX10_periodsOf_53 ?_
      refine zV_iload (pc := 54) dX10_periodsOf_54 rfl ?_
      refine zV_iadd (pc := 56) dX10_periodsOf_56 ?_
      refine zV_iconst (pc := 57) dX10_periodsOf_57 ?_
      refine zV_isub (pc := 58) dX10_periodsOf_58 ?_
      refine zV_iald (pc := 59) dX10_periodsOf_59 (zAr_of rfl : zAr 75 74 0 160) (by omega) (show M 74 (40 * s + i - 1) = R (i - 1) from eR _ _ (by omega) (by omega) (by omega)) ?_
      refine zV_isub (pc := 60) dX10_periodsOf_60 ?_
      refine zV_iload (pc := 61) dX10_periodsOf_61 rfl ?_
      refine zV_icmp_ne (pc := 63) (tgt := 70) dX10_periodsOf_63 (by decide) (by omega) (fun c_63 => ?_) (fun c_63 => ?_)
      · refine zV_iconst (pc := 70) dX10_periodsOf_70 ?_
        refine zV_istore (pc := 71) dX10_periodsOf_71 rfl ?_
        try dsimp only [List.set_cons_succ, List.set_cons_zero]
        refine zV_iinc (pc := 73) dX10_periodsOf_73 rfl rfl ?_
        try dsimp only [List.set_cons_succ, List.set_cons_zero]
        refine zV_goto (pc := 76) (tgt := 18) dX10_periodsOf_76 (by decide) ?_
        first
          | exact ih (i + 1) _ (by omega) (by omega) ((zb_f (fun q => c_31 (fun j j0 j1 => q j j0 (by omega)))).symm) h4
          | exact ih (i + 1) _ (by omega) (by omega) ((zb_f (fun q => c_63 (q i (by omega) (by omega)))).symm) h4
          | (refine ih (i + 1) _ (by omega) (by omega) ((zb_t (fun j j0 j1 => ?_)).symm) h4
             by_cases c : j = i
             · rw [c]; exact c_63
             · exact c_31 j j0 (by omega))
      · refine zV_iconst (pc := 66) dX10_periodsOf_66 ?_
        refine zV_goto (pc := 67) (tgt := 71) dX10_periodsOf_67 (by decide) ?_
        refine zV_istore (pc := 71) dX10_periodsOf_71 rfl ?_
        try dsimp only [List.set_cons_succ, List.set_cons_zero]
        refine zV_iinc (pc := 73) dX10_periodsOf_73 rfl rfl ?_
        try dsimp only [List.set_cons_succ, List.set_cons_zero]
        refine zV_goto (pc := 76) (tgt := 18) dX10_periodsOf_76 (by decide) ?_
        first
          | exact ih (i + 1) _ (by omega) (by omega) ((zb_f (fun q => c_31 (fun j j0 j1 => q j j0 (by omega)))).symm) h4
          | exact ih (i + 1) _ (by omega) (by omega) ((zb_f (fun q => c_63 (q i (by omega) (by omega)))).symm) h4
          | (refine ih (i + 1) _ (by omega) (by omega) ((zb_t (fun j j0 j1 => ?_)).symm) h4
             by_cases c : j = i
             · rw [c]; exact c_63
             · exact c_31 j j0 (by omega))
set_option maxRecDepth 20000 in
set_option maxHeartbeats 2000000 in
theorem kX10_poP (hS : zSt M) {s : Int} {R : Int → Int} {m : Int} (hD : zDj s R m M) : ∀ (k : Nat) (p : Int) (w5 w6 : zv), p + k = 61 → 1 ≤ p → zV g xX10_periodsOf (zPp (zl (zper R m)) 75 M) 5 [zr 58, zi s, zl (zpa R m p), (3, 0), zi p, w5, w6] [] 75 M 0 0 := by
  intro k
  induction k with
  | zero =>
    intro p w5 w6 h1 h2
    obtain ⟨hs, hm, ho, em, eR⟩ := id hD
    refine zV_iload (pc := 5) dX10_periodsOf_5 rfl ?_
    refine zV_bipush (pc := 7) dX10_periodsOf_7 (by decide) ?_
    refine zV_icmp_gt (pc := 9) (tgt := 103) dX10_periodsOf_9 (by decide) (by omega) (fun c_9 => ?_) (fun c_9 => absurd (by omega) c_9)
    refine zV_lload_n (pc := 103) (i := 2) dX10_periodsOf_103 rfl rfl ?_
    refine zV_lret (pc := 104) dX10_periodsOf_104 trivial ⟨Nat.zero_le _, Nat.zero_le _⟩ ?_
    have e : p = 61 := by omega
    subst e
    exact ⟨by rw [zpa_e], rfl, rfl⟩
  | succ k ih =>
    intro p w5 w6 h1 h2
    obtain ⟨hs, hm, ho, em, eR⟩ := id hD
    refine zV_iload (pc := 5) dX10_periodsOf_5 rfl ?_
    refine zV_bipush (pc := 7) dX10_periodsOf_7 (by decide) ?_
    refine zV_icmp_gt (pc := 9) (tgt := 103) dX10_periodsOf_9 (by decide) (by omega) (fun c_9 => absurd c_9 (by omega)) (fun c_9 => ?_)
    refine zV_iconst (pc := 12) dX10_periodsOf_12 ?_
    refine zV_istore (pc := 13) dX10_periodsOf_13 rfl ?_
    try dsimp only [List.set_cons_succ, List.set_cons_zero]
    refine zV_iconst (pc := 15) dX10_periodsOf_15 ?_
    refine zV_istore (pc := 16) dX10_periodsOf_16 rfl ?_
    try dsimp only [List.set_cons_succ, List.set_cons_zero]
    refine kX10_poI hS hD (p := p) (a := zpa R m p) (by omega) (m - 1).toNat 1 1 (by omega) (by omega) (zb_t (fun j j0 j1 => absurd j0 (by omega))).symm ?_
    refine zV_lload_n (pc := 79) (i := 2) dX10_periodsOf_79 rfl rfl ?_
    refine zV_iload (pc := 80) dX10_periodsOf_80 rfl ?_
    refine zV_if_eqb (pc := 82) (tgt := 89) dX10_periodsOf_82 (by decide) (fun c_82 => ?_) (fun c_82 => ?_)
    · refine zV_lconst0 (pc := 89) dX10_periodsOf_89 ?_
      refine zV_iload (pc := 90) dX10_periodsOf_90 rfl ?_
      refine zV_iconst (pc := 92) dX10_periodsOf_92 ?_
      refine zV_isub (pc := 93) dX10_periodsOf_93 ?_
      first
        | refine zV_lshl (pc := 94) dX10_periodsOf_94 (zlshl (by omega)) ?_
        | refine zV_lshl (pc := 94) dX10_periodsOf_94 (z_lshl0 (by omega)) ?_
      first
        | refine zV_lor (pc := 95) dX10_periodsOf_95 (zpa_t (by omega) c_82) ?_
        | refine zV_lor (pc := 95) dX10_periodsOf_95 (z_lor0 _) ?_
      refine zV_lstore_n (pc := 96) (i := 2) dX10_periodsOf_96 rfl rfl ?_
      try dsimp only [List.set_cons_succ, List.set_cons_zero]
      refine zV_iinc (pc := 97) dX10_periodsOf_97 rfl rfl ?_
      try dsimp only [List.set_cons_succ, List.set_cons_zero]
      refine zV_goto (pc := 100) (tgt := 5) dX10_periodsOf_100 (by decide) ?_
      first
        | exact ih (p + 1) _ _ (by omega) (by omega)
        | (rw [zpa_f c_82]; exact ih (p + 1) _ _ (by omega) (by omega))
    · refine zV_lconst1 (pc := 85) dX10_periodsOf_85 ?_
      refine zV_goto (pc := 86) (tgt := 90) dX10_periodsOf_86 (by decide) ?_
      refine zV_iload (pc := 90) dX10_periodsOf_90 rfl ?_
      refine zV_iconst (pc := 92) dX10_periodsOf_92 ?_
      refine zV_isub (pc := 93) dX10_periodsOf_93 ?_
      first
        | refine zV_lshl (pc := 94) dX10_periodsOf_94 (zlshl (by omega)) ?_
        | refine zV_lshl (pc := 94) dX10_periodsOf_94 (z_lshl0 (by omega)) ?_
      first
        | refine zV_lor (pc := 95) dX10_periodsOf_95 (zpa_t (by omega) c_82) ?_
        | refine zV_lor (pc := 95) dX10_periodsOf_95 (z_lor0 _) ?_
      refine zV_lstore_n (pc := 96) (i := 2) dX10_periodsOf_96 rfl rfl ?_
      try dsimp only [List.set_cons_succ, List.set_cons_zero]
      refine zV_iinc (pc := 97) dX10_periodsOf_97 rfl rfl ?_
      try dsimp only [List.set_cons_succ, List.set_cons_zero]
      refine zV_goto (pc := 100) (tgt := 5) dX10_periodsOf_100 (by decide) ?_
      first
        | exact ih (p + 1) _ _ (by omega) (by omega)
        | (rw [zpa_f c_82]; exact ih (p + 1) _ _ (by omega) (by omega))
set_option maxRecDepth 20000 in
set_option maxHeartbeats 2000000 in
theorem kX10_periodsOf (hS : zSt M) {s : Int} {R : Int → Int} {m : Int} (hD : zDj s R m M) : zK g yX10_periodsOf xX10_periodsOf [zr 58, zi s] 75 M (zPp (zl (zper R m)) 75 M) := by
  refine zK_of (ls0 := [zr 58, zi s, (3, 0), (3, 0), (3, 0), (3, 0), (3, 0)]) (by decide) rfl (by decide) rfl (Nat.le_of_ble_eq_true rfl) ?_
  refine zV_lconst0 (pc := 0) dX10_periodsOf_0 ?_
  refine zV_lstore_n (pc := 1) (i := 2) dX10_periodsOf_1 rfl rfl ?_
  try dsimp only [List.set_cons_succ, List.set_cons_zero]
  refine zV_iconst (pc := 2) dX10_periodsOf_2 ?_
  refine zV_istore (pc := 3) dX10_periodsOf_3 rfl ?_
  try dsimp only [List.set_cons_succ, List.set_cons_zero]
  have e9 := kX10_poP (g := g) hS hD 60 1 (3, 0) (3, 0) (by decide) (by decide)
  rw [zpa_1] at e9
  exact e9
set_option maxRecDepth 20000 in
set_option maxHeartbeats 2000000 in
theorem kX10_mkL (hS : zSt M) {s : Int} {R : Int → Int} {m : Int} (hD : zDj s R m M) {b p : Int} (hb : 0 ≤ b ∧ b < 400) (hp : 1 ≤ p ∧ p ≤ 60) : ∀ (k : Nat) (x v : Int) (M1 : zM), R (m - 1) + 1 - x ≤ k → zbh x b p → (0 ≤ x ∧ x ≤ 460) → v = zb (∀ d : Int, zbh d b p → d < x → (∃ j : Int, (0 ≤ j ∧ j < m) ∧ R j = d)) → (∀ d : Int, zbh d b p → d < x → d ≤ R (m - 1)) → (∀ d : Int, 0 ≤ d → d < 400 → M1 69 d = zif (zbh d b p ∧ d < x) 1 (M 69 d)) → zFr (fun a _ => a = 69) M M1 → zV g xX10_marks (zPq (zi (zb (ztr (zft R m) (R (m - 1)) b p))) 75 (fun M1 => (∀ d : Int, 0 ≤ d → d < 400 → M1 69 d = zif (zbh d b p ∧ d ≤ R (m - 1)) 1 (M 69 d)) ∧ zFr (fun a _ => a = 69) M M1)) 6 [zr 58, zi s, zi b, zi p, zi v, zi x] [] 75 M1 0 0 := by
  intro k
  induction k with
  | zero =>
    intro x v M1 h1 h2 hx3 h3 h4 h6 h7
    obtain ⟨hs, hm, ho, em, eR⟩ := id hD
    have hl := (ho (m - 1) (by omega) (by omega)).1
    have hS1 := hS.fr h7 (by decide)
    have hD1 := hD.fr h7 (fun a j (y : a = 69) => by omega)
    refine zV_iload (pc := 6) dX10_marks_6 rfl ?_
    refine zV_aload_n (pc := 8) (i := 0) dX10_marks_8 rfl rfl ?_
    refine zV_iload_n (pc := 9) (i := 1) dX10_marks_9 rfl rfl ?_
    refine zV_ivp (pc := 10) (ci := 10) dX10_marks_10 klX10_402 mX10_lastOf ⟨by decide, rfl⟩ rfl ⟨Nat.zero_le _, Nat.zero_le _⟩ (kX10_lastOf hS1 hD1) (zOb_of rfl) rfl rfl (Nat.le_of_ble_eq_true rfl) ?_
    refine zV_icmp_gt (pc := 13) (tgt := 55) dX10_marks_13 (by decide) (by omega) (fun c_13 => ?_) (fun c_13 => absurd (by omega) c_13)
    refine zV_iload (pc := 55) dX10_marks_55 rfl ?_
    refine zV_iret (pc := 57) dX10_marks_57 (by rw [h3]; exact zok_b) ⟨Nat.zero_le _, Nat.zero_le _⟩ ?_
    refine ⟨congrArg (fun z => some (zi z)) (h3.trans (zb_c ?_)), rfl, fun d d0 d1 => (h6 d d0 d1).trans (zif_c ⟨fun y => ⟨y.1, h4 d y.1 y.2⟩, fun y => ⟨y.1, by omega⟩⟩), h7⟩
    rw [ztr_i (by omega)]
    exact ⟨fun y d d0 d1 => y d d0 (by omega), fun y d d0 d1 => y d d0 (h4 d d0 d1)⟩
  | succ k ih =>
    intro x v M1 h1 h2 hx3 h3 h4 h6 h7
    obtain ⟨hs, hm, ho, em, eR⟩ := id hD
    have hl := (ho (m - 1) (by omega) (by omega)).1
    have hS1 := hS.fr h7 (by decide)
    have hD1 := hD.fr h7 (fun a j (y : a = 69) => by omega)
    refine zV_iload (pc := 6) dX10_marks_6 rfl ?_
    refine zV_aload_n (pc := 8) (i := 0) dX10_marks_8 rfl rfl ?_
    refine zV_iload_n (pc := 9) (i := 1) dX10_marks_9 rfl rfl ?_
    refine zV_ivp (pc := 10) (ci := 10) dX10_marks_10 klX10_402 mX10_lastOf ⟨by decide, rfl⟩ rfl ⟨Nat.zero_le _, Nat.zero_le _⟩ (kX10_lastOf hS1 hD1) (zOb_of rfl) rfl rfl (Nat.le_of_ble_eq_true rfl) ?_
    refine zV_icmp_gt (pc := 13) (tgt := 55) dX10_marks_13 (by decide) (by omega) (fun c_13 => ?_) (fun c_13 => ?_)
    · refine zV_iload (pc := 55) dX10_marks_55 rfl ?_
      refine zV_iret (pc := 57) dX10_marks_57 (by rw [h3]; exact zok_b) ⟨Nat.zero_le _, Nat.zero_le _⟩ ?_
      refine ⟨congrArg (fun z => some (zi z)) (h3.trans (zb_c ?_)), rfl, fun d d0 d1 => (h6 d d0 d1).trans (zif_c ⟨fun y => ⟨y.1, h4 d y.1 y.2⟩, fun y => ⟨y.1, by omega⟩⟩), h7⟩
      rw [ztr_i (by omega)]
      exact ⟨fun y d d0 d1 => y d d0 (by omega), fun y d d0 d1 => y d d0 (h4 d d0 d1)⟩
    · refine zV_aload_n (pc := 16) (i := 0) dX10_marks_16 rfl rfl ?_
      refine zV_get (pc := 17) (j := 34) dX10_marks_17 flX10_44 (zOb_of rfl) rfl hS1.e58_34 ?_
      refine zV_iload (pc := 20) dX10_marks_20 rfl ?_
      refine zV_iconst (pc := 22) dX10_marks_22 ?_
      refine zV_zast (pc := 23) dX10_marks_23 (zAr_of rfl : zAr 75 69 1 400) (by omega) (by omega) ?_
      subst h3
      have f8 : zFr (fun a _ => a = 69) M (zU M1 69 x 1) := zFr.up h7 rfl
      have hS2 := hS.fr f8 (by decide)
      have hD2 := hD.fr f8 (fun a j (y : a = 69) => by omega)
      refine zV_iload (pc := 24) dX10_marks_24 rfl ?_
      refine zV_if_eqb (pc := 26) (tgt := 43) dX10_marks_26 (by decide) (fun c_26 => ?_) (fun c_26 => ?_)
      · refine zV_iconst (pc := 43) dX10_marks_43 ?_
        refine zV_istore (pc := 44) dX10_marks_44 rfl ?_
        try dsimp only [List.set_cons_succ, List.set_cons_zero]
        refine zV_iload (pc := 46) dX10_marks_46 rfl ?_
        refine zV_iload_n (pc := 48) (i := 3) dX10_marks_48 rfl rfl ?_
        refine zV_iadd (pc := 49) dX10_marks_49 ?_
        refine zV_istore (pc := 50) dX10_marks_50 rfl ?_
        try dsimp only [List.set_cons_succ, List.set_cons_zero]
        refine zV_goto (pc := 52) (tgt := 6) dX10_marks_52 (by decide) ?_
        refine ih (x + p) _ _ (by omega) (zbh_s h2) (by omega) ((zb_f (fun q => c_26 (fun d d0 d1 => q d d0 (by omega)))).symm) (fun d d0 d1 => ?_) (fun d d0 d1 => ?_) (zFr.up h7 rfl)
        · by_cases c : d < x
          · exact h4 d d0 c
          · rw [zbh_u h2 d0 (by omega) d1]; omega
        · by_cases c : d = x
          · subst c; rw [zU_s]; exact (zif_t ⟨h2, by omega⟩).symm
          · rw [zU_j _ _ _ _ c, h6 d d0 d1]; exact zif_c ⟨fun y => ⟨y.1, by omega⟩, fun y => ⟨y.1, by rcases (show d < x ∨ x ≤ d by omega) with q | q; exact q; exact absurd (zbh_u h2 y.1 q y.2) c⟩⟩
      · refine zV_aload_n (pc := 29) (i := 0) dX10_marks_29 rfl rfl ?_
        refine zV_iload_n (pc := 30) (i := 1) dX10_marks_30 rfl rfl ?_
        refine zV_iload (pc := 31) dX10_marks_31 rfl ?_
        refine zV_ivp (pc := 33) (ci := 10) dX10_marks_33 klX10_405 mX10_isTold ⟨by decide, rfl⟩ rfl ⟨Nat.zero_le _, Nat.zero_le _⟩ (kX10_isTold hS2 hD2 (d := x) (by omega)) (zOb_of rfl) rfl rfl (Nat.le_of_ble_eq_true rfl) ?_
        refine zV_if_eqb (pc := 36) (tgt := 43) dX10_marks_36 (by decide) (fun c_36 => ?_) (fun c_36 => ?_)
        · refine zV_iconst (pc := 43) dX10_marks_43 ?_
          refine zV_istore (pc := 44) dX10_marks_44 rfl ?_
          try dsimp only [List.set_cons_succ, List.set_cons_zero]
          refine zV_iload (pc := 46) dX10_marks_46 rfl ?_
          refine zV_iload_n (pc := 48) (i := 3) dX10_marks_48 rfl rfl ?_
          refine zV_iadd (pc := 49) dX10_marks_49 ?_
          refine zV_istore (pc := 50) dX10_marks_50 rfl ?_
          try dsimp only [List.set_cons_succ, List.set_cons_zero]
          refine zV_goto (pc := 52) (tgt := 6) dX10_marks_52 (by decide) ?_
          refine ih (x + p) _ _ (by omega) (zbh_s h2) (by omega) ((zb_f (fun q => c_36 (q x h2 (by omega)))).symm) (fun d d0 d1 => ?_) (fun d d0 d1 => ?_) (zFr.up h7 rfl)
          · by_cases c : d < x
            · exact h4 d d0 c
            · rw [zbh_u h2 d0 (by omega) d1]; omega
          · by_cases c : d = x
            · subst c; rw [zU_s]; exact (zif_t ⟨h2, by omega⟩).symm
            · rw [zU_j _ _ _ _ c, h6 d d0 d1]; exact zif_c ⟨fun y => ⟨y.1, by omega⟩, fun y => ⟨y.1, by rcases (show d < x ∨ x ≤ d by omega) with q | q; exact q; exact absurd (zbh_u h2 y.1 q y.2) c⟩⟩
        · refine zV_iconst (pc := 39) dX10_marks_39 ?_
          refine zV_goto (pc := 40) (tgt := 44) dX10_marks_40 (by decide) ?_
          refine zV_istore (pc := 44) dX10_marks_44 rfl ?_
          try dsimp only [List.set_cons_succ, List.set_cons_zero]
          refine zV_iload (pc := 46) dX10_marks_46 rfl ?_
          refine zV_iload_n (pc := 48) (i := 3) dX10_marks_48 rfl rfl ?_
          refine zV_iadd (pc := 49) dX10_marks_49 ?_
          refine zV_istore (pc := 50) dX10_marks_50 rfl ?_
          try dsimp only [List.set_cons_succ, List.set_cons_zero]
          refine zV_goto (pc := 52) (tgt := 6) dX10_marks_52 (by decide) ?_
          refine ih (x + p) _ _ (by omega) (zbh_s h2) (by omega) ((zb_t (fun d d0 d1 => by by_cases c : d < x; exact c_26 d d0 c; rw [zbh_u h2 d0 (by omega) d1]; exact c_36)).symm) (fun d d0 d1 => ?_) (fun d d0 d1 => ?_) (zFr.up h7 rfl)
          · by_cases c : d < x
            · exact h4 d d0 c
            · rw [zbh_u h2 d0 (by omega) d1]; omega
          · by_cases c : d = x
            · subst c; rw [zU_s]; exact (zif_t ⟨h2, by omega⟩).symm
            · rw [zU_j _ _ _ _ c, h6 d d0 d1]; exact zif_c ⟨fun y => ⟨y.1, by omega⟩, fun y => ⟨y.1, by rcases (show d < x ∨ x ≤ d by omega) with q | q; exact q; exact absurd (zbh_u h2 y.1 q y.2) c⟩⟩
set_option maxRecDepth 20000 in
set_option maxHeartbeats 2000000 in
theorem kX10_marks (hS : zSt M) {s : Int} {R : Int → Int} {m : Int} (hD : zDj s R m M) {b p : Int} (hb : 0 ≤ b ∧ b < 400) (hp : 1 ≤ p ∧ p ≤ 60) : zK g yX10_marks xX10_marks [zr 58, zi s, zi b, zi p] 75 M (zPq (zi (zb (ztr (zft R m) (R (m - 1)) b p))) 75 (fun M1 => (∀ d : Int, 0 ≤ d → d < 400 → M1 69 d = zif (zbh d b p ∧ d ≤ R (m - 1)) 1 (M 69 d)) ∧ zFr (fun a _ => a = 69) M M1)) := by
  refine zK_of (ls0 := [zr 58, zi s, zi b, zi p, (3, 0), (3, 0)]) (by decide) rfl (by decide) rfl (Nat.le_of_ble_eq_true rfl) ?_
  refine zV_iconst (pc := 0) dX10_marks_0 ?_
  refine zV_istore (pc := 1) dX10_marks_1 rfl ?_
  try dsimp only [List.set_cons_succ, List.set_cons_zero]
  refine zV_iload_n (pc := 3) (i := 2) dX10_marks_3 rfl rfl ?_
  refine zV_istore (pc := 4) dX10_marks_4 rfl ?_
  try dsimp only [List.set_cons_succ, List.set_cons_zero]
  exact kX10_mkL hS hD hb hp (R (m - 1) + 1).toNat b 1 M (by omega) (zbh_b hp.1) (by omega) (zb_t (fun d d0 d1 => absurd d0.1 (by omega))).symm (fun d d0 d1 => absurd d0.1 (by omega)) (fun d d0 d1 => (zif_f (fun y => absurd y.1.1 (by omega))).symm) zFr.rf
set_option maxRecDepth 20000 in
set_option maxHeartbeats 2000000 in
theorem kX10_flL (hS : zSt M) {s : Int} {R : Int → Int} {m : Int} (hD : zDj s R m M) {Q : Int → Prop} (hQ : ∀ d : Int, 0 ≤ d → d < 400 → M 69 d = zb (Q d)) : ∀ (k : Nat) (i : Int), i + k = m → 0 ≤ i → zfg Q R i k = zfg Q R 0 m.toNat → zV g xX10_firstLeft (zPp (zi (zfg Q R 0 m.toNat)) 75 M) 2 [zr 58, zi s, zi i] [] 75 M 0 0 := by
  intro k
  induction k with
  | zero =>
    intro i h0 h1 h2
    obtain ⟨hs, hm, ho, em, eR⟩ := id hD
    refine zV_iload_n (pc := 2) (i := 2) dX10_firstLeft_2 rfl rfl ?_
    refine zV_aload_n (pc := 3) (i := 0) dX10_firstLeft_3 rfl rfl ?_
    refine zV_get (pc := 4) (j := 41) dX10_firstLeft_4 flX10_60 (zOb_of rfl) rfl hS.e58_41 ?_
    refine zV_iload_n (pc := 7) (i := 1) dX10_firstLeft_7 rfl rfl ?_
    refine zV_iald (pc := 8) dX10_firstLeft_8 (zAr_of rfl : zAr 75 73 0 4) (by omega) rfl ?_
    refine zV_icmp_ge (pc := 9) (tgt := 49) dX10_firstLeft_9 (by decide) (by omega) (fun c_9 => ?_) (fun c_9 => absurd (by omega) c_9)
    refine zV_iconst (pc := 49) dX10_firstLeft_49 ?_
    refine zV_iret (pc := 50) dX10_firstLeft_50 trivial ⟨Nat.zero_le _, Nat.zero_le _⟩ ?_
    rw [← h2]
    exact zPe rfl
  | succ k ih =>
    intro i h0 h1 h2
    obtain ⟨hs, hm, ho, em, eR⟩ := id hD
    refine zV_iload_n (pc := 2) (i := 2) dX10_firstLeft_2 rfl rfl ?_
    refine zV_aload_n (pc := 3) (i := 0) dX10_firstLeft_3 rfl rfl ?_
    refine zV_get (pc := 4) (j := 41) dX10_firstLeft_4 flX10_60 (zOb_of rfl) rfl hS.e58_41 ?_
    refine zV_iload_n (pc := 7) (i := 1) dX10_firstLeft_7 rfl rfl ?_
    refine zV_iald (pc := 8) dX10_firstLeft_8 (zAr_of rfl : zAr 75 73 0 4) (by omega) rfl ?_
    refine zV_icmp_ge (pc := 9) (tgt := 49) dX10_firstLeft_9 (by decide) (by omega) (fun c_9 => absurd c_9 (by omega)) (fun c_9 => ?_)
    have hr := (ho i (by omega) (by omega)).1
    refine zV_aload_n (pc := 12) (i := 0) dX10_firstLeft_12 rfl rfl ?_
    refine zV_get (pc := 13) (j := 34) dX10_firstLeft_13 flX10_44 (zOb_of rfl) rfl hS.e58_34 ?_
    refine zV_aload_n (pc := 16) (i := 0) dX10_firstLeft_16 rfl rfl ?_
    refine zV_get (pc := 17) (j := 42) dX10_firstLeft_17 flX10_63 (zOb_of rfl) rfl hS.e58_42 ?_
    refine zV_bipush (pc := 20) dX10_firstLeft_20 (by decide) ?_
    refine zV_iload_n (pc := 22) (i := 1) dX10_firstLeft_22 rfl rfl ?_
    refine zV_imul (pc := 23) dX10_firstLeft_23 ?_
    refine zV_iload_n (pc := 24) (i := 2) dX10_firstLeft_24 rfl rfl ?_
    refine zV_iadd (pc := 25) dX10_firstLeft_25 ?_
    refine zV_iald (pc := 26) dX10_firstLeft_26 (zAr_of rfl : zAr 75 74 0 160) (by omega) (show M 74 (40 * s + i) = R i from eR _ _ h1 (by omega) rfl) ?_
    refine zV_zald (pc := 27) dX10_firstLeft_27 (zAr_of rfl : zAr 75 69 1 400) (by omega) (hQ _ (by omega) (by omega)) ?_
    refine zV_if_neb (pc := 28) (tgt := 43) dX10_firstLeft_28 (by decide) (fun c_28 => ?_) (fun c_28 => ?_)
    · refine zV_iinc (pc := 43) dX10_firstLeft_43 rfl rfl ?_
      try dsimp only [List.set_cons_succ, List.set_cons_zero]
      refine zV_goto (pc := 46) (tgt := 2) dX10_firstLeft_46 (by decide) ?_
      exact ih (i + 1) (by omega) (by omega) ((zif_t c_28).symm.trans h2)
    · refine zV_aload_n (pc := 31) (i := 0) dX10_firstLeft_31 rfl rfl ?_
      refine zV_get (pc := 32) (j := 42) dX10_firstLeft_32 flX10_63 (zOb_of rfl) rfl hS.e58_42 ?_
      refine zV_bipush (pc := 35) dX10_firstLeft_35 (by decide) ?_
      refine zV_iload_n (pc := 37) (i := 1) dX10_firstLeft_37 rfl rfl ?_
      refine zV_imul (pc := 38) dX10_firstLeft_38 ?_
      refine zV_iload_n (pc := 39) (i := 2) dX10_firstLeft_39 rfl rfl ?_
      refine zV_iadd (pc := 40) dX10_firstLeft_40 ?_
      refine zV_iald (pc := 41) dX10_firstLeft_41 (zAr_of rfl : zAr 75 74 0 160) (by omega) (show M 74 (40 * s + i) = R i from eR _ _ h1 (by omega) rfl) ?_
      refine zV_iret (pc := 42) dX10_firstLeft_42 trivial ⟨Nat.zero_le _, Nat.zero_le _⟩ ?_
      rw [← h2]
      exact zPe (zif_f c_28).symm
set_option maxRecDepth 20000 in
set_option maxHeartbeats 2000000 in
theorem kX10_firstLeft (hS : zSt M) {s : Int} {R : Int → Int} {m : Int} (hD : zDj s R m M) {Q : Int → Prop} (hQ : ∀ d : Int, 0 ≤ d → d < 400 → M 69 d = zb (Q d)) : zK g yX10_firstLeft xX10_firstLeft [zr 58, zi s] 75 M (zPp (zi (zfg Q R 0 m.toNat)) 75 M) := by
  refine zK_of (ls0 := [zr 58, zi s, (3, 0)]) (by decide) rfl (by decide) rfl (Nat.le_of_ble_eq_true rfl) ?_
  refine zV_iconst (pc := 0) dX10_firstLeft_0 ?_
  refine zV_istore_n (pc := 1) (i := 2) dX10_firstLeft_1 rfl rfl ?_
  try dsimp only [List.set_cons_succ, List.set_cons_zero]
  exact kX10_flL hS hD hQ m.toNat 0 (by have := hD.2.1; omega) (by omega) rfl
set_option maxRecDepth 20000 in
set_option maxHeartbeats 2000000 in
theorem kX10_mfL (hS : zSt M) {s : Int} {R : Int → Int} {m : Int} (hD : zDj s R m M) {p : Int} (hp : 1 ≤ p ∧ p ≤ 60) : ∀ (k : Nat) (i : Int) (M1 : zM), i + k = 400 → 0 ≤ i → (∀ d : Int, 0 ≤ d → d < i → M1 69 d = 0) → zFr (fun a _ => a = 69) M M1 → zV g xX10_marksFirst (zPq (zi (zb (ztr (zft R m) (R (m - 1)) (R 0) p))) 75 (fun M1 => (∀ d : Int, 0 ≤ d → d < 400 → M1 69 d = zb (zbh d (R 0) p ∧ d ≤ R (m - 1))) ∧ zFr (fun a _ => a = 69) M M1)) 2 [zr 58, zi s, zi p, zi i] [] 75 M1 0 0 := by
  intro k
  induction k with
  | zero =>
    intro i M1 h1 h2 h3 h4
    obtain ⟨hs, hm, ho, em, eR⟩ := id hD
    have hS1 := hS.fr h4 (by decide)
    have hD1 := hD.fr h4 (fun a j (y : a = 69) => by omega)
    have h00 := (ho 0 (by omega) (by omega)).1
    refine zV_iload_n (pc := 2) (i := 3) dX10_marksFirst_2 rfl rfl ?_
    refine zV_sipush (pc := 3) dX10_marksFirst_3 (by decide) ?_
    refine zV_icmp_ge (pc := 6) (tgt := 22) dX10_marksFirst_6 (by decide) (by omega) (fun c_6 => ?_) (fun c_6 => absurd (by omega) c_6)
    refine zV_aload_n (pc := 22) (i := 0) dX10_marksFirst_22 rfl rfl ?_
    refine zV_iload_n (pc := 23) (i := 1) dX10_marksFirst_23 rfl rfl ?_
    refine zV_aload_n (pc := 24) (i := 0) dX10_marksFirst_24 rfl rfl ?_
    refine zV_get (pc := 25) (j := 42) dX10_marksFirst_25 flX10_63 (zOb_of rfl) rfl hS1.e58_42 ?_
    refine zV_bipush (pc := 28) dX10_marksFirst_28 (by decide) ?_
    refine zV_iload_n (pc := 30) (i := 1) dX10_marksFirst_30 rfl rfl ?_
    refine zV_imul (pc := 31) dX10_marksFirst_31 ?_
    refine zV_iald (pc := 32) dX10_marksFirst_32 (zAr_of rfl : zAr 75 74 0 160) (by omega) (show M1 74 (40 * s) = R 0 from hD1.2.2.2.2 _ _ (by omega) (by omega) (by omega)) ?_
    refine zV_iload_n (pc := 33) (i := 2) dX10_marksFirst_33 rfl rfl ?_
    refine zV_ivq (pc := 34) (ci := 10) dX10_marksFirst_34 klX10_417 mX10_marks ⟨by decide, rfl⟩ rfl ⟨Nat.zero_le _, Nat.zero_le _⟩ (kX10_marks hS1 hD1 h00 hp) (zOb_of rfl) rfl rfl (Nat.le_of_ble_eq_true rfl) (fun M2 q => ?_)
    refine zV_iret (pc := 37) dX10_marksFirst_37 (by first | exact zok_b1 | exact zok_b0 | exact zok_b) ⟨Nat.zero_le _, Nat.zero_le _⟩ ?_
    refine ⟨rfl, rfl, fun d d0 d1 => (q.1 d d0 d1).trans ?_, h4.tr q.2⟩
    rw [h3 d d0 (by omega)]
    by_cases c : zbh d (R 0) p ∧ d ≤ R (m - 1)
    · rw [zif_t c, zb_t c]
    · rw [zif_f c, zb_f c]
  | succ k ih =>
    intro i M1 h1 h2 h3 h4
    obtain ⟨hs, hm, ho, em, eR⟩ := id hD
    have hS1 := hS.fr h4 (by decide)
    have hD1 := hD.fr h4 (fun a j (y : a = 69) => by omega)
    have h00 := (ho 0 (by omega) (by omega)).1
    refine zV_iload_n (pc := 2) (i := 3) dX10_marksFirst_2 rfl rfl ?_
    refine zV_sipush (pc := 3) dX10_marksFirst_3 (by decide) ?_
    refine zV_icmp_ge (pc := 6) (tgt := 22) dX10_marksFirst_6 (by decide) (by omega) (fun c_6 => absurd c_6 (by omega)) (fun c_6 => ?_)
    refine zV_aload_n (pc := 9) (i := 0) dX10_marksFirst_9 rfl rfl ?_
    refine zV_get (pc := 10) (j := 34) dX10_marksFirst_10 flX10_44 (zOb_of rfl) rfl hS1.e58_34 ?_
    refine zV_iload_n (pc := 13) (i := 3) dX10_marksFirst_13 rfl rfl ?_
    refine zV_iconst (pc := 14) dX10_marksFirst_14 ?_
    refine zV_zast (pc := 15) dX10_marksFirst_15 (zAr_of rfl : zAr 75 69 1 400) (by omega) (by omega) ?_
    refine zV_iinc (pc := 16) dX10_marksFirst_16 rfl rfl ?_
    try dsimp only [List.set_cons_succ, List.set_cons_zero]
    refine zV_goto (pc := 19) (tgt := 2) dX10_marksFirst_19 (by decide) ?_
    exact ih (i + 1) _ (by omega) (by omega) (zU_to (F := fun _ => 0) h3 rfl) (zFr.up h4 rfl)
set_option maxRecDepth 20000 in
set_option maxHeartbeats 2000000 in
theorem kX10_marksFirst (hS : zSt M) {s : Int} {R : Int → Int} {m : Int} (hD : zDj s R m M) {p : Int} (hp : 1 ≤ p ∧ p ≤ 60) : zK g yX10_marksFirst xX10_marksFirst [zr 58, zi s, zi p] 75 M (zPq (zi (zb (ztr (zft R m) (R (m - 1)) (R 0) p))) 75 (fun M1 => (∀ d : Int, 0 ≤ d → d < 400 → M1 69 d = zb (zbh d (R 0) p ∧ d ≤ R (m - 1))) ∧ zFr (fun a _ => a = 69) M M1)) := by
  refine zK_of (ls0 := [zr 58, zi s, zi p, (3, 0)]) (by decide) rfl (by decide) rfl (Nat.le_of_ble_eq_true rfl) ?_
  refine zV_iconst (pc := 0) dX10_marksFirst_0 ?_
  refine zV_istore_n (pc := 1) (i := 3) dX10_marksFirst_1 rfl rfl ?_
  try dsimp only [List.set_cons_succ, List.set_cons_zero]
  exact kX10_mfL hS hD hp 400 0 M (by omega) (by omega) (fun e e0 e1 => absurd e0 (by omega)) zFr.rf
end
