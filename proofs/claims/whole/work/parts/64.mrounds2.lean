/-! THE MODEL: two rounds, the call rounds (printed by wip/whole/p64.py) -/
section
variable {g : zG} {N : Nat} {M : zM}
theorem zdo_l {R : Int → Int} {m j : Int} (h : zdo R m) (j0 : 0 ≤ j) (j1 : j < m) : R j ≤ R (m - 1) := by
  have k : ∀ (n : Nat) (j : Int), 0 ≤ j → j + n = m - 1 → R j ≤ R (m - 1) := by
    intro n
    induction n with
    | zero =>
      intro j _ e
      rw [show j = m - 1 by omega]
      exact Int.le_refl _
    | succ n ih =>
      intro j j0 e
      have h1 := ih (j + 1) (by omega) (by omega)
      have h2 := (h (j + 1) (by omega) (by omega)).2 (by omega)
      rw [show j + 1 - 1 = j by omega] at h2
      omega
  exact k (m - 1 - j).toNat j j0 (by omega)
set_option maxRecDepth 20000 in
set_option maxHeartbeats 2000000 in
theorem kX10_toI (hS : zSt M) {s : Int} {R : Int → Int} {m : Int} (hD : zDj s R m M) {P : zP} {p c a : Int} (hp : 1 ≤ p ∧ p ≤ 60) (hc : 0 ≤ c ∧ c < 400) (hX : ∀ (M1 : zM) (w6 : zv), zFr (fun a _ => a = 69) M M1 → zV g xX10_twoOf P 97 [zr 58, zi s, zl (a + zse (zft R m) R (R (m - 1)) m p c 60), (3, 0), zi p, zi c, w6] [] 75 M1 0 0) : ∀ (k : Nat) (n : Nat) (M1 : zM), (n : Int) + k = 60 → zFr (fun a _ => a = 69) M M1 → zV g xX10_twoOf P 47 [zr 58, zi s, zl (a + zse (zft R m) R (R (m - 1)) m p c n), (3, 0), zi p, zi c, zi ((n : Int) + 1)] [] 75 M1 0 0 := by
  intro k
  induction k with
  | zero =>
    intro n M1 h0 hfr
    obtain ⟨hs, hm, ho, em, eR⟩ := id hD
    have hl := (ho (m - 1) (by omega) (by omega)).1
    have h00 := (ho 0 (by omega) (by omega)).1
    have hll : ∀ j : Int, 0 ≤ j → j < m → R j ≤ R (m - 1) := fun j j0 j1 => zdo_l ho j0 j1
    have hS1 := hS.fr hfr (by decide)
    have hD1 := hD.fr hfr (fun a j (y : a = 69) => by omega)
    refine zV_iload (pc := 47) dX10_twoOf_47 rfl ?_
    refine zV_bipush (pc := 49) dX10_twoOf_49 (by decide) ?_
    refine zV_icmp_gt (pc := 51) (tgt := 97) dX10_twoOf_51 (by decide) (by omega) (fun c_51 => ?_) (fun c_51 => absurd (by omega) c_51)
    have en : n = 60 := by omega
    subst en
    exact hX M1 _ hfr
  | succ k ih =>
    intro n M1 h0 hfr
    obtain ⟨hs, hm, ho, em, eR⟩ := id hD
    have hl := (ho (m - 1) (by omega) (by omega)).1
    have h00 := (ho 0 (by omega) (by omega)).1
    have hll : ∀ j : Int, 0 ≤ j → j < m → R j ≤ R (m - 1) := fun j j0 j1 => zdo_l ho j0 j1
    have hS1 := hS.fr hfr (by decide)
    have hD1 := hD.fr hfr (fun a j (y : a = 69) => by omega)
    refine zV_iload (pc := 47) dX10_twoOf_47 rfl ?_
    refine zV_bipush (pc := 49) dX10_twoOf_49 (by decide) ?_
    refine zV_icmp_gt (pc := 51) (tgt := 97) dX10_twoOf_51 (by decide) (by omega) (fun c_51 => absurd c_51 (by omega)) (fun c_51 => ?_)
    refine zV_aload_n (pc := 54) (i := 0) dX10_twoOf_54 rfl rfl ?_
    refine zV_iload_n (pc := 55) (i := 1) dX10_twoOf_55 rfl rfl ?_
    refine zV_iload (pc := 56) dX10_twoOf_56 rfl ?_
    refine zV_ivq (pc := 58) (ci := 10) dX10_twoOf_58 klX10_421 mX10_marksFirst ⟨by decide, rfl⟩ rfl ⟨Nat.zero_le _, Nat.zero_le _⟩ (kX10_marksFirst hS1 hD1 (p := p) (by omega)) (zOb_of rfl) rfl rfl (Nat.le_of_ble_eq_true rfl) (fun M2 q2 => ?_)
    have f2 := hfr.tr q2.2
    have hS2 := hS.fr f2 (by decide)
    have hD2 := hD.fr f2 (fun a j (y : a = 69) => by omega)
    refine zV_pop (pc := 61) dX10_twoOf_61 (by simp) ?_
    refine zV_lload_n (pc := 62) (i := 2) dX10_twoOf_62 rfl rfl ?_
    refine zV_aload_n (pc := 63) (i := 0) dX10_twoOf_63 rfl rfl ?_
    refine zV_iload_n (pc := 64) (i := 1) dX10_twoOf_64 rfl rfl ?_
    refine zV_iload (pc := 65) dX10_twoOf_65 rfl ?_
    refine zV_iload (pc := 67) dX10_twoOf_67 rfl ?_
    refine zV_ivq (pc := 69) (ci := 10) dX10_twoOf_69 klX10_417 mX10_marks ⟨by decide, rfl⟩ rfl ⟨Nat.zero_le _, Nat.zero_le _⟩ (kX10_marks hS2 hD2 (b := c) (p := n + 1) (by omega) (by omega)) (zOb_of rfl) rfl rfl (Nat.le_of_ble_eq_true rfl) (fun M3 q3 => ?_)
    have f3 := f2.tr q3.2
    have hS3 := hS.fr f3 (by decide)
    have hD3 := hD.fr f3 (fun a j (y : a = 69) => by omega)
    have hQ : ∀ d : Int, 0 ≤ d → d < 400 → M3 69 d = zb ((fun d => (zbh d c (n + 1) ∧ d ≤ R (m - 1)) ∨ (zbh d (R 0) p ∧ d ≤ R (m - 1))) d) := fun d d0 d1 => by
      rw [q3.1 d d0 d1, q2.1 d d0 d1]
      by_cases c : zbh d c (n + 1) ∧ d ≤ R (m - 1)
      · rw [zif_t c]; exact (zb_t (Or.inl c)).symm
      · rw [zif_f c]; exact zb_c ⟨Or.inr, fun y => y.elim (fun z => absurd z c) id⟩
    have hz := zfg_b (Q := (fun d => (zbh d c (n + 1) ∧ d ≤ R (m - 1)) ∨ (zbh d (R 0) p ∧ d ≤ R (m - 1)))) (R := R) m.toNat 0 (fun j j0 j1 => (ho j j0 (by omega)).1)
    have hnn := zfg_n (Q := (fun d => (zbh d c (n + 1) ∧ d ≤ R (m - 1)) ∨ (zbh d (R 0) p ∧ d ≤ R (m - 1)))) (R := R) m.toNat 0 (fun j j0 j1 => (ho j j0 (by omega)).1.1)
    have hall : zfg (fun d => (zbh d c (n + 1) ∧ d ≤ R (m - 1)) ∨ (zbh d (R 0) p ∧ d ≤ R (m - 1))) R 0 m.toNat = -1 ↔ ∀ j : Int, 0 ≤ j → j < m → (zbh (R j) (R 0) p ∨ zbh (R j) c (n + 1)) := hnn.trans ⟨fun y j j0 j1 => (y j j0 (by omega)).elim (fun z => Or.inr z.1) (fun z => Or.inl z.1), fun y j j0 j1 => (y j j0 (by omega)).elim (fun z => Or.inr ⟨z, hll j j0 (by omega)⟩) (fun z => Or.inl ⟨z, hll j j0 (by omega)⟩)⟩
    refine zV_if_eqb (pc := 72) (tgt := 88) dX10_twoOf_72 (by decide) (fun c_72 => ?_) (fun c_72 => ?_)
    · refine zV_lconst0 (pc := 88) dX10_twoOf_88 ?_
      refine zV_ladd (pc := 89) dX10_twoOf_89 ?_
      refine zV_lstore_n (pc := 90) (i := 2) dX10_twoOf_90 rfl rfl ?_
      try dsimp only [List.set_cons_succ, List.set_cons_zero]
      refine zV_iinc (pc := 91) dX10_twoOf_91 rfl rfl ?_
      try dsimp only [List.set_cons_succ, List.set_cons_zero]
      refine zV_goto (pc := 94) (tgt := 47) dX10_twoOf_94 (by decide) ?_
      have e8 : a + zse (zft R m) R (R (m - 1)) m p c (n + 1) = a + zse (zft R m) R (R (m - 1)) m p c n + 0 := by show a + (zse (zft R m) R (R (m - 1)) m p c n + zb (ztr (zft R m) (R (m - 1)) c (n + 1) ∧ ∀ j : Int, 0 ≤ j → j < m → (zbh (R j) (R 0) p ∨ zbh (R j) c (n + 1)))) = _; rw [zb_f (fun y => c_72 y.1)]; omega
      rw [← e8]
      exact ih (n + 1) M3 (by omega) f3
    · refine zV_aload_n (pc := 75) (i := 0) dX10_twoOf_75 rfl rfl ?_
      refine zV_iload_n (pc := 76) (i := 1) dX10_twoOf_76 rfl rfl ?_
      refine zV_ivp (pc := 77) (ci := 10) dX10_twoOf_77 klX10_424 mX10_firstLeft ⟨by decide, rfl⟩ rfl ⟨Nat.zero_le _, Nat.zero_le _⟩ (kX10_firstLeft hS3 hD3 hQ) (zOb_of rfl) rfl rfl (Nat.le_of_ble_eq_true rfl) ?_
      refine zV_iconst (pc := 80) dX10_twoOf_80 ?_
      refine zV_icmp_ne (pc := 81) (tgt := 88) dX10_twoOf_81 (by decide) (by omega) (fun c_81 => ?_) (fun c_81 => ?_)
      · refine zV_lconst0 (pc := 88) dX10_twoOf_88 ?_
        refine zV_ladd (pc := 89) dX10_twoOf_89 ?_
        refine zV_lstore_n (pc := 90) (i := 2) dX10_twoOf_90 rfl rfl ?_
        try dsimp only [List.set_cons_succ, List.set_cons_zero]
        refine zV_iinc (pc := 91) dX10_twoOf_91 rfl rfl ?_
        try dsimp only [List.set_cons_succ, List.set_cons_zero]
        refine zV_goto (pc := 94) (tgt := 47) dX10_twoOf_94 (by decide) ?_
        have e8 : a + zse (zft R m) R (R (m - 1)) m p c (n + 1) = a + zse (zft R m) R (R (m - 1)) m p c n + 0 := by show a + (zse (zft R m) R (R (m - 1)) m p c n + zb (ztr (zft R m) (R (m - 1)) c (n + 1) ∧ ∀ j : Int, 0 ≤ j → j < m → (zbh (R j) (R 0) p ∨ zbh (R j) c (n + 1)))) = _; rw [zb_f (fun y => c_81 (hall.mpr y.2))]; omega
        rw [← e8]
        exact ih (n + 1) M3 (by omega) f3
      · refine zV_lconst1 (pc := 84) dX10_twoOf_84 ?_
        refine zV_goto (pc := 85) (tgt := 89) dX10_twoOf_85 (by decide) ?_
        refine zV_ladd (pc := 89) dX10_twoOf_89 ?_
        refine zV_lstore_n (pc := 90) (i := 2) dX10_twoOf_90 rfl rfl ?_
        try dsimp only [List.set_cons_succ, List.set_cons_zero]
        refine zV_iinc (pc := 91) dX10_twoOf_91 rfl rfl ?_
        try dsimp only [List.set_cons_succ, List.set_cons_zero]
        refine zV_goto (pc := 94) (tgt := 47) dX10_twoOf_94 (by decide) ?_
        have e8 : a + zse (zft R m) R (R (m - 1)) m p c (n + 1) = a + zse (zft R m) R (R (m - 1)) m p c n + 1 := by show a + (zse (zft R m) R (R (m - 1)) m p c n + zb (ztr (zft R m) (R (m - 1)) c (n + 1) ∧ ∀ j : Int, 0 ≤ j → j < m → (zbh (R j) (R 0) p ∨ zbh (R j) c (n + 1)))) = _; rw [zb_t ⟨c_72, hall.mp c_81⟩]; omega
        rw [← e8]
        exact ih (n + 1) M3 (by omega) f3
set_option maxRecDepth 20000 in
set_option maxHeartbeats 2000000 in
theorem kX10_toL (hS : zSt M) {s : Int} {R : Int → Int} {m : Int} (hD : zDj s R m M) : ∀ (k : Nat) (n : Nat) (w5 w6 : zv) (M1 : zM), (n : Int) + k = 60 → zFr (fun a _ => a = 69) M M1 → zV g xX10_twoOf (zPq (zl (ztw (zft R m) R (R (m - 1)) m 60)) 75 (fun M1 => zFr (fun a _ => a = 69) M M1)) 5 [zr 58, zi s, zl (ztw (zft R m) R (R (m - 1)) m n), (3, 0), zi ((n : Int) + 1), w5, w6] [] 75 M1 0 0 := by
  intro k
  induction k with
  | zero =>
    intro n w5 w6 M1 h0 hfr
    obtain ⟨hs, hm, ho, em, eR⟩ := id hD
    have hl := (ho (m - 1) (by omega) (by omega)).1
    have h00 := (ho 0 (by omega) (by omega)).1
    have hll : ∀ j : Int, 0 ≤ j → j < m → R j ≤ R (m - 1) := fun j j0 j1 => zdo_l ho j0 j1
    have hS1 := hS.fr hfr (by decide)
    have hD1 := hD.fr hfr (fun a j (y : a = 69) => by omega)
    refine zV_iload (pc := 5) dX10_twoOf_5 rfl ?_
    refine zV_bipush (pc := 7) dX10_twoOf_7 (by decide) ?_
    refine zV_icmp_gt (pc := 9) (tgt := 103) dX10_twoOf_9 (by decide) (by omega) (fun c_9 => ?_) (fun c_9 => absurd (by omega) c_9)
    refine zV_lload_n (pc := 103) (i := 2) dX10_twoOf_103 rfl rfl ?_
    refine zV_lret (pc := 104) dX10_twoOf_104 trivial ⟨Nat.zero_le _, Nat.zero_le _⟩ ?_
    have en : n = 60 := by omega
    subst en
    exact ⟨rfl, rfl, hfr⟩
  | succ k ih =>
    intro n w5 w6 M1 h0 hfr
    obtain ⟨hs, hm, ho, em, eR⟩ := id hD
    have hl := (ho (m - 1) (by omega) (by omega)).1
    have h00 := (ho 0 (by omega) (by omega)).1
    have hll : ∀ j : Int, 0 ≤ j → j < m → R j ≤ R (m - 1) := fun j j0 j1 => zdo_l ho j0 j1
    have hS1 := hS.fr hfr (by decide)
    have hD1 := hD.fr hfr (fun a j (y : a = 69) => by omega)
    refine zV_iload (pc := 5) dX10_twoOf_5 rfl ?_
    refine zV_bipush (pc := 7) dX10_twoOf_7 (by decide) ?_
    refine zV_icmp_gt (pc := 9) (tgt := 103) dX10_twoOf_9 (by decide) (by omega) (fun c_9 => absurd c_9 (by omega)) (fun c_9 => ?_)
    refine zV_aload_n (pc := 12) (i := 0) dX10_twoOf_12 rfl rfl ?_
    refine zV_iload_n (pc := 13) (i := 1) dX10_twoOf_13 rfl rfl ?_
    refine zV_iload (pc := 14) dX10_twoOf_14 rfl ?_
    refine zV_ivq (pc := 16) (ci := 10) dX10_twoOf_16 klX10_421 mX10_marksFirst ⟨by decide, rfl⟩ rfl ⟨Nat.zero_le _, Nat.zero_le _⟩ (kX10_marksFirst hS1 hD1 (p := n + 1) (by omega)) (zOb_of rfl) rfl rfl (Nat.le_of_ble_eq_true rfl) (fun M2 q2 => ?_)
    have f2 := hfr.tr q2.2
    have hS2 := hS.fr f2 (by decide)
    have hD2 := hD.fr f2 (fun a j (y : a = 69) => by omega)
    have efo : zfg (fun d => zbh d (R 0) (n + 1) ∧ d ≤ R (m - 1)) R 0 m.toNat = zfo R (R 0) (n + 1) 0 m.toNat := (zfg_c m.toNat 0 (fun j j0 j1 => ⟨fun y => y.1, fun y => ⟨y, hll j j0 (by omega)⟩⟩)).trans (zfg_o m.toNat 0)
    have hz := zfg_b (Q := (fun d => zbh d (R 0) (n + 1) ∧ d ≤ R (m - 1))) (R := R) m.toNat 0 (fun j j0 j1 => (ho j j0 (by omega)).1)
    rw [efo] at hz
    refine zV_if_eqb (pc := 19) (tgt := 97) dX10_twoOf_19 (by decide) (fun c_19 => ?_) (fun c_19 => ?_)
    · refine zV_iinc (pc := 97) dX10_twoOf_97 rfl rfl ?_
      try dsimp only [List.set_cons_succ, List.set_cons_zero]
      refine zV_goto (pc := 100) (tgt := 5) dX10_twoOf_100 (by decide) ?_
      have e8 : ztw (zft R m) R (R (m - 1)) m (n + 1) = ztw (zft R m) R (R (m - 1)) m n := (congrArg (fun z => ztw (zft R m) R (R (m - 1)) m n + z) (zif_f c_19)).trans (Int.add_zero _)
      rw [← e8]
      exact ih (n + 1) _ _ M2 (by omega) f2
    · refine zV_aload_n (pc := 22) (i := 0) dX10_twoOf_22 rfl rfl ?_
      refine zV_iload_n (pc := 23) (i := 1) dX10_twoOf_23 rfl rfl ?_
      refine zV_ivp (pc := 24) (ci := 10) dX10_twoOf_24 klX10_424 mX10_firstLeft ⟨by decide, rfl⟩ rfl ⟨Nat.zero_le _, Nat.zero_le _⟩ (kX10_firstLeft hS2 hD2 q2.1) (zOb_of rfl) rfl rfl (Nat.le_of_ble_eq_true rfl) ?_
      rw [efo]
      refine zV_istore (pc := 27) dX10_twoOf_27 rfl ?_
      try dsimp only [List.set_cons_succ, List.set_cons_zero]
      refine zV_iload (pc := 29) dX10_twoOf_29 rfl ?_
      refine zV_iconst (pc := 31) dX10_twoOf_31 ?_
      refine zV_icmp_ne (pc := 32) (tgt := 44) dX10_twoOf_32 (by decide) (by omega) (fun c_32 => ?_) (fun c_32 => ?_)
      · refine zV_iconst (pc := 44) dX10_twoOf_44 ?_
        refine zV_istore (pc := 45) dX10_twoOf_45 rfl ?_
        try dsimp only [List.set_cons_succ, List.set_cons_zero]
        have e8 : ztw (zft R m) R (R (m - 1)) m (n + 1) = ztw (zft R m) R (R (m - 1)) m n + zse (zft R m) R (R (m - 1)) m (n + 1) (zfo R (R 0) (n + 1) 0 m.toNat) 60 := (congrArg (fun z => ztw (zft R m) R (R (m - 1)) m n + z) (zif_t c_19)).trans (congrArg (fun z => ztw (zft R m) R (R (m - 1)) m n + z) (if_neg c_32))
        have ea : ztw (zft R m) R (R (m - 1)) m n + zse (zft R m) R (R (m - 1)) m (n + 1) (zfo R (R 0) (n + 1) 0 m.toNat) 0 = ztw (zft R m) R (R (m - 1)) m n := Int.add_zero _
        have k7 := kX10_toI (g := g) hS2 hD2 (P := zPq (zl (ztw (zft R m) R (R (m - 1)) m 60)) 75 (fun M1 => zFr (fun a _ => a = 69) M M1)) (p := n + 1) (c := zfo R (R 0) (n + 1) 0 m.toNat) (a := ztw (zft R m) R (R (m - 1)) m n) (by omega) (by omega) (fun M3 w6 f3 => by
          rw [← e8]
          refine zV_iinc (pc := 97) dX10_twoOf_97 rfl rfl ?_
          try dsimp only [List.set_cons_succ, List.set_cons_zero]
          refine zV_goto (pc := 100) (tgt := 5) dX10_twoOf_100 (by decide) ?_
          exact ih (n + 1) _ _ M3 (by omega) (f2.tr f3)
          ) 60 0 M2 (by decide) zFr.rf
        rw [ea] at k7
        exact k7
      · refine zV_lload_n (pc := 35) (i := 2) dX10_twoOf_35 rfl rfl ?_
        refine zV_ldc2 (pc := 36) dX10_twoOf_36 kiX10_92 ?_
        refine zV_ladd (pc := 39) dX10_twoOf_39 ?_
        refine zV_lstore_n (pc := 40) (i := 2) dX10_twoOf_40 rfl rfl ?_
        try dsimp only [List.set_cons_succ, List.set_cons_zero]
        refine zV_goto (pc := 41) (tgt := 97) dX10_twoOf_41 (by decide) ?_
        refine zV_iinc (pc := 97) dX10_twoOf_97 rfl rfl ?_
        try dsimp only [List.set_cons_succ, List.set_cons_zero]
        refine zV_goto (pc := 100) (tgt := 5) dX10_twoOf_100 (by decide) ?_
        have e8 : ztw (zft R m) R (R (m - 1)) m (n + 1) = ztw (zft R m) R (R (m - 1)) m n + 60 := (congrArg (fun z => ztw (zft R m) R (R (m - 1)) m n + z) (zif_t c_19)).trans (congrArg (fun z => ztw (zft R m) R (R (m - 1)) m n + z) (if_pos c_32))
        rw [← e8]
        exact ih (n + 1) _ _ M2 (by omega) f2
set_option maxRecDepth 20000 in
set_option maxHeartbeats 2000000 in
theorem kX10_twoOf (hS : zSt M) {s : Int} {R : Int → Int} {m : Int} (hD : zDj s R m M) : zK g yX10_twoOf xX10_twoOf [zr 58, zi s] 75 M (zPq (zl (ztw (zft R m) R (R (m - 1)) m 60)) 75 (fun M1 => zFr (fun a _ => a = 69) M M1)) := by
  refine zK_of (ls0 := [zr 58, zi s, (3, 0), (3, 0), (3, 0), (3, 0), (3, 0)]) (by decide) rfl (by decide) rfl (Nat.le_of_ble_eq_true rfl) ?_
  refine zV_lconst0 (pc := 0) dX10_twoOf_0 ?_
  refine zV_lstore_n (pc := 1) (i := 2) dX10_twoOf_1 rfl rfl ?_
  try dsimp only [List.set_cons_succ, List.set_cons_zero]
  refine zV_iconst (pc := 2) dX10_twoOf_2 ?_
  refine zV_istore (pc := 3) dX10_twoOf_3 rfl ?_
  try dsimp only [List.set_cons_succ, List.set_cons_zero]
  exact kX10_toL hS hD 60 0 _ _ M (by decide) zFr.rf
noncomputable def zroG (M : zM) (s k : Int) : Int := zif ((0 ≤ s ∧ s ≤ 3) ∧ (0 ≤ k ∧ k ≤ 1) ∧ M 71 s = 1 ∧ ((1 ≤ M 73 s ∧ M 73 s ≤ 20) ∧ zdo (fun e => M 74 (40 * s + e)) (M 73 s))) (if k = 0 then zper (fun e => M 74 (40 * s + e)) (M 73 s) else ztw (zft (fun e => M 74 (40 * s + e)) (M 73 s)) (fun e => M 74 (40 * s + e)) (M 74 (40 * s + (M 73 s - 1))) (M 73 s) 60) (-4611686018427387904)
set_option maxRecDepth 20000 in
set_option maxHeartbeats 2000000 in
theorem kX10_rounds (hS : zSt M) (hG : zShg M) {s k : Int} (hs : -2147483648 ≤ s ∧ s ≤ 2147483647) (hk : -2147483648 ≤ k ∧ k ≤ 2147483647) : zK g yX10_rounds xX10_rounds [zr 58, zi s, zi k] 75 M (zPq (zl (zroG M s k)) 75 (fun M1 => zFr (fun a _ => a = 69) M M1)) := by
  refine zK_of (ls0 := [zr 58, zi s, zi k]) (by decide) rfl (by decide) rfl (Nat.le_of_ble_eq_true rfl) ?_
  refine zV_iload_n (pc := 0) (i := 1) dX10_rounds_0 rfl rfl ?_
  refine zV_isp (pc := 1) dX10_rounds_1 klX10_408 mX10_isSheet rfl ⟨Nat.zero_le _, Nat.zero_le _⟩ (kX10_isSheet (by omega)) rfl rfl (Nat.le_of_ble_eq_true rfl) ?_
  refine zV_if_eqb (pc := 4) (tgt := 34) dX10_rounds_4 (by decide) (fun c_4 => ?_) (fun c_4 => ?_)
  · refine zV_ldc2 (pc := 34) dX10_rounds_34 kiX10_395 ?_
    refine zV_lret (pc := 37) dX10_rounds_37 trivial ⟨Nat.zero_le _, Nat.zero_le _⟩ ?_
    refine ⟨congrArg (fun x => some (zl x)) (zif_f (fun q => ?_)).symm, rfl, zFr.rf⟩
    first
      | exact c_4 q.1
      | exact c_14 q.2.1
      | (have := q.2.2.1; omega)
      | (rw [zif_t q.2.2.2] at c_31; exact c_31 rfl)
  · refine zV_iload_n (pc := 7) (i := 2) dX10_rounds_7 rfl rfl ?_
    refine zV_i2l (pc := 8) dX10_rounds_8 (by omega) ?_
    refine zV_lconst0 (pc := 9) dX10_rounds_9 ?_
    refine zV_lconst1 (pc := 10) dX10_rounds_10 ?_
    refine zV_isp (pc := 11) dX10_rounds_11 klX10_76 mX10_in rfl ⟨Nat.zero_le _, Nat.zero_le _⟩ (kX10_in (by omega) (by omega) (by omega)) rfl rfl (Nat.le_of_ble_eq_true rfl) ?_
    refine zV_if_eqb (pc := 14) (tgt := 34) dX10_rounds_14 (by decide) (fun c_14 => ?_) (fun c_14 => ?_)
    · refine zV_ldc2 (pc := 34) dX10_rounds_34 kiX10_395 ?_
      refine zV_lret (pc := 37) dX10_rounds_37 trivial ⟨Nat.zero_le _, Nat.zero_le _⟩ ?_
      refine ⟨congrArg (fun x => some (zl x)) (zif_f (fun q => ?_)).symm, rfl, zFr.rf⟩
      first
        | exact c_4 q.1
        | exact c_14 q.2.1
        | (have := q.2.2.1; omega)
        | (rw [zif_t q.2.2.2] at c_31; exact c_31 rfl)
    · have hg := hG.1 s (by omega) (by omega)
      refine zV_aload_n (pc := 17) (i := 0) dX10_rounds_17 rfl rfl ?_
      refine zV_get (pc := 18) (j := 39) dX10_rounds_18 flX10_54 (zOb_of rfl) rfl hS.e58_39 ?_
      refine zV_iload_n (pc := 21) (i := 1) dX10_rounds_21 rfl rfl ?_
      refine zV_zald (pc := 22) dX10_rounds_22 (zAr_of rfl : zAr 75 71 1 4) (by omega) rfl ?_
      refine zV_if_eq (pc := 23) (tgt := 34) dX10_rounds_23 (by decide) (by omega) (fun c_23 => ?_) (fun c_23 => ?_)
      · refine zV_ldc2 (pc := 34) dX10_rounds_34 kiX10_395 ?_
        refine zV_lret (pc := 37) dX10_rounds_37 trivial ⟨Nat.zero_le _, Nat.zero_le _⟩ ?_
        refine ⟨congrArg (fun x => some (zl x)) (zif_f (fun q => ?_)).symm, rfl, zFr.rf⟩
        first
          | exact c_4 q.1
          | exact c_14 q.2.1
          | (have := q.2.2.1; omega)
          | (rw [zif_t q.2.2.2] at c_31; exact c_31 rfl)
      · refine zV_aload_n (pc := 26) (i := 0) dX10_rounds_26 rfl rfl ?_
        refine zV_iload_n (pc := 27) (i := 1) dX10_rounds_27 rfl rfl ?_
        refine zV_ivp (pc := 28) (ci := 10) dX10_rounds_28 klX10_411 mX10_diaryBad ⟨by decide, rfl⟩ rfl ⟨Nat.zero_le _, Nat.zero_le _⟩ (kX10_diaryBad hS hG (s := s) (R := (fun e => M 74 (40 * s + e))) (m := M 73 s) (by omega) (fun j e q => by rw [q]) rfl (by omega)) (zOb_of rfl) rfl rfl (Nat.le_of_ble_eq_true rfl) ?_
        refine zV_if_eq (pc := 31) (tgt := 38) dX10_rounds_31 (by decide) (by have := zif_r50 (q := ((1 ≤ M 73 s ∧ M 73 s ≤ 20) ∧ zdo (fun e => M 74 (40 * s + e)) (M 73 s))); omega) (fun c_31 => ?_) (fun c_31 => ?_)
        · have hq : ((1 ≤ M 73 s ∧ M 73 s ≤ 20) ∧ zdo (fun e => M 74 (40 * s + e)) (M 73 s)) := Classical.byContradiction (fun q => by rw [zif_f q] at c_31; exact absurd c_31 (by decide))
          have hD : zDj s (fun e => M 74 (40 * s + e)) (M 73 s) M := ⟨by omega, hq.1, hq.2, rfl, fun j e _ _ q => by rw [q]⟩
          have hA : zroG M s k = (if k = 0 then zper (fun e => M 74 (40 * s + e)) (M 73 s) else ztw (zft (fun e => M 74 (40 * s + e)) (M 73 s)) (fun e => M 74 (40 * s + e)) (M 74 (40 * s + (M 73 s - 1))) (M 73 s) 60) := zif_t ⟨c_4, c_14, by omega, hq⟩
          refine zV_iload_n (pc := 38) (i := 2) dX10_rounds_38 rfl rfl ?_
          refine zV_if_ne (pc := 39) (tgt := 50) dX10_rounds_39 (by decide) (by omega) (fun c_39 => ?_) (fun c_39 => ?_)
          · refine zV_aload_n (pc := 50) (i := 0) dX10_rounds_50 rfl rfl ?_
            refine zV_iload_n (pc := 51) (i := 1) dX10_rounds_51 rfl rfl ?_
            refine zV_ivq (pc := 52) (ci := 10) dX10_rounds_52 klX10_431 mX10_twoOf ⟨by decide, rfl⟩ rfl ⟨Nat.zero_le _, Nat.zero_le _⟩ (kX10_twoOf hS hD) (zOb_of rfl) rfl rfl (Nat.le_of_ble_eq_true rfl) (fun M1 q => ?_)
            refine zV_lret (pc := 55) dX10_rounds_55 trivial ⟨Nat.zero_le _, Nat.zero_le _⟩ ?_
            first
              | exact ⟨by rw [hA, if_pos (by omega)], rfl, zFr.rf⟩
              | exact ⟨by rw [hA, if_neg (by omega)], rfl, q⟩
          · refine zV_aload_n (pc := 42) (i := 0) dX10_rounds_42 rfl rfl ?_
            refine zV_iload_n (pc := 43) (i := 1) dX10_rounds_43 rfl rfl ?_
            refine zV_ivp (pc := 44) (ci := 10) dX10_rounds_44 klX10_427 mX10_periodsOf ⟨by decide, rfl⟩ rfl ⟨Nat.zero_le _, Nat.zero_le _⟩ (kX10_periodsOf hS hD) (zOb_of rfl) rfl rfl (Nat.le_of_ble_eq_true rfl) ?_
            refine zV_goto (pc := 47) (tgt := 55) dX10_rounds_47 (by decide) ?_
            refine zV_lret (pc := 55) dX10_rounds_55 trivial ⟨Nat.zero_le _, Nat.zero_le _⟩ ?_
            first
              | exact ⟨by rw [hA, if_pos (by omega)], rfl, zFr.rf⟩
              | exact ⟨by rw [hA, if_neg (by omega)], rfl, q⟩
        · refine zV_ldc2 (pc := 34) dX10_rounds_34 kiX10_395 ?_
          refine zV_lret (pc := 37) dX10_rounds_37 trivial ⟨Nat.zero_le _, Nat.zero_le _⟩ ?_
          refine ⟨congrArg (fun x => some (zl x)) (zif_f (fun q => ?_)).symm, rfl, zFr.rf⟩
          first
            | exact c_4 q.1
            | exact c_14 q.2.1
            | (have := q.2.2.1; omega)
            | (rw [zif_t q.2.2.2] at c_31; exact c_31 rfl)
end
