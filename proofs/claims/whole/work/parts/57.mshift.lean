/-! THE MODEL: why, shift, join, goodShift (printed by wip/whole/p57.py) -/
theorem zmc_fr {T T' : Int → Int → Int} {s n d : Int} (h : ∀ e : Int, 0 ≤ e → e < n → T e 2 = T' e 2 ∧ T e 3 = T' e 3) : zmc T s n d ↔ zmc T' s n d := by
  unfold zmc
  constructor
  · rintro ⟨a, b⟩
    exact ⟨a, fun e e0 e1 hb => by have := h e e0 e1; rw [← this.1, ← this.2]; exact b e e0 e1 hb⟩
  · rintro ⟨a, b⟩
    exact ⟨a, fun e e0 e1 hb => by have := h e e0 e1; rw [this.1, this.2]; exact b e e0 e1 hb⟩
/-- the two bits a, b of S -/
def zan (S : Int) (a b : Nat) : Int := S / 2 ^ a % 2 * 2 ^ a + S / 2 ^ b % 2 * 2 ^ b
theorem z_twoA : ∀ S : Nat, S < 64 → ∀ a : Nat, a < 6 → ∀ b, b < 6 → a < b → nI S &&& nI (2 ^ a + 2 ^ b) = Int32.ofInt (zan (S : Int) a b) := by decide +kernel
theorem z_twoB : ∀ S : Nat, S < 64 → ∀ a : Nat, a < 6 → ∀ b, b < 6 → a < b → decide (zan (S : Int) a b = 2 ^ a + 2 ^ b) = (decide ((S : Int) / 2 ^ a % 2 = 1) && decide ((S : Int) / 2 ^ b % 2 = 1)) := by decide +kernel
theorem z_twoC : ∀ S : Nat, S < 64 → ∀ a : Nat, a < 6 → ∀ b, b < 6 → a < b → (decide (0 ≤ zan (S : Int) a b) && decide (zan (S : Int) a b ≤ 63)) = true := by decide +kernel
theorem z_two0 (S : Nat) (hS : S < 64) (a : Nat) (ha : a < 6) (b : Nat) (hb : b < 6) (h : a < b) : nI S &&& nI (2 ^ a + 2 ^ b) = Int32.ofInt (zan (S : Int) a b) ∧ (zan (S : Int) a b = 2 ^ a + 2 ^ b ↔ ((S : Int) / 2 ^ a % 2 = 1 ∧ (S : Int) / 2 ^ b % 2 = 1)) ∧ 0 ≤ zan (S : Int) a b ∧ zan (S : Int) a b ≤ 63 := by
  have B := z_twoB S hS a ha b hb h
  have C := z_twoC S hS a ha b hb h
  simp only [Bool.and_eq_true, decide_eq_true_eq] at C
  refine ⟨z_twoA S hS a ha b hb h, ?_, C⟩
  constructor
  · intro q
    rw [decide_eq_true q] at B
    have := B.symm
    simp only [Bool.and_eq_true, decide_eq_true_eq] at this
    exact this
  · intro q
    rw [decide_eq_true q.1, decide_eq_true q.2] at B
    exact of_decide_eq_true B
theorem z_two {S a b : Int} (hS : 0 ≤ S ∧ S < 64) (ha : 0 ≤ a ∧ a < b) (hb : b < 6) : Int32.ofInt S &&& Int32.ofInt (2 ^ a.toNat + 2 ^ b.toNat) = Int32.ofInt (zan S a.toNat b.toNat) ∧ (zan S a.toNat b.toNat = 2 ^ a.toNat + 2 ^ b.toNat ↔ (zbt S a ∧ zbt S b)) ∧ 0 ≤ zan S a.toNat b.toNat ∧ zan S a.toNat b.toNat ≤ 63 := by
  have h := z_two0 S.toNat (by omega) a.toNat (by omega) b.toNat (by omega) (by omega)
  rw [Int.toNat_of_nonneg hS.1] at h
  have e : nI (2 ^ a.toNat + 2 ^ b.toNat) = Int32.ofInt ((2 : Int) ^ a.toNat + 2 ^ b.toNat) := by
    rw [zn_o, Int.natCast_add, Int.natCast_pow, Int.natCast_pow]
    rfl
  rw [e, ← zo_n hS.1] at h
  exact h
theorem z_pw2 {a b : Int} (ha : 0 ≤ a ∧ a < b) (hb : b < 6) : 0 ≤ (2 : Int) ^ a.toNat ∧ (2 : Int) ^ a.toNat < 2 ^ b.toNat ∧ (2 : Int) ^ a.toNat + 2 ^ b.toNat ≤ 63 := by
  rcases (show b = 1 ∨ b = 2 ∨ b = 3 ∨ b = 4 ∨ b = 5 by omega) with rfl | rfl | rfl | rfl | rfl
  · rcases (show a = 0 by omega) with rfl; decide
  · rcases (show a = 0 ∨ a = 1 by omega) with rfl | rfl <;> decide
  · rcases (show a = 0 ∨ a = 1 ∨ a = 2 by omega) with rfl | rfl | rfl <;> decide
  · rcases (show a = 0 ∨ a = 1 ∨ a = 2 ∨ a = 3 by omega) with rfl | rfl | rfl | rfl <;> decide
  · rcases (show a = 0 ∨ a = 1 ∨ a = 2 ∨ a = 3 ∨ a = 4 by omega) with rfl | rfl | rfl | rfl | rfl <;> decide
/-- things a and b meet some day -/
def ztwo (T : Int → Int → Int) (n a b : Int) : Prop := ∃ d, zmc T (2 ^ a.toNat + 2 ^ b.toNat) n d
theorem zmR_f {f s : Int} : zmR f s f := ⟨0, by simp⟩
theorem zWm.fr {M M1 : zM} (h : zWm M) (fr : zFr zMs M M1) : zWm M1 := by
  have e12 : M1 58 12 = M 58 12 := fr _ _ (by unfold zMs; omega)
  refine ⟨by rw [e12]; exact h.1, fun i i0 i1 => ?_⟩
  have := h.2 i i0 (by omega)
  unfold zTt at this ⊢
  rw [zTm_fr fr i 0 (by decide), zTm_fr fr i 1 (by decide), zTm_fr fr i 2 (by decide), zTm_fr fr i 3 (by decide)]
  exact this
/-- M with thing t's begin v -/
theorem zTm_b {M : zM} {t v i f : Int} (h : ¬ (f = 3 ∧ i = t)) (hf : 0 ≤ f ∧ f ≤ 3) : zTm (zU M 65 t v) i f = zTm M i f := by
  show zU M 65 t v (62 + f) i = M (62 + f) i
  by_cases e : f = 3
  · subst e
    exact zU_j _ _ _ _ (fun q => h ⟨rfl, q⟩)
  · exact zU_a _ _ _ _ (by omega)
theorem zTm_b3 {M : zM} {t v : Int} : zTm (zU M 65 t v) t 3 = v := zU_s _ _ _ _
theorem zWm.b {M : zM} (h : zWm M) {t v : Int} (hv : 0 ≤ v ∧ v ≤ 59) : zWm (zU M 65 t v) := by
  have e12 : zU M 65 t v 58 12 = M 58 12 := zU_a _ _ _ _ (by decide)
  refine ⟨by rw [e12]; exact h.1, fun i i0 i1 => ?_⟩
  have := h.2 i i0 (by omega)
  unfold zTt at this ⊢
  rw [zTm_b (f := 0) (by omega) (by decide), zTm_b (f := 1) (by omega) (by decide), zTm_b (f := 2) (by omega) (by decide)]
  by_cases e : i = t
  · subst e
    rw [zTm_b3]
    exact ⟨this.1, this.2.1, this.2.2.1, hv⟩
  · rw [zTm_b (f := 3) (by omega) (by decide)]
    exact this
theorem zSt.b {M : zM} (h : zSt M) {t v : Int} : zSt (zU M 65 t v) := h.fr (C := fun a _ => a = 65) (zFr.rf.up rfl) (by decide)
theorem zRo2.b {M : zM} {tp : Int → Int} {z t v : Int} (hR : zRo2 M tp z) (hv : 0 ≤ v ∧ v ≤ 59) : zRo2 (zU M 65 t v) tp z := by
  obtain ⟨h1, h2, h3, h4⟩ := hR
  have e7 : zU M 65 t v 58 7 = M 58 7 := zU_a _ _ _ _ (by decide)
  have e4 : zU M 65 t v 58 4 = M 58 4 := zU_a _ _ _ _ (by decide)
  refine ⟨h1.b, h2.b hv, ?_, by rw [e7]; exact h4⟩
  unfold zMU at h3 ⊢
  rw [e4]
  exact ⟨h3.1, (zU_a _ _ _ _ (by decide)).trans h3.2.1, fun j j0 j1 => (zU_a _ _ _ _ (by decide)).trans (h3.2.2.1 j j0 j1), h3.2.2.2⟩
theorem zFr.put {C : Int → Int → Prop} {M M1 : zM} {a j v v' : Int} (h : zFr C (zU M a j v) M1) : zFr C (zU M a j v') (zU M1 a j v') := by
  intro x y hc
  by_cases e : x = a
  · by_cases e2 : y = j
    · subst e
      subst e2
      exact (zU_s _ _ _ _).trans (zU_s _ _ _ _).symm
    · exact (zU_j _ _ _ _ e2).trans ((h x y hc).trans ((zU_j _ _ _ _ e2).trans (zU_j _ _ _ _ e2).symm))
  · exact (zU_a _ _ _ _ e).trans ((h x y hc).trans ((zU_a _ _ _ _ e).trans (zU_a _ _ _ _ e).symm))
theorem zU_id {M : zM} {a j : Int} : zU M a j (M a j) = M := by
  funext x y
  by_cases e : x = a
  · subst e
    by_cases e2 : y = j
    · subst e2
      exact zU_s _ _ _ _
    · exact zU_j _ _ _ _ e2
  · exact zU_a _ _ _ _ e
/-- no day of the year has t and another one -/
def zmn (T : Int → Int → Int) (h n t : Int) : Prop := ∀ d : Int, 0 ≤ d → d < 400 → zct T h d t → ∀ u : Int, 0 ≤ u → u < n → u ≠ t → ¬ zct T h d u
section
variable {g : zG} {N : Nat} {M : zM}
set_option maxRecDepth 20000 in
set_option maxHeartbeats 2000000 in
theorem kX10_whI (hS : zSt M) (hW : zWm M) {S : Int} (hs : 0 ≤ S ∧ S < 64) {z9 a : Int} (ha : 0 ≤ a ∧ a < M 58 12) (hX : ∀ (M1 : zM) (b : Int) (w4 : zv), zFr zMs M M1 → zfst ((fun a b => (zbt S a ∧ zbt S b) ∧ ¬ ztwo (zTm M) (M 58 12) a b) a) (a + 1) (M 58 12 - (a + 1)).toNat = -1 → zV g xX10_why (zPq (zi z9) 75 (fun M1 => zFr zMs M M1)) 79 [zr 58, zi S, zi a, zi b, w4] [] 75 M1 0 0) (hY : ∀ b : Int, a < b → zfst ((fun a b => (zbt S a ∧ zbt S b) ∧ ¬ ztwo (zTm M) (M 58 12) a b) a) (a + 1) (M 58 12 - (a + 1)).toNat = b → z9 = 10 * a + b) : ∀ (k : Nat) (b : Int) (M1 : zM) (w4 : zv), b + k = M 58 12 → a < b → zFr zMs M M1 → zfst ((fun a b => (zbt S a ∧ zbt S b) ∧ ¬ ztwo (zTm M) (M 58 12) a b) a) b k = zfst ((fun a b => (zbt S a ∧ zbt S b) ∧ ¬ ztwo (zTm M) (M 58 12) a b) a) (a + 1) (M 58 12 - (a + 1)).toNat → zV g xX10_why (zPq (zi z9) 75 (fun M1 => zFr zMs M M1)) 31 [zr 58, zi S, zi a, zi b, w4] [] 75 M1 0 0 := by
  intro k
  induction k with
  | zero =>
    intro b M1 w4 h0 h1 h2 h3
    have hn := hW.1
    have hS1 := hS.fr h2 zMs_st
    have e12 : M1 58 12 = M 58 12 := h2 _ _ (by unfold zMs; omega)
    refine zV_iload_n (pc := 31) (i := 3) dX10_why_31 rfl rfl ?_
    refine zV_aload_n (pc := 32) (i := 0) dX10_why_32 rfl rfl ?_
    refine zV_get (pc := 33) (j := 12) dX10_why_33 flX10_73 (zOb_of rfl) rfl rfl ?_
    refine zV_icmp_ge (pc := 36) (tgt := 79) dX10_why_36 (by decide) (by omega) (fun c_36 => ?_) (fun c_36 => absurd (by omega) c_36)
    exact hX M1 b _ h2 (h3.symm.trans rfl)
  | succ k ih =>
    intro b M1 w4 h0 h1 h2 h3
    have hn := hW.1
    have hS1 := hS.fr h2 zMs_st
    have e12 : M1 58 12 = M 58 12 := h2 _ _ (by unfold zMs; omega)
    have ez := z_two hs (a := a) (b := b) ⟨ha.1, by omega⟩ (by omega)
    have ep := z_pw2 (a := a) (b := b) ⟨ha.1, by omega⟩ (by omega)
    refine zV_iload_n (pc := 31) (i := 3) dX10_why_31 rfl rfl ?_
    refine zV_aload_n (pc := 32) (i := 0) dX10_why_32 rfl rfl ?_
    refine zV_get (pc := 33) (j := 12) dX10_why_33 flX10_73 (zOb_of rfl) rfl rfl ?_
    refine zV_icmp_ge (pc := 36) (tgt := 79) dX10_why_36 (by decide) (by omega) (fun c_36 => absurd c_36 (by omega)) (fun c_36 => ?_)
    refine zV_iconst (pc := 39) dX10_why_39 ?_
    refine zV_iload_n (pc := 40) (i := 2) dX10_why_40 rfl rfl ?_
    refine zV_ishl (pc := 41) dX10_why_41 (z_shl (n := a.toNat) (by omega) (by omega)) ?_
    refine zV_iconst (pc := 42) dX10_why_42 ?_
    refine zV_iload_n (pc := 43) (i := 3) dX10_why_43 rfl rfl ?_
    refine zV_ishl (pc := 44) dX10_why_44 (z_shl (n := b.toNat) (by omega) (by omega)) ?_
    refine zV_ior (pc := 45) dX10_why_45 (z_or2 ⟨ep.1, ep.2.1⟩) ?_
    refine zV_istore (pc := 46) dX10_why_46 rfl ?_
    try dsimp only [List.set_cons_succ, List.set_cons_zero]
    refine zV_iload_n (pc := 48) (i := 1) dX10_why_48 rfl rfl ?_
    refine zV_iload (pc := 49) dX10_why_49 rfl ?_
    refine zV_iand (pc := 51) dX10_why_51 ez.1 ?_
    refine zV_iload (pc := 52) dX10_why_52 rfl ?_
    refine zV_icmp_ne (pc := 54) (tgt := 73) dX10_why_54 (by decide) (by omega) (fun c_54 => ?_) (fun c_54 => ?_)
    · refine zV_iinc (pc := 73) dX10_why_73 rfl rfl ?_
      try dsimp only [List.set_cons_succ, List.set_cons_zero]
      refine zV_goto (pc := 76) (tgt := 31) dX10_why_76 (by decide) ?_
      exact ih (b + 1) M1 _ (by omega) (by omega) h2 ((zfst_f (fun y => c_54 (ez.2.1.mpr y.1))).symm.trans h3)
    · have hbits := ez.2.1.mp c_54
      refine zV_aload_n (pc := 57) (i := 0) dX10_why_57 rfl rfl ?_
      refine zV_iload (pc := 58) dX10_why_58 rfl ?_
      refine zV_ivs (pc := 60) (ci := 10) dX10_why_60 klX10_392 mX10_meets ⟨by decide, rfl⟩ rfl ⟨Nat.zero_le _, Nat.zero_le _⟩ (kX10_meets hS1 (hW.fr h2) (S := 2 ^ a.toNat + 2 ^ b.toNat) (by omega)) (zOb_of rfl) rfl rfl (Nat.le_of_ble_eq_true rfl) ?_
      have ezm : ∀ d, zmc (zTm M1) (2 ^ a.toNat + 2 ^ b.toNat) (M 58 12) d ↔ zmc (zTm M) (2 ^ a.toNat + 2 ^ b.toNat) (M 58 12) d := fun d => zmc_fr (fun e _ _ => ⟨zTm_fr h2 e 2 (by decide), zTm_fr h2 e 3 (by decide)⟩)
      rintro w9 N9 M2 ⟨rfl, fr, ⟨rfl, q⟩ | ⟨rfl, q, hs1⟩⟩
      · rw [e12] at q
        refine zV_if_ne (pc := 63) (tgt := 73) dX10_why_63 (by decide) (by decide) (fun q => absurd rfl q) (fun _ => ?_)
        refine zV_bipush (pc := 66) dX10_why_66 (by decide) ?_
        refine zV_iload_n (pc := 68) (i := 2) dX10_why_68 rfl rfl ?_
        refine zV_imul (pc := 69) dX10_why_69 ?_
        refine zV_iload_n (pc := 70) (i := 3) dX10_why_70 rfl rfl ?_
        refine zV_iadd (pc := 71) dX10_why_71 ?_
        refine zV_iret (pc := 72) dX10_why_72 trivial ⟨Nat.zero_le _, Nat.zero_le _⟩ ?_
        refine ⟨congrArg (fun x => some (zi x)) (hY b (by omega) ?_).symm, rfl, h2.tr fr⟩
        rw [← h3]
        exact zfst_t ⟨hbits, fun ⟨d, hd⟩ => q d ((ezm d).mpr hd)⟩
      · rw [e12] at q
        refine zV_if_ne (pc := 63) (tgt := 73) dX10_why_63 (by decide) (by decide) (fun _ => ?_) (fun q => absurd q (by decide))
        refine zV_iinc (pc := 73) dX10_why_73 rfl rfl ?_
        try dsimp only [List.set_cons_succ, List.set_cons_zero]
        refine zV_goto (pc := 76) (tgt := 31) dX10_why_76 (by decide) ?_
        exact ih (b + 1) M2 _ (by omega) (by omega) (h2.tr fr) ((zfst_f (fun y => y.2 ⟨M2 58 32, (ezm _).mp ((q _).mpr zmR_f)⟩)).symm.trans h3)
set_option maxRecDepth 20000 in
set_option maxHeartbeats 2000000 in
theorem kX10_whO (hS : zSt M) (hW : zWm M) {S : Int} (hs : 0 ≤ S ∧ S < 64) {z9 : Int} : ∀ (k : Nat) (a : Int) (M1 : zM) (w3 w4 : zv), a + k = M 58 12 → 0 ≤ a → zFr zMs M M1 → zwy (fun a b => (zbt S a ∧ zbt S b) ∧ ¬ ztwo (zTm M) (M 58 12) a b) (M 58 12) a k = z9 → zV g xX10_why (zPq (zi z9) 75 (fun M1 => zFr zMs M M1)) 19 [zr 58, zi S, zi a, w3, w4] [] 75 M1 0 0 := by
  intro k
  induction k with
  | zero =>
    intro a M1 w3 w4 h0 h1 h2 h3
    have hn := hW.1
    have e12 : M1 58 12 = M 58 12 := h2 _ _ (by unfold zMs; omega)
    refine zV_iload_n (pc := 19) (i := 2) dX10_why_19 rfl rfl ?_
    refine zV_aload_n (pc := 20) (i := 0) dX10_why_20 rfl rfl ?_
    refine zV_get (pc := 21) (j := 12) dX10_why_21 flX10_73 (zOb_of rfl) rfl rfl ?_
    refine zV_icmp_ge (pc := 24) (tgt := 85) dX10_why_24 (by decide) (by omega) (fun c_24 => ?_) (fun c_24 => absurd (by omega) c_24)
    refine zV_iconst (pc := 85) dX10_why_85 ?_
    refine zV_iret (pc := 86) dX10_why_86 trivial ⟨Nat.zero_le _, Nat.zero_le _⟩ ?_
    exact ⟨by rw [← h3]; rfl, rfl, h2⟩
  | succ k ih =>
    intro a M1 w3 w4 h0 h1 h2 h3
    have hn := hW.1
    have e12 : M1 58 12 = M 58 12 := h2 _ _ (by unfold zMs; omega)
    refine zV_iload_n (pc := 19) (i := 2) dX10_why_19 rfl rfl ?_
    refine zV_aload_n (pc := 20) (i := 0) dX10_why_20 rfl rfl ?_
    refine zV_get (pc := 21) (j := 12) dX10_why_21 flX10_73 (zOb_of rfl) rfl rfl ?_
    refine zV_icmp_ge (pc := 24) (tgt := 85) dX10_why_24 (by decide) (by omega) (fun c_24 => absurd c_24 (by omega)) (fun c_24 => ?_)
    refine zV_iload_n (pc := 27) (i := 2) dX10_why_27 rfl rfl ?_
    refine zV_iconst (pc := 28) dX10_why_28 ?_
    refine zV_iadd (pc := 29) dX10_why_29 ?_
    refine zV_istore_n (pc := 30) (i := 3) dX10_why_30 rfl rfl ?_
    try dsimp only [List.set_cons_succ, List.set_cons_zero]
    refine kX10_whI hS hW hs (z9 := z9) (a := a) (by omega) (fun M3 b w4 f3 q3 => ?_) (fun b hb q3 => ?_) (M 58 12 - (a + 1)).toNat (a + 1) M1 _ (by omega) (by omega) h2 rfl
    · skip
      refine zV_iinc (pc := 79) dX10_why_79 rfl rfl ?_
      try dsimp only [List.set_cons_succ, List.set_cons_zero]
      refine zV_goto (pc := 82) (tgt := 19) dX10_why_82 (by decide) ?_
      exact ih (a + 1) M3 _ _ (by omega) (by omega) f3 ((if_pos q3).symm.trans h3)
    · have h4 : (if zfst ((fun a b => (zbt S a ∧ zbt S b) ∧ ¬ ztwo (zTm M) (M 58 12) a b) a) (a + 1) (M 58 12 - (a + 1)).toNat = -1 then zwy (fun a b => (zbt S a ∧ zbt S b) ∧ ¬ ztwo (zTm M) (M 58 12) a b) (M 58 12) (a + 1) k else 10 * a + zfst ((fun a b => (zbt S a ∧ zbt S b) ∧ ¬ ztwo (zTm M) (M 58 12) a b) a) (a + 1) (M 58 12 - (a + 1)).toNat) = z9 := h3
      rw [q3, if_neg (by omega)] at h4
      exact h4.symm
set_option maxRecDepth 20000 in
set_option maxHeartbeats 2000000 in
theorem kX10_why (hS : zSt M) (hW : zWm M) {S : Int} (hs : -2147483648 ≤ S ∧ S ≤ 2147483647) : zK g yX10_why xX10_why [zr 58, zi S] 75 M (zPq (zi (zif (0 ≤ S ∧ S ≤ 2 ^ (M 58 12).toNat - 1) (zwy (fun a b => (zbt S a ∧ zbt S b) ∧ ¬ ztwo (zTm M) (M 58 12) a b) (M 58 12) 0 (M 58 12).toNat) (-2))) 75 (fun M1 => zFr zMs M M1)) := by
  refine zK_of (ls0 := [zr 58, zi S, (3, 0), (3, 0), (3, 0)]) (by decide) rfl (by decide) rfl (Nat.le_of_ble_eq_true rfl) ?_
  refine zV_iload_n (pc := 0) (i := 1) dX10_why_0 rfl rfl ?_
  refine zV_i2l (pc := 1) dX10_why_1 (by omega) ?_
  refine zV_lconst0 (pc := 2) dX10_why_2 ?_
  refine zV_aload_n (pc := 3) (i := 0) dX10_why_3 rfl rfl ?_
  refine zV_ivp (pc := 4) (ci := 10) dX10_why_4 klX10_389 mX10_allThings ⟨by decide, rfl⟩ rfl ⟨Nat.zero_le _, Nat.zero_le _⟩ (kX10_allThings hW.1) (zOb_of rfl) rfl rfl (Nat.le_of_ble_eq_true rfl) ?_
  have h2p : (1 : Int) ≤ 2 ^ (M 58 12).toNat ∧ (2 : Int) ^ (M 58 12).toNat ≤ 64 := by
    have hn := hW.1
    rcases (show (M 58 12).toNat = 0 ∨ (M 58 12).toNat = 1 ∨ (M 58 12).toNat = 2 ∨ (M 58 12).toNat = 3 ∨ (M 58 12).toNat = 4 ∨ (M 58 12).toNat = 5 ∨ (M 58 12).toNat = 6 by omega) with e | e | e | e | e | e | e <;> rw [e] <;> decide
  refine zV_i2l (pc := 7) dX10_why_7 (by omega) ?_
  refine zV_isp (pc := 8) dX10_why_8 klX10_76 mX10_in rfl ⟨Nat.zero_le _, Nat.zero_le _⟩ (kX10_in (by omega) (by omega) (by omega)) rfl rfl (Nat.le_of_ble_eq_true rfl) ?_
  refine zV_if_neb (pc := 11) (tgt := 17) dX10_why_11 (by decide) (fun c_11 => ?_) (fun c_11 => ?_)
  · refine zV_iconst (pc := 17) dX10_why_17 ?_
    refine zV_istore_n (pc := 18) (i := 2) dX10_why_18 rfl rfl ?_
    try dsimp only [List.set_cons_succ, List.set_cons_zero]
    rw [zif_t c_11]
    exact kX10_whO hS hW (by omega) (M 58 12).toNat 0 M _ _ (by have := hW.1; omega) (by omega) zFr.rf rfl
  · refine zV_bipush (pc := 14) dX10_why_14 (by decide) ?_
    refine zV_iret (pc := 16) dX10_why_16 trivial ⟨Nat.zero_le _, Nat.zero_le _⟩ ?_
    exact ⟨by rw [zif_f c_11], rfl, zFr.rf⟩
set_option maxRecDepth 20000 in
set_option maxHeartbeats 2000000 in
theorem kX10_mnI {tp : Int → Int} {z : Int} (hR : zRo2 M tp z) {t d : Int} (ht : 0 ≤ t ∧ t < M 58 12) (hd : 0 ≤ d ∧ d < 400) (hc : zct (zTm M) (M 58 7) d t) (hX : ∀ u : Int, (∀ e : Int, 0 ≤ e → e < M 58 12 → e ≠ t → ¬ zct (zTm M) (M 58 7) d e) → zV g xX10_meetsNone (zPp (zi (zb (zmn (zTm M) (M 58 7) (M 58 12) t))) 75 M) 50 [zr 58, zi t, zi d, zi u] [] 75 M 0 0) : ∀ (k : Nat) (u : Int), u + k = M 58 12 → 0 ≤ u → (∀ e : Int, 0 ≤ e → e < u → e ≠ t → ¬ zct (zTm M) (M 58 7) d e) → zV g xX10_meetsNone (zPp (zi (zb (zmn (zTm M) (M 58 7) (M 58 12) t))) 75 M) 20 [zr 58, zi t, zi d, zi u] [] 75 M 0 0 := by
  intro k
  induction k with
  | zero =>
    intro u h0 h1 h2
    have hn := hR.2.1.1
    refine zV_iload_n (pc := 20) (i := 3) dX10_meetsNone_20 rfl rfl ?_
    refine zV_aload_n (pc := 21) (i := 0) dX10_meetsNone_21 rfl rfl ?_
    refine zV_get (pc := 22) (j := 12) dX10_meetsNone_22 flX10_73 (zOb_of rfl) rfl rfl ?_
    refine zV_icmp_ge (pc := 25) (tgt := 50) dX10_meetsNone_25 (by decide) (by omega) (fun c_25 => ?_) (fun c_25 => absurd (by omega) c_25)
    exact hX u (fun e e0 e1 hne => h2 e e0 (by omega) hne)
  | succ k ih =>
    intro u h0 h1 h2
    have hn := hR.2.1.1
    refine zV_iload_n (pc := 20) (i := 3) dX10_meetsNone_20 rfl rfl ?_
    refine zV_aload_n (pc := 21) (i := 0) dX10_meetsNone_21 rfl rfl ?_
    refine zV_get (pc := 22) (j := 12) dX10_meetsNone_22 flX10_73 (zOb_of rfl) rfl rfl ?_
    refine zV_icmp_ge (pc := 25) (tgt := 50) dX10_meetsNone_25 (by decide) (by omega) (fun c_25 => absurd c_25 (by omega)) (fun c_25 => ?_)
    refine zV_iload_n (pc := 28) (i := 3) dX10_meetsNone_28 rfl rfl ?_
    refine zV_iload_n (pc := 29) (i := 1) dX10_meetsNone_29 rfl rfl ?_
    refine zV_icmp_eq (pc := 30) (tgt := 44) dX10_meetsNone_30 (by decide) (by omega) (fun c_30 => ?_) (fun c_30 => ?_)
    · refine zV_iinc (pc := 44) dX10_meetsNone_44 rfl rfl ?_
      try dsimp only [List.set_cons_succ, List.set_cons_zero]
      refine zV_goto (pc := 47) (tgt := 20) dX10_meetsNone_47 (by decide) ?_
      refine ih (u + 1) (by omega) (by omega) (fun e e0 e1 hne => ?_)
      by_cases q : e = u
      · subst q
        first
        | exact absurd c_30 hne
        | exact c_39
      · exact h2 e e0 (by omega) hne
    · refine zV_aload_n (pc := 33) (i := 0) dX10_meetsNone_33 rfl rfl ?_
      refine zV_iload_n (pc := 34) (i := 3) dX10_meetsNone_34 rfl rfl ?_
      refine zV_iload_n (pc := 35) (i := 2) dX10_meetsNone_35 rfl rfl ?_
      refine zV_ivp (pc := 36) (ci := 10) dX10_meetsNone_36 klX10_336 mX10_comes ⟨by decide, rfl⟩ rfl ⟨Nat.zero_le _, Nat.zero_le _⟩ (kX10_comesF hR zFr.rf (by omega) (by omega)) (zOb_of rfl) rfl rfl (Nat.le_of_ble_eq_true rfl) ?_
      refine zV_if_eqb (pc := 39) (tgt := 44) dX10_meetsNone_39 (by decide) (fun c_39 => ?_) (fun c_39 => ?_)
      · refine zV_iinc (pc := 44) dX10_meetsNone_44 rfl rfl ?_
        try dsimp only [List.set_cons_succ, List.set_cons_zero]
        refine zV_goto (pc := 47) (tgt := 20) dX10_meetsNone_47 (by decide) ?_
        refine ih (u + 1) (by omega) (by omega) (fun e e0 e1 hne => ?_)
        by_cases q : e = u
        · subst q
          first
          | exact absurd c_30 hne
          | exact c_39
        · exact h2 e e0 (by omega) hne
      · refine zV_iconst (pc := 42) dX10_meetsNone_42 ?_
        refine zV_iret (pc := 43) dX10_meetsNone_43 (by first | exact zok_b1 | exact zok_b0 | exact zok_b) ⟨Nat.zero_le _, Nat.zero_le _⟩ ?_
        exact zPf (fun q => q d hd.1 hd.2 hc u h1 (by omega) c_30 c_39)
set_option maxRecDepth 20000 in
set_option maxHeartbeats 2000000 in
theorem kX10_mnL {tp : Int → Int} {z : Int} (hR : zRo2 M tp z) {t : Int} (ht : 0 ≤ t ∧ t < M 58 12) : ∀ (k : Nat) (d : Int) (w3 : zv), d + k = 400 → 0 ≤ d → (∀ e : Int, 0 ≤ e → e < d → zct (zTm M) (M 58 7) e t → ∀ u : Int, 0 ≤ u → u < M 58 12 → u ≠ t → ¬ zct (zTm M) (M 58 7) e u) → zV g xX10_meetsNone (zPp (zi (zb (zmn (zTm M) (M 58 7) (M 58 12) t))) 75 M) 2 [zr 58, zi t, zi d, w3] [] 75 M 0 0 := by
  intro k
  induction k with
  | zero =>
    intro d w3 h0 h1 h2
    have hn := hR.2.1.1
    refine zV_iload_n (pc := 2) (i := 2) dX10_meetsNone_2 rfl rfl ?_
    refine zV_sipush (pc := 3) dX10_meetsNone_3 (by decide) ?_
    refine zV_icmp_ge (pc := 6) (tgt := 56) dX10_meetsNone_6 (by decide) (by omega) (fun c_6 => ?_) (fun c_6 => absurd (by omega) c_6)
    refine zV_iconst (pc := 56) dX10_meetsNone_56 ?_
    refine zV_iret (pc := 57) dX10_meetsNone_57 (by first | exact zok_b1 | exact zok_b0 | exact zok_b) ⟨Nat.zero_le _, Nat.zero_le _⟩ ?_
    exact zPt (fun e e0 e1 => h2 e e0 (by omega))
  | succ k ih =>
    intro d w3 h0 h1 h2
    have hn := hR.2.1.1
    refine zV_iload_n (pc := 2) (i := 2) dX10_meetsNone_2 rfl rfl ?_
    refine zV_sipush (pc := 3) dX10_meetsNone_3 (by decide) ?_
    refine zV_icmp_ge (pc := 6) (tgt := 56) dX10_meetsNone_6 (by decide) (by omega) (fun c_6 => absurd c_6 (by omega)) (fun c_6 => ?_)
    refine zV_aload_n (pc := 9) (i := 0) dX10_meetsNone_9 rfl rfl ?_
    refine zV_iload_n (pc := 10) (i := 1) dX10_meetsNone_10 rfl rfl ?_
    refine zV_iload_n (pc := 11) (i := 2) dX10_meetsNone_11 rfl rfl ?_
    refine zV_ivp (pc := 12) (ci := 10) dX10_meetsNone_12 klX10_336 mX10_comes ⟨by decide, rfl⟩ rfl ⟨Nat.zero_le _, Nat.zero_le _⟩ (kX10_comesF hR zFr.rf (by omega) (by omega)) (zOb_of rfl) rfl rfl (Nat.le_of_ble_eq_true rfl) ?_
    refine zV_if_eqb (pc := 15) (tgt := 50) dX10_meetsNone_15 (by decide) (fun c_15 => ?_) (fun c_15 => ?_)
    · refine zV_iinc (pc := 50) dX10_meetsNone_50 rfl rfl ?_
      try dsimp only [List.set_cons_succ, List.set_cons_zero]
      refine zV_goto (pc := 53) (tgt := 2) dX10_meetsNone_53 (by decide) ?_
      refine ih (d + 1) _ (by omega) (by omega) (fun e e0 e1 hc u u0 u1 hne => ?_)
      by_cases q : e = d
      · subst q
        first
        | exact absurd hc c_15
        | exact hall u u0 u1 hne
      · exact h2 e e0 (by omega) hc u u0 u1 hne
    · refine zV_iconst (pc := 18) dX10_meetsNone_18 ?_
      refine zV_istore_n (pc := 19) (i := 3) dX10_meetsNone_19 rfl rfl ?_
      try dsimp only [List.set_cons_succ, List.set_cons_zero]
      refine kX10_mnI hR ht ⟨h1, by omega⟩ c_15 (fun v hall => ?_) (M 58 12).toNat 0 (by omega) (by omega) (fun e e0 e1 => absurd e0 (by omega))
      refine zV_iinc (pc := 50) dX10_meetsNone_50 rfl rfl ?_
      try dsimp only [List.set_cons_succ, List.set_cons_zero]
      refine zV_goto (pc := 53) (tgt := 2) dX10_meetsNone_53 (by decide) ?_
      refine ih (d + 1) _ (by omega) (by omega) (fun e e0 e1 hc u u0 u1 hne => ?_)
      by_cases q : e = d
      · subst q
        first
        | exact absurd hc c_15
        | exact hall u u0 u1 hne
      · exact h2 e e0 (by omega) hc u u0 u1 hne
set_option maxRecDepth 20000 in
set_option maxHeartbeats 2000000 in
theorem kX10_meetsNone {tp : Int → Int} {z : Int} (hR : zRo2 M tp z) {t : Int} (ht : 0 ≤ t ∧ t < M 58 12) : zK g yX10_meetsNone xX10_meetsNone [zr 58, zi t] 75 M (zPp (zi (zb (zmn (zTm M) (M 58 7) (M 58 12) t))) 75 M) := by
  refine zK_of (ls0 := [zr 58, zi t, (3, 0), (3, 0)]) (by decide) rfl (by decide) rfl (Nat.le_of_ble_eq_true rfl) ?_
  refine zV_iconst (pc := 0) dX10_meetsNone_0 ?_
  refine zV_istore_n (pc := 1) (i := 2) dX10_meetsNone_1 rfl rfl ?_
  try dsimp only [List.set_cons_succ, List.set_cons_zero]
  exact kX10_mnL hR ht 400 0 _ (by omega) (by omega) (fun e e0 e1 => absurd e0 (by omega))
/-- M with t's begin s days later -/
def zsh_ (M : zM) (t s : Int) : zM := zU M 65 t ((M 65 t + s) % 60)
def zmnS (M : zM) (t s : Int) : Prop := zmn (zTm (zsh_ M t s)) (M 58 7) (M 58 12) t
set_option maxRecDepth 20000 in
set_option maxHeartbeats 2000000 in
theorem kX10_shL {tp : Int → Int} {z : Int} (hR : zRo2 M tp z) {t : Int} (ht : 0 ≤ t ∧ t < M 58 12) : ∀ (k : Nat) (s f v : Int) (M1 : zM), s + k = 60 → 0 ≤ s → zFr zMs (zU M 65 t v) M1 → (0 ≤ v ∧ v ≤ 59) → (f = zfst (fun s => zmnS M t s) 0 60 ∨ (f = -1 ∧ zfst (fun s => zmnS M t s) s k = zfst (fun s => zmnS M t s) 0 60)) → (f = -1 → zfst (fun s => zmnS M t s) s k = zfst (fun s => zmnS M t s) 0 60) → zV g xX10_shift (zPq (zi (zfst (fun s => zmnS M t s) 0 60)) 75 (fun M1 => zFr zMs M M1)) 23 [zr 58, zi t, zi (M 65 t), zi f, zi s] [] 75 M1 0 0 := by
  intro k
  induction k with
  | zero =>
    intro s f v M1 h0 h1 h2 h3 h4 h5
    have hn := hR.2.1.1
    have hR1 := (hR.b (t := t) (v := v) h3).fr h2
    have hS1 := hR1.1
    have hb := (hR.2.1.2 t ht.1 ht.2).2.2.2
    have hb2 : 0 ≤ M 65 t ∧ M 65 t ≤ 59 := hb
    have hfr : -1 ≤ f ∧ f ≤ 59 := by have := zfst_r (q := (fun s => zmnS M t s)) (k := 60) (a := 0); omega
    have hfin : f = zfst (fun s => zmnS M t s) 0 60 := h4.elim id (fun q => by rw [q.1, ← q.2]; rfl)
    refine zV_iload (pc := 23) dX10_shift_23 rfl ?_
    refine zV_bipush (pc := 25) dX10_shift_25 (by decide) ?_
    refine zV_icmp_ge (pc := 27) (tgt := 69) dX10_shift_27 (by decide) (by omega) (fun c_27 => ?_) (fun c_27 => absurd (by omega) c_27)
    refine zV_aload_n (pc := 69) (i := 0) dX10_shift_69 rfl rfl ?_
    refine zV_get (pc := 70) (j := 11) dX10_shift_70 flX10_32 (zOb_of rfl) rfl hS1.e58_11 ?_
    refine zV_iload_n (pc := 73) (i := 1) dX10_shift_73 rfl rfl ?_
    refine zV_iload_n (pc := 74) (i := 2) dX10_shift_74 rfl rfl ?_
    refine zV_iast (pc := 75) dX10_shift_75 (zAr_of rfl : zAr 75 65 0 6) (by omega) ?_
    refine zV_iload_n (pc := 76) (i := 3) dX10_shift_76 rfl rfl ?_
    refine zV_iret (pc := 77) dX10_shift_77 trivial ⟨Nat.zero_le _, Nat.zero_le _⟩ ?_
    exact ⟨by rw [hfin], rfl, h2.back⟩
  | succ k ih =>
    intro s f v M1 h0 h1 h2 h3 h4 h5
    have hn := hR.2.1.1
    have hR1 := (hR.b (t := t) (v := v) h3).fr h2
    have hS1 := hR1.1
    have hb := (hR.2.1.2 t ht.1 ht.2).2.2.2
    have hb2 : 0 ≤ M 65 t ∧ M 65 t ≤ 59 := hb
    have hfr : -1 ≤ f ∧ f ≤ 59 := by have := zfst_r (q := (fun s => zmnS M t s)) (k := 60) (a := 0); omega
    refine zV_iload (pc := 23) dX10_shift_23 rfl ?_
    refine zV_bipush (pc := 25) dX10_shift_25 (by decide) ?_
    refine zV_icmp_ge (pc := 27) (tgt := 69) dX10_shift_27 (by decide) (by omega) (fun c_27 => absurd c_27 (by omega)) (fun c_27 => ?_)
    refine zV_iload_n (pc := 30) (i := 3) dX10_shift_30 rfl rfl ?_
    refine zV_iconst (pc := 31) dX10_shift_31 ?_
    refine zV_icmp_ne (pc := 32) (tgt := 69) dX10_shift_32 (by decide) (by omega) (fun c_32 => ?_) (fun c_32 => ?_)
    · have hfin : f = zfst (fun s => zmnS M t s) 0 60 := h4.elim id (fun q => absurd q.1 c_32)
      refine zV_aload_n (pc := 69) (i := 0) dX10_shift_69 rfl rfl ?_
      refine zV_get (pc := 70) (j := 11) dX10_shift_70 flX10_32 (zOb_of rfl) rfl hS1.e58_11 ?_
      refine zV_iload_n (pc := 73) (i := 1) dX10_shift_73 rfl rfl ?_
      refine zV_iload_n (pc := 74) (i := 2) dX10_shift_74 rfl rfl ?_
      refine zV_iast (pc := 75) dX10_shift_75 (zAr_of rfl : zAr 75 65 0 6) (by omega) ?_
      refine zV_iload_n (pc := 76) (i := 3) dX10_shift_76 rfl rfl ?_
      refine zV_iret (pc := 77) dX10_shift_77 trivial ⟨Nat.zero_le _, Nat.zero_le _⟩ ?_
      exact ⟨by rw [hfin], rfl, h2.back⟩
    · refine zV_aload_n (pc := 35) (i := 0) dX10_shift_35 rfl rfl ?_
      refine zV_get (pc := 36) (j := 11) dX10_shift_36 flX10_32 (zOb_of rfl) rfl hS1.e58_11 ?_
      refine zV_iload_n (pc := 39) (i := 1) dX10_shift_39 rfl rfl ?_
      refine zV_iload_n (pc := 40) (i := 2) dX10_shift_40 rfl rfl ?_
      refine zV_iload (pc := 41) dX10_shift_41 rfl ?_
      refine zV_iadd (pc := 43) dX10_shift_43 ?_
      refine zV_bipush (pc := 44) dX10_shift_44 (by decide) ?_
      refine zV_iremN (pc := 46) dX10_shift_46 (by omega) (by omega) ?_
      refine zV_iast (pc := 47) dX10_shift_47 (zAr_of rfl : zAr 75 65 0 6) (by omega) ?_
      have fp : zFr zMs (zsh_ M t s) (zU M1 65 t ((M 65 t + s) % 60)) := h2.put
      have hv9 : 0 ≤ (M 65 t + s) % 60 ∧ (M 65 t + s) % 60 ≤ 59 := by omega
      have hR2 : zRo2 (zU M1 65 t ((M 65 t + s) % 60)) tp z := (hR.b (t := t) hv9).fr fp
      have e12 : zU M1 65 t ((M 65 t + s) % 60) 58 12 = M 58 12 := (fp _ _ (by unfold zMs; omega)).trans (zU_a _ _ _ _ (by decide))
      have e7 : zU M1 65 t ((M 65 t + s) % 60) 58 7 = M 58 7 := (fp _ _ (by unfold zMs; omega)).trans (zU_a _ _ _ _ (by decide))
      have ez : zmn (zTm (zU M1 65 t ((M 65 t + s) % 60))) (zU M1 65 t ((M 65 t + s) % 60) 58 7) (zU M1 65 t ((M 65 t + s) % 60) 58 12) t ↔ zmnS M t s := by
        unfold zmnS zmn
        rw [e12, e7]
        have q : ∀ d u, zct (zTm (zU M1 65 t ((M 65 t + s) % 60))) (M 58 7) d u = zct (zTm (zsh_ M t s)) (M 58 7) d u := fun d u => zct_e (fun f f0 f1 => zTm_fr fp u f ⟨f0, f1⟩) rfl
        simp only [q]
      have h4c : zfst (fun s => zmnS M t s) s (k + 1) = zfst (fun s => zmnS M t s) 0 60 := h5 c_32
      refine zV_aload_n (pc := 48) (i := 0) dX10_shift_48 rfl rfl ?_
      refine zV_iload_n (pc := 49) (i := 1) dX10_shift_49 rfl rfl ?_
      refine zV_ivp (pc := 50) (ci := 10) dX10_shift_50 klX10_397 mX10_meetsNone ⟨by decide, rfl⟩ rfl ⟨Nat.zero_le _, Nat.zero_le _⟩ (kX10_meetsNone hR2 (t := t) (by rw [e12]; exact ht)) (zOb_of rfl) rfl rfl (Nat.le_of_ble_eq_true rfl) ?_
      refine zV_if_eqb (pc := 53) (tgt := 61) dX10_shift_53 (by decide) (fun c_53 => ?_) (fun c_53 => ?_)
      · refine zV_iconst (pc := 61) dX10_shift_61 ?_
        refine zV_istore_n (pc := 62) (i := 3) dX10_shift_62 rfl rfl ?_
        try dsimp only [List.set_cons_succ, List.set_cons_zero]
        refine zV_iinc (pc := 63) dX10_shift_63 rfl rfl ?_
        try dsimp only [List.set_cons_succ, List.set_cons_zero]
        refine zV_goto (pc := 66) (tgt := 23) dX10_shift_66 (by decide) ?_
        first
          | exact ih (s + 1) s _ _ (by omega) (by omega) fp hv9 (Or.inl ((zfst_t (q := (fun s => zmnS M t s)) (ez.mp c_53)).symm.trans h4c)) (fun q => by omega)
          | exact ih (s + 1) (-1) _ _ (by omega) (by omega) fp hv9 (Or.inr ⟨rfl, (zfst_f (q := (fun s => zmnS M t s)) (fun y => c_53 (ez.mpr y))).symm.trans h4c⟩) (fun _ => (zfst_f (q := (fun s => zmnS M t s)) (fun y => c_53 (ez.mpr y))).symm.trans h4c)
      · refine zV_iload (pc := 56) dX10_shift_56 rfl ?_
        refine zV_goto (pc := 58) (tgt := 62) dX10_shift_58 (by decide) ?_
        refine zV_istore_n (pc := 62) (i := 3) dX10_shift_62 rfl rfl ?_
        try dsimp only [List.set_cons_succ, List.set_cons_zero]
        refine zV_iinc (pc := 63) dX10_shift_63 rfl rfl ?_
        try dsimp only [List.set_cons_succ, List.set_cons_zero]
        refine zV_goto (pc := 66) (tgt := 23) dX10_shift_66 (by decide) ?_
        first
          | exact ih (s + 1) s _ _ (by omega) (by omega) fp hv9 (Or.inl ((zfst_t (q := (fun s => zmnS M t s)) (ez.mp c_53)).symm.trans h4c)) (fun q => by omega)
          | exact ih (s + 1) (-1) _ _ (by omega) (by omega) fp hv9 (Or.inr ⟨rfl, (zfst_f (q := (fun s => zmnS M t s)) (fun y => c_53 (ez.mpr y))).symm.trans h4c⟩) (fun _ => (zfst_f (q := (fun s => zmnS M t s)) (fun y => c_53 (ez.mpr y))).symm.trans h4c)
set_option maxRecDepth 20000 in
set_option maxHeartbeats 2000000 in
theorem kX10_shift {tp : Int → Int} {z : Int} (hR : zRo2 M tp z) {t : Int} (ht : -2147483648 ≤ t ∧ t ≤ 2147483647) : zK g yX10_shift xX10_shift [zr 58, zi t] 75 M (zPq (zi (zif (0 ≤ t ∧ t < M 58 12) (zfst (fun s => zmnS M t s) 0 60) (-2))) 75 (fun M1 => zFr zMs M M1)) := by
  refine zK_of (ls0 := [zr 58, zi t, (3, 0), (3, 0), (3, 0)]) (by decide) rfl (by decide) rfl (Nat.le_of_ble_eq_true rfl) ?_
  have hn := hR.2.1.1
  refine zV_aload_n (pc := 0) (i := 0) dX10_shift_0 rfl rfl ?_
  refine zV_iload_n (pc := 1) (i := 1) dX10_shift_1 rfl rfl ?_
  refine zV_ivp (pc := 2) (ci := 10) dX10_shift_2 klX10_84 mX10_isThing ⟨by decide, rfl⟩ rfl ⟨Nat.zero_le _, Nat.zero_le _⟩ (kX10_isThing hR.2.1.1 (by omega)) (zOb_of rfl) rfl rfl (Nat.le_of_ble_eq_true rfl) ?_
  refine zV_if_neb (pc := 5) (tgt := 11) dX10_shift_5 (by decide) (fun c_5 => ?_) (fun c_5 => ?_)
  · refine zV_aload_n (pc := 11) (i := 0) dX10_shift_11 rfl rfl ?_
    refine zV_get (pc := 12) (j := 11) dX10_shift_12 flX10_32 (zOb_of rfl) rfl hR.1.e58_11 ?_
    refine zV_iload_n (pc := 15) (i := 1) dX10_shift_15 rfl rfl ?_
    refine zV_iald (pc := 16) dX10_shift_16 (zAr_of rfl : zAr 75 65 0 6) (by omega) rfl ?_
    refine zV_istore_n (pc := 17) (i := 2) dX10_shift_17 rfl rfl ?_
    try dsimp only [List.set_cons_succ, List.set_cons_zero]
    refine zV_iconst (pc := 18) dX10_shift_18 ?_
    refine zV_istore_n (pc := 19) (i := 3) dX10_shift_19 rfl rfl ?_
    try dsimp only [List.set_cons_succ, List.set_cons_zero]
    refine zV_iconst (pc := 20) dX10_shift_20 ?_
    refine zV_istore (pc := 21) dX10_shift_21 rfl ?_
    try dsimp only [List.set_cons_succ, List.set_cons_zero]
    rw [zif_t c_5]
    have hb : 0 ≤ M 65 t ∧ M 65 t ≤ 59 := (hR.2.1.2 t c_5.1 c_5.2).2.2.2
    exact kX10_shL hR c_5 60 0 (-1) (M 65 t) M (by omega) (by omega) (by rw [zU_id]; exact zFr.rf) hb (Or.inr ⟨rfl, rfl⟩) (fun _ => rfl)
  · refine zV_bipush (pc := 8) dX10_shift_8 (by decide) ?_
    refine zV_iret (pc := 10) dX10_shift_10 trivial ⟨Nat.zero_le _, Nat.zero_le _⟩ ?_
    exact ⟨by rw [zif_f c_5], rfl, zFr.rf⟩
end
