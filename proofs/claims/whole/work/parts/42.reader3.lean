/-! THE CLASS'S READER: the levels of the grammar, read, text (printed by wip/whole/p42.py) -/
section
variable {g : zG} {N : Nat} {M : zM}
/-- what a method of the grammar does -/
def zKf (g : zG) (y : MethodName) (X : zX) (t : Int) (tp : Int → Int) (z o : Int) (f : zσ → zρ) : Prop :=
  ∀ (M : zM) (s : zσ) (L : List Int), zRC M t tp z → zRd M s → zσo z s → zTl M t L → L.length + (f s).1.length ≤ 160 → zK g y X [zr 18, zi o] 75 M (zPn 75 (fun M1 => zRd M1 (f s).2 ∧ zTl M1 t (L ++ (f s).1) ∧ zFr (zRF t) M M1))
theorem zlo_t {tp : Int → Int} {z : Int} {q : Int → Prop} {stp : Int → Int} {f : zσ → zρ} {k : Nat} {x : zρ} (h : q x.2.tk) : zlo tp z q stp f (k + 1) x = zlo tp z q stp f k (x.1 ++ (f (zadv tp z x.2)).1 ++ [stp x.2.tk], (f (zadv tp z x.2)).2) := zit_t h
theorem zlo_f {tp : Int → Int} {z : Int} {q : Int → Prop} {stp : Int → Int} {f : zσ → zρ} {k : Nat} {x : zρ} (h : ¬ q x.2.tk) : zlo tp z q stp f k x = x := by
  cases k with
  | zero => rfl
  | succ k => exact zit_f h
theorem zlo_l {tp : Int → Int} {z : Int} {q : Int → Prop} {stp : Int → Int} {f : zσ → zρ} : ∀ (k : Nat) (x : zρ), x.1.length ≤ (zlo tp z q stp f k x).1.length := by
  intro k
  induction k with
  | zero => intro x; exact Nat.le_refl _
  | succ k ih =>
    intro x
    by_cases h : q x.2.tk
    · rw [zlo_t h]
      refine Nat.le_trans ?_ (ih _)
      show x.1.length ≤ (x.1 ++ (f (zadv tp z x.2)).1 ++ [stp x.2.tk]).length
      simp only [List.length_append]
      omega
    · rw [zlo_f h]
      exact Nat.le_refl _
set_option maxRecDepth 20000 in
set_option maxHeartbeats 2000000 in
theorem kX3_readTermL {t z o : Int} {tp : Int → Int} {d d1 : Nat} {f : zσ → zρ} (ht : 0 ≤ t ∧ t < 6) (hT : ztp tp z) (ho : 0 ≤ o ∧ o ≤ 5) (hd : d1 + 1 ≤ d ∧ 10 ≤ d) (hf : zgd z f) (hK1 : zKf g yX3_readOne (xX3_readOne d1) t tp z o f) {V : zρ} {M0 : zM} {L0 : List Int} : ∀ (k : Nat) (i : Int) (x : zρ) (M1 : zM), i + k = 160 → 0 ≤ i → (0 : Int) ≤ 0 → zRC M1 t tp z → zRd M1 x.2 → zσo z x.2 → zTl M1 t (L0 ++ x.1) → L0.length + V.1.length ≤ 160 → zlo tp z (fun t => t = 42) (fun t => (-18 : Int)) f k x = V → zFr (zRF t) M0 M1 → zV g (xX3_readTerm d) (zPn 75 (fun M1 => zRd M1 V.2 ∧ zTl M1 t (L0 ++ V.1) ∧ zFr (zRF t) M0 M1)) 7 [zr 18, zi o, zi i] [] 75 M1 0 0 := by
  intro k
  induction k with
  | zero =>
    intro i x M1 h0 h1 h2 h3 h4 h5 h6 h7 h8 h9
    have hS := h3.1
    have h187 := h3.2.1
    have hz := hT.1
    have er := h4
    obtain ⟨e4, e5, e3, e2, e6⟩ := er
    have hr := h5.2.2.2.2.1
    refine zV_iload_n (pc := 7) (i := 2) dX3_readTerm_7 rfl rfl ?_
    refine zV_sipush (pc := 8) dX3_readTerm_8 (by decide) ?_
    refine zV_icmp_ge (pc := 11) (tgt := 47) dX3_readTerm_11 (by decide) (by omega) (fun c_11 => ?_) (fun c_11 => absurd (by omega) c_11)
    refine zV_vret (pc := 47) dX3_readTerm_47 trivial ⟨Nat.zero_le _, Nat.zero_le _⟩ ?_
    subst h8
    exact ⟨rfl, rfl, h4, h6, h9⟩
  | succ k ih =>
    intro i x M1 h0 h1 h2 h3 h4 h5 h6 h7 h8 h9
    have hS := h3.1
    have h187 := h3.2.1
    have hz := hT.1
    have er := h4
    obtain ⟨e4, e5, e3, e2, e6⟩ := er
    have hr := h5.2.2.2.2.1
    refine zV_iload_n (pc := 7) (i := 2) dX3_readTerm_7 rfl rfl ?_
    refine zV_sipush (pc := 8) dX3_readTerm_8 (by decide) ?_
    refine zV_icmp_ge (pc := 11) (tgt := 47) dX3_readTerm_11 (by decide) (by omega) (fun c_11 => absurd c_11 (by omega)) (fun c_11 => ?_)
    refine zV_aload_n (pc := 14) (i := 0) dX3_readTerm_14 rfl rfl ?_
    refine zV_get (pc := 15) (j := 4) dX3_readTerm_15 flX3_47 (zOb_of rfl) rfl e4 ?_
    refine zV_bipush (pc := 18) dX3_readTerm_18 (by decide) ?_
    refine zV_icmp_ne (pc := 20) (tgt := 47) dX3_readTerm_20 (by decide) (by omega) (fun c_20 => ?_) (fun c_20 => ?_)
    · refine zV_vret (pc := 47) dX3_readTerm_47 trivial ⟨Nat.zero_le _, Nat.zero_le _⟩ ?_
      have e8 := (zlo_f (tp := tp) (z := z) (q := fun t => t = 42) (stp := fun t => (-18 : Int)) (f := f) (k := k + 1) (x := x) c_20).symm.trans h8
      rw [← e8]
      exact ⟨rfl, rfl, h4, h6, h9⟩
    · refine zV_aload_n (pc := 23) (i := 0) dX3_readTerm_23 rfl rfl ?_
      refine zV_ivn (pc := 24) (ci := 3) dX3_readTerm_24 klX3_34 mX3_advance ⟨by decide, rfl⟩ (zRm0_z rfl rfl (Nat.le_of_ble_eq_true rfl) (by omega)) ⟨Nat.zero_le _, Nat.zero_le _⟩ (kX3_advance ht h3 hT (s := x.2) (by have := h5.1; omega) e2 e6) (zOb_of rfl) rfl rfl (Nat.le_of_ble_eq_true rfl) (fun M2 q2 => ?_)
      have hq : (fun t : Int => t = 42) x.2.tk := c_20
      have hlv : zlive x.2 := ⟨by omega, by omega⟩
      have f2 : zFr (zRF t) M1 M2 := q2.2.mono (fun a j y => zAF_R y)
      have ga := (zgx_ad hT h5 hlv).1
      have e8 := (zlo_t (q := fun t => t = 42) (stp := fun t => (-18 : Int)) (f := f) (k := k) hq).symm.trans h8
      have l8 := zlo_l (tp := tp) (z := z) (q := fun t => t = 42) (stp := fun t => (-18 : Int)) (f := f) k (x.1 ++ (f (zadv tp z x.2)).1 ++ [(fun t => (-18 : Int)) x.2.tk], (f (zadv tp z x.2)).2)
      rw [e8] at l8
      simp only [List.length_append, List.length_cons, List.length_nil] at l8
      have gf := hf (zadv tp z x.2) ga.1
      have hC2 := h3.fr ht f2
      have hS2 := hC2.1
      have h187b := hC2.2.1
      refine zV_aload_n (pc := 27) (i := 0) dX3_readTerm_27 rfl rfl ?_
      refine zV_iload_n (pc := 28) (i := 1) dX3_readTerm_28 rfl rfl ?_
      refine zV_ivn (pc := 29) (ci := 3) dX3_readTerm_29 klX3_74 (mX3_readOne _) ⟨by decide, rfl⟩ (zRm0_z rfl rfl (Nat.le_of_ble_eq_true rfl) (by omega)) ⟨Nat.zero_le _, Nat.zero_le _⟩ (hK1 M2 (zadv tp z x.2) (L0 ++ x.1) hC2 q2.1 ga.1 (h6.bf ht (q2.2.mono (fun a j y => zAF_B y))) (by simp only [List.length_append]; omega)) (zOb_of rfl) rfl rfl (Nat.le_of_ble_eq_true rfl) (fun M3 q3 => ?_)
      have hC3 := hC2.fr ht q3.2.2
      have hS3 := hC3.1
      have h187c := hC3.2.1
      refine zV_aload_n (pc := 32) (i := 0) dX3_readTerm_32 rfl rfl ?_
      refine zV_get (pc := 33) (j := 7) dX3_readTerm_33 flX3_19 (zOb_of rfl) rfl h187c ?_
      refine zV_bipush (pc := 36) dX3_readTerm_36 (by decide) ?_
      refine zV_ivn (pc := 38) (ci := 7) dX3_readTerm_38 klX3_59 mX7_add ⟨by decide, rfl⟩ (zRm0_z rfl rfl (Nat.le_of_ble_eq_true rfl) (by omega)) ⟨Nat.zero_le _, Nat.zero_le _⟩ (kX7_add ht hS3 q3.2.1 (by simp only [List.length_append]; omega)) (zOb_tx ht) rfl rfl (Nat.le_of_ble_eq_true rfl) (fun M4 q4 => ?_)
      refine zV_iinc (pc := 41) dX3_readTerm_41 rfl rfl ?_
      try dsimp only [List.set_cons_succ, List.set_cons_zero]
      refine zV_goto (pc := 44) (tgt := 7) dX3_readTerm_44 (by decide) ?_
      refine ih (i + 1) (x.1 ++ (f (zadv tp z x.2)).1 ++ [(fun t => (-18 : Int)) x.2.tk], (f (zadv tp z x.2)).2) M4 (by omega) (by omega) (by decide) (hC3.fr ht (q4.2.mono (fun a j y => zTF_R y))) (q3.1.tf ht q4.2) gf.1.1 ?_ h7 e8 (((h9.tr f2).tr q3.2.2).tr (q4.2.mono (fun a j y => zTF_R y)))
      have q5 := q4.1
      rw [List.append_assoc, List.append_assoc] at q5
      rw [List.append_assoc]
      exact q5
set_option maxRecDepth 20000 in
set_option maxHeartbeats 2000000 in
theorem kX3_readTerm {t z o : Int} {tp : Int → Int} {d d1 : Nat} {f : zσ → zρ} (ht : 0 ≤ t ∧ t < 6) (hT : ztp tp z) (ho : 0 ≤ o ∧ o ≤ 5) (hd : d1 + 1 ≤ d ∧ 10 ≤ d) (hf : zgd z f) (hK1 : zKf g yX3_readOne (xX3_readOne d1) t tp z o f) : zKf g yX3_readTerm (xX3_readTerm d) t tp z o (zTerm tp z f) := by
  intro M s L hC hr hz hL hlen
  have hl0 := zlo_l (tp := tp) (z := z) (q := fun t => t = 42) (stp := fun t => (-18 : Int)) (f := f) 160 (f s)
  have hlen2 : L.length + (zlo tp z (fun t => t = 42) (fun t => (-18 : Int)) f 160 (f s)).1.length ≤ 160 := hlen
  refine zK_of (ls0 := [zr 18, zi o, (3, 0)]) (by decide) rfl (fun h => Bool.noConfusion (show false = true from h)) rfl (Nat.le_of_ble_eq_true rfl) ?_
  refine zV_aload_n (pc := 0) (i := 0) dX3_readTerm_0 rfl rfl ?_
  refine zV_iload_n (pc := 1) (i := 1) dX3_readTerm_1 rfl rfl ?_
  refine zV_ivn (pc := 2) (ci := 3) dX3_readTerm_2 klX3_74 (mX3_readOne _) ⟨by decide, rfl⟩ (zRm0_z rfl rfl (Nat.le_of_ble_eq_true rfl) (by omega)) ⟨Nat.zero_le _, Nat.zero_le _⟩ (hK1 M s L hC hr hz hL (by omega)) (zOb_of rfl) rfl rfl (Nat.le_of_ble_eq_true rfl) (fun M1 q1 => ?_)
  refine zV_iconst (pc := 5) dX3_readTerm_5 ?_
  refine zV_istore_n (pc := 6) (i := 2) dX3_readTerm_6 rfl rfl ?_
  try dsimp only [List.set_cons_succ, List.set_cons_zero]
  exact kX3_readTermL ht hT ho hd hf hK1 160 0 (f s) M1 (by omega) (by omega) (by decide) (hC.fr ht q1.2.2) q1.1 (hf s hz).1.1 q1.2.1 hlen rfl q1.2.2
set_option maxRecDepth 20000 in
set_option maxHeartbeats 2000000 in
theorem kX3_readSumL {t z o : Int} {tp : Int → Int} {d d1 : Nat} {f : zσ → zρ} (ht : 0 ≤ t ∧ t < 6) (hT : ztp tp z) (ho : 0 ≤ o ∧ o ≤ 5) (hd : d1 + 1 ≤ d ∧ 10 ≤ d) (hf : zgd z f) (hK1 : zKf g yX3_readTerm (xX3_readTerm d1) t tp z o f) {V : zρ} {M0 : zM} {L0 : List Int} : ∀ (k : Nat) (i : Int) (x : zρ) (M1 : zM) (w3 : zv), i + k = 160 → 0 ≤ i → (0 : Int) ≤ 0 → zRC M1 t tp z → zRd M1 x.2 → zσo z x.2 → zTl M1 t (L0 ++ x.1) → L0.length + V.1.length ≤ 160 → zlo tp z (fun t => t = 43 ∨ t = 45) (fun t => if t = 43 then (-16 : Int) else -17) f k x = V → zFr (zRF t) M0 M1 → zV g (xX3_readSum d) (zPn 75 (fun M1 => zRd M1 V.2 ∧ zTl M1 t (L0 ++ V.1) ∧ zFr (zRF t) M0 M1)) 7 [zr 18, zi o, zi i, w3] [] 75 M1 0 0 := by
  intro k
  induction k with
  | zero =>
    intro i x M1 w3 h0 h1 h2 h3 h4 h5 h6 h7 h8 h9
    have hS := h3.1
    have h187 := h3.2.1
    have hz := hT.1
    have er := h4
    obtain ⟨e4, e5, e3, e2, e6⟩ := er
    have hr := h5.2.2.2.2.1
    refine zV_iload_n (pc := 7) (i := 2) dX3_readSum_7 rfl rfl ?_
    refine zV_sipush (pc := 8) dX3_readSum_8 (by decide) ?_
    refine zV_icmp_ge (pc := 11) (tgt := 72) dX3_readSum_11 (by decide) (by omega) (fun c_11 => ?_) (fun c_11 => absurd (by omega) c_11)
    refine zV_vret (pc := 72) dX3_readSum_72 trivial ⟨Nat.zero_le _, Nat.zero_le _⟩ ?_
    subst h8
    exact ⟨rfl, rfl, h4, h6, h9⟩
  | succ k ih =>
    intro i x M1 w3 h0 h1 h2 h3 h4 h5 h6 h7 h8 h9
    have hS := h3.1
    have h187 := h3.2.1
    have hz := hT.1
    have er := h4
    obtain ⟨e4, e5, e3, e2, e6⟩ := er
    have hr := h5.2.2.2.2.1
    refine zV_iload_n (pc := 7) (i := 2) dX3_readSum_7 rfl rfl ?_
    refine zV_sipush (pc := 8) dX3_readSum_8 (by decide) ?_
    refine zV_icmp_ge (pc := 11) (tgt := 72) dX3_readSum_11 (by decide) (by omega) (fun c_11 => absurd c_11 (by omega)) (fun c_11 => ?_)
    refine zV_aload_n (pc := 14) (i := 0) dX3_readSum_14 rfl rfl ?_
    refine zV_get (pc := 15) (j := 4) dX3_readSum_15 flX3_47 (zOb_of rfl) rfl e4 ?_
    refine zV_bipush (pc := 18) dX3_readSum_18 (by decide) ?_
    refine zV_icmp_eq (pc := 20) (tgt := 32) dX3_readSum_20 (by decide) (by omega) (fun c_20 => ?_) (fun c_20 => ?_)
    · refine zV_aload_n (pc := 32) (i := 0) dX3_readSum_32 rfl rfl ?_
      refine zV_get (pc := 33) (j := 4) dX3_readSum_33 flX3_47 (zOb_of rfl) rfl e4 ?_
      refine zV_bipush (pc := 36) dX3_readSum_36 (by decide) ?_
      refine zV_icmp_ne (pc := 38) (tgt := 46) dX3_readSum_38 (by decide) (by omega) (fun c_38 => ?_) (fun c_38 => ?_)
      · refine zV_bipush (pc := 46) dX3_readSum_46 (by decide) ?_
        refine zV_istore_n (pc := 48) (i := 3) dX3_readSum_48 rfl rfl ?_
        try dsimp only [List.set_cons_succ, List.set_cons_zero]
        refine zV_aload_n (pc := 49) (i := 0) dX3_readSum_49 rfl rfl ?_
        refine zV_ivn (pc := 50) (ci := 3) dX3_readSum_50 klX3_34 mX3_advance ⟨by decide, rfl⟩ (zRm0_z rfl rfl (Nat.le_of_ble_eq_true rfl) (by omega)) ⟨Nat.zero_le _, Nat.zero_le _⟩ (kX3_advance ht h3 hT (s := x.2) (by have := h5.1; omega) e2 e6) (zOb_of rfl) rfl rfl (Nat.le_of_ble_eq_true rfl) (fun M2 q2 => ?_)
        have hq : (fun t : Int => t = 43 ∨ t = 45) x.2.tk := (by first | exact Or.inl c_20 | exact Or.inr c_29 | omega)
        have hlv : zlive x.2 := ⟨by omega, by omega⟩
        have f2 : zFr (zRF t) M1 M2 := q2.2.mono (fun a j y => zAF_R y)
        have ga := (zgx_ad hT h5 hlv).1
        have e8 := (zlo_t (q := fun t => t = 43 ∨ t = 45) (stp := fun t => if t = 43 then (-16 : Int) else -17) (f := f) (k := k) hq).symm.trans h8
        have l8 := zlo_l (tp := tp) (z := z) (q := fun t => t = 43 ∨ t = 45) (stp := fun t => if t = 43 then (-16 : Int) else -17) (f := f) k (x.1 ++ (f (zadv tp z x.2)).1 ++ [(fun t => if t = 43 then (-16 : Int) else -17) x.2.tk], (f (zadv tp z x.2)).2)
        rw [e8] at l8
        simp only [List.length_append, List.length_cons, List.length_nil] at l8
        have gf := hf (zadv tp z x.2) ga.1
        have hC2 := h3.fr ht f2
        have hS2 := hC2.1
        have h187b := hC2.2.1
        refine zV_aload_n (pc := 53) (i := 0) dX3_readSum_53 rfl rfl ?_
        refine zV_iload_n (pc := 54) (i := 1) dX3_readSum_54 rfl rfl ?_
        refine zV_ivn (pc := 55) (ci := 3) dX3_readSum_55 klX3_71 (mX3_readTerm _) ⟨by decide, rfl⟩ (zRm0_z rfl rfl (Nat.le_of_ble_eq_true rfl) (by omega)) ⟨Nat.zero_le _, Nat.zero_le _⟩ (hK1 M2 (zadv tp z x.2) (L0 ++ x.1) hC2 q2.1 ga.1 (h6.bf ht (q2.2.mono (fun a j y => zAF_B y))) (by simp only [List.length_append]; omega)) (zOb_of rfl) rfl rfl (Nat.le_of_ble_eq_true rfl) (fun M3 q3 => ?_)
        have hC3 := hC2.fr ht q3.2.2
        have hS3 := hC3.1
        have h187c := hC3.2.1
        refine zV_aload_n (pc := 58) (i := 0) dX3_readSum_58 rfl rfl ?_
        refine zV_get (pc := 59) (j := 7) dX3_readSum_59 flX3_19 (zOb_of rfl) rfl h187c ?_
        refine zV_iload_n (pc := 62) (i := 3) dX3_readSum_62 rfl rfl ?_
        refine zV_ivn (pc := 63) (ci := 7) dX3_readSum_63 klX3_59 mX7_add ⟨by decide, rfl⟩ (zRm0_z rfl rfl (Nat.le_of_ble_eq_true rfl) (by omega)) ⟨Nat.zero_le _, Nat.zero_le _⟩ (kX7_add ht hS3 q3.2.1 (by simp only [List.length_append]; omega)) (zOb_tx ht) rfl rfl (Nat.le_of_ble_eq_true rfl) (fun M4 q4 => ?_)
        refine zV_iinc (pc := 66) dX3_readSum_66 rfl rfl ?_
        try dsimp only [List.set_cons_succ, List.set_cons_zero]
        refine zV_goto (pc := 69) (tgt := 7) dX3_readSum_69 (by decide) ?_
        refine ih (i + 1) (x.1 ++ (f (zadv tp z x.2)).1 ++ [(fun t => if t = 43 then (-16 : Int) else -17) x.2.tk], (f (zadv tp z x.2)).2) M4 _ (by omega) (by omega) (by decide) (hC3.fr ht (q4.2.mono (fun a j y => zTF_R y))) (q3.1.tf ht q4.2) gf.1.1 ?_ h7 e8 (((h9.tr f2).tr q3.2.2).tr (q4.2.mono (fun a j y => zTF_R y)))
        have q5 := q4.1
        first
          | rw [← (if_pos (by omega) : (if x.2.tk = 43 then (-16 : Int) else -17) = -16)] at q5
          | rw [← (if_neg (by omega) : (if x.2.tk = 43 then (-16 : Int) else -17) = -17)] at q5
        rw [List.append_assoc, List.append_assoc] at q5
        rw [List.append_assoc]
        exact q5
      · refine zV_bipush (pc := 41) dX3_readSum_41 (by decide) ?_
        refine zV_goto (pc := 43) (tgt := 48) dX3_readSum_43 (by decide) ?_
        refine zV_istore_n (pc := 48) (i := 3) dX3_readSum_48 rfl rfl ?_
        try dsimp only [List.set_cons_succ, List.set_cons_zero]
        refine zV_aload_n (pc := 49) (i := 0) dX3_readSum_49 rfl rfl ?_
        refine zV_ivn (pc := 50) (ci := 3) dX3_readSum_50 klX3_34 mX3_advance ⟨by decide, rfl⟩ (zRm0_z rfl rfl (Nat.le_of_ble_eq_true rfl) (by omega)) ⟨Nat.zero_le _, Nat.zero_le _⟩ (kX3_advance ht h3 hT (s := x.2) (by have := h5.1; omega) e2 e6) (zOb_of rfl) rfl rfl (Nat.le_of_ble_eq_true rfl) (fun M2 q2 => ?_)
        have hq : (fun t : Int => t = 43 ∨ t = 45) x.2.tk := (by first | exact Or.inl c_20 | exact Or.inr c_29 | omega)
        have hlv : zlive x.2 := ⟨by omega, by omega⟩
        have f2 : zFr (zRF t) M1 M2 := q2.2.mono (fun a j y => zAF_R y)
        have ga := (zgx_ad hT h5 hlv).1
        have e8 := (zlo_t (q := fun t => t = 43 ∨ t = 45) (stp := fun t => if t = 43 then (-16 : Int) else -17) (f := f) (k := k) hq).symm.trans h8
        have l8 := zlo_l (tp := tp) (z := z) (q := fun t => t = 43 ∨ t = 45) (stp := fun t => if t = 43 then (-16 : Int) else -17) (f := f) k (x.1 ++ (f (zadv tp z x.2)).1 ++ [(fun t => if t = 43 then (-16 : Int) else -17) x.2.tk], (f (zadv tp z x.2)).2)
        rw [e8] at l8
        simp only [List.length_append, List.length_cons, List.length_nil] at l8
        have gf := hf (zadv tp z x.2) ga.1
        have hC2 := h3.fr ht f2
        have hS2 := hC2.1
        have h187b := hC2.2.1
        refine zV_aload_n (pc := 53) (i := 0) dX3_readSum_53 rfl rfl ?_
        refine zV_iload_n (pc := 54) (i := 1) dX3_readSum_54 rfl rfl ?_
        refine zV_ivn (pc := 55) (ci := 3) dX3_readSum_55 klX3_71 (mX3_readTerm _) ⟨by decide, rfl⟩ (zRm0_z rfl rfl (Nat.le_of_ble_eq_true rfl) (by omega)) ⟨Nat.zero_le _, Nat.zero_le _⟩ (hK1 M2 (zadv tp z x.2) (L0 ++ x.1) hC2 q2.1 ga.1 (h6.bf ht (q2.2.mono (fun a j y => zAF_B y))) (by simp only [List.length_append]; omega)) (zOb_of rfl) rfl rfl (Nat.le_of_ble_eq_true rfl) (fun M3 q3 => ?_)
        have hC3 := hC2.fr ht q3.2.2
        have hS3 := hC3.1
        have h187c := hC3.2.1
        refine zV_aload_n (pc := 58) (i := 0) dX3_readSum_58 rfl rfl ?_
        refine zV_get (pc := 59) (j := 7) dX3_readSum_59 flX3_19 (zOb_of rfl) rfl h187c ?_
        refine zV_iload_n (pc := 62) (i := 3) dX3_readSum_62 rfl rfl ?_
        refine zV_ivn (pc := 63) (ci := 7) dX3_readSum_63 klX3_59 mX7_add ⟨by decide, rfl⟩ (zRm0_z rfl rfl (Nat.le_of_ble_eq_true rfl) (by omega)) ⟨Nat.zero_le _, Nat.zero_le _⟩ (kX7_add ht hS3 q3.2.1 (by simp only [List.length_append]; omega)) (zOb_tx ht) rfl rfl (Nat.le_of_ble_eq_true rfl) (fun M4 q4 => ?_)
        refine zV_iinc (pc := 66) dX3_readSum_66 rfl rfl ?_
        try dsimp only [List.set_cons_succ, List.set_cons_zero]
        refine zV_goto (pc := 69) (tgt := 7) dX3_readSum_69 (by decide) ?_
        refine ih (i + 1) (x.1 ++ (f (zadv tp z x.2)).1 ++ [(fun t => if t = 43 then (-16 : Int) else -17) x.2.tk], (f (zadv tp z x.2)).2) M4 _ (by omega) (by omega) (by decide) (hC3.fr ht (q4.2.mono (fun a j y => zTF_R y))) (q3.1.tf ht q4.2) gf.1.1 ?_ h7 e8 (((h9.tr f2).tr q3.2.2).tr (q4.2.mono (fun a j y => zTF_R y)))
        have q5 := q4.1
        first
          | rw [← (if_pos (by omega) : (if x.2.tk = 43 then (-16 : Int) else -17) = -16)] at q5
          | rw [← (if_neg (by omega) : (if x.2.tk = 43 then (-16 : Int) else -17) = -17)] at q5
        rw [List.append_assoc, List.append_assoc] at q5
        rw [List.append_assoc]
        exact q5
    · refine zV_aload_n (pc := 23) (i := 0) dX3_readSum_23 rfl rfl ?_
      refine zV_get (pc := 24) (j := 4) dX3_readSum_24 flX3_47 (zOb_of rfl) rfl e4 ?_
      refine zV_bipush (pc := 27) dX3_readSum_27 (by decide) ?_
      refine zV_icmp_ne (pc := 29) (tgt := 72) dX3_readSum_29 (by decide) (by omega) (fun c_29 => ?_) (fun c_29 => ?_)
      · refine zV_vret (pc := 72) dX3_readSum_72 trivial ⟨Nat.zero_le _, Nat.zero_le _⟩ ?_
        have e8 := (zlo_f (tp := tp) (z := z) (q := fun t => t = 43 ∨ t = 45) (stp := fun t => if t = 43 then (-16 : Int) else -17) (f := f) (k := k + 1) (x := x) (by omega)).symm.trans h8
        rw [← e8]
        exact ⟨rfl, rfl, h4, h6, h9⟩
      · refine zV_aload_n (pc := 32) (i := 0) dX3_readSum_32 rfl rfl ?_
        refine zV_get (pc := 33) (j := 4) dX3_readSum_33 flX3_47 (zOb_of rfl) rfl e4 ?_
        refine zV_bipush (pc := 36) dX3_readSum_36 (by decide) ?_
        refine zV_icmp_ne (pc := 38) (tgt := 46) dX3_readSum_38 (by decide) (by omega) (fun c_38 => ?_) (fun c_38 => ?_)
        · refine zV_bipush (pc := 46) dX3_readSum_46 (by decide) ?_
          refine zV_istore_n (pc := 48) (i := 3) dX3_readSum_48 rfl rfl ?_
          try dsimp only [List.set_cons_succ, List.set_cons_zero]
          refine zV_aload_n (pc := 49) (i := 0) dX3_readSum_49 rfl rfl ?_
          refine zV_ivn (pc := 50) (ci := 3) dX3_readSum_50 klX3_34 mX3_advance ⟨by decide, rfl⟩ (zRm0_z rfl rfl (Nat.le_of_ble_eq_true rfl) (by omega)) ⟨Nat.zero_le _, Nat.zero_le _⟩ (kX3_advance ht h3 hT (s := x.2) (by have := h5.1; omega) e2 e6) (zOb_of rfl) rfl rfl (Nat.le_of_ble_eq_true rfl) (fun M2 q2 => ?_)
          have hq : (fun t : Int => t = 43 ∨ t = 45) x.2.tk := (by first | exact Or.inl c_20 | exact Or.inr c_29 | omega)
          have hlv : zlive x.2 := ⟨by omega, by omega⟩
          have f2 : zFr (zRF t) M1 M2 := q2.2.mono (fun a j y => zAF_R y)
          have ga := (zgx_ad hT h5 hlv).1
          have e8 := (zlo_t (q := fun t => t = 43 ∨ t = 45) (stp := fun t => if t = 43 then (-16 : Int) else -17) (f := f) (k := k) hq).symm.trans h8
          have l8 := zlo_l (tp := tp) (z := z) (q := fun t => t = 43 ∨ t = 45) (stp := fun t => if t = 43 then (-16 : Int) else -17) (f := f) k (x.1 ++ (f (zadv tp z x.2)).1 ++ [(fun t => if t = 43 then (-16 : Int) else -17) x.2.tk], (f (zadv tp z x.2)).2)
          rw [e8] at l8
          simp only [List.length_append, List.length_cons, List.length_nil] at l8
          have gf := hf (zadv tp z x.2) ga.1
          have hC2 := h3.fr ht f2
          have hS2 := hC2.1
          have h187b := hC2.2.1
          refine zV_aload_n (pc := 53) (i := 0) dX3_readSum_53 rfl rfl ?_
          refine zV_iload_n (pc := 54) (i := 1) dX3_readSum_54 rfl rfl ?_
          refine zV_ivn (pc := 55) (ci := 3) dX3_readSum_55 klX3_71 (mX3_readTerm _) ⟨by decide, rfl⟩ (zRm0_z rfl rfl (Nat.le_of_ble_eq_true rfl) (by omega)) ⟨Nat.zero_le _, Nat.zero_le _⟩ (hK1 M2 (zadv tp z x.2) (L0 ++ x.1) hC2 q2.1 ga.1 (h6.bf ht (q2.2.mono (fun a j y => zAF_B y))) (by simp only [List.length_append]; omega)) (zOb_of rfl) rfl rfl (Nat.le_of_ble_eq_true rfl) (fun M3 q3 => ?_)
          have hC3 := hC2.fr ht q3.2.2
          have hS3 := hC3.1
          have h187c := hC3.2.1
          refine zV_aload_n (pc := 58) (i := 0) dX3_readSum_58 rfl rfl ?_
          refine zV_get (pc := 59) (j := 7) dX3_readSum_59 flX3_19 (zOb_of rfl) rfl h187c ?_
          refine zV_iload_n (pc := 62) (i := 3) dX3_readSum_62 rfl rfl ?_
          refine zV_ivn (pc := 63) (ci := 7) dX3_readSum_63 klX3_59 mX7_add ⟨by decide, rfl⟩ (zRm0_z rfl rfl (Nat.le_of_ble_eq_true rfl) (by omega)) ⟨Nat.zero_le _, Nat.zero_le _⟩ (kX7_add ht hS3 q3.2.1 (by simp only [List.length_append]; omega)) (zOb_tx ht) rfl rfl (Nat.le_of_ble_eq_true rfl) (fun M4 q4 => ?_)
          refine zV_iinc (pc := 66) dX3_readSum_66 rfl rfl ?_
          try dsimp only [List.set_cons_succ, List.set_cons_zero]
          refine zV_goto (pc := 69) (tgt := 7) dX3_readSum_69 (by decide) ?_
          refine ih (i + 1) (x.1 ++ (f (zadv tp z x.2)).1 ++ [(fun t => if t = 43 then (-16 : Int) else -17) x.2.tk], (f (zadv tp z x.2)).2) M4 _ (by omega) (by omega) (by decide) (hC3.fr ht (q4.2.mono (fun a j y => zTF_R y))) (q3.1.tf ht q4.2) gf.1.1 ?_ h7 e8 (((h9.tr f2).tr q3.2.2).tr (q4.2.mono (fun a j y => zTF_R y)))
          have q5 := q4.1
          first
            | rw [← (if_pos (by omega) : (if x.2.tk = 43 then (-16 : Int) else -17) = -16)] at q5
            | rw [← (if_neg (by omega) : (if x.2.tk = 43 then (-16 : Int) else -17) = -17)] at q5
          rw [List.append_assoc, List.append_assoc] at q5
          rw [List.append_assoc]
          exact q5
        · refine zV_bipush (pc := 41) dX3_readSum_41 (by decide) ?_
          refine zV_goto (pc := 43) (tgt := 48) dX3_readSum_43 (by decide) ?_
          refine zV_istore_n (pc := 48) (i := 3) dX3_readSum_48 rfl rfl ?_
          try dsimp only [List.set_cons_succ, List.set_cons_zero]
          refine zV_aload_n (pc := 49) (i := 0) dX3_readSum_49 rfl rfl ?_
          refine zV_ivn (pc := 50) (ci := 3) dX3_readSum_50 klX3_34 mX3_advance ⟨by decide, rfl⟩ (zRm0_z rfl rfl (Nat.le_of_ble_eq_true rfl) (by omega)) ⟨Nat.zero_le _, Nat.zero_le _⟩ (kX3_advance ht h3 hT (s := x.2) (by have := h5.1; omega) e2 e6) (zOb_of rfl) rfl rfl (Nat.le_of_ble_eq_true rfl) (fun M2 q2 => ?_)
          have hq : (fun t : Int => t = 43 ∨ t = 45) x.2.tk := (by first | exact Or.inl c_20 | exact Or.inr c_29 | omega)
          have hlv : zlive x.2 := ⟨by omega, by omega⟩
          have f2 : zFr (zRF t) M1 M2 := q2.2.mono (fun a j y => zAF_R y)
          have ga := (zgx_ad hT h5 hlv).1
          have e8 := (zlo_t (q := fun t => t = 43 ∨ t = 45) (stp := fun t => if t = 43 then (-16 : Int) else -17) (f := f) (k := k) hq).symm.trans h8
          have l8 := zlo_l (tp := tp) (z := z) (q := fun t => t = 43 ∨ t = 45) (stp := fun t => if t = 43 then (-16 : Int) else -17) (f := f) k (x.1 ++ (f (zadv tp z x.2)).1 ++ [(fun t => if t = 43 then (-16 : Int) else -17) x.2.tk], (f (zadv tp z x.2)).2)
          rw [e8] at l8
          simp only [List.length_append, List.length_cons, List.length_nil] at l8
          have gf := hf (zadv tp z x.2) ga.1
          have hC2 := h3.fr ht f2
          have hS2 := hC2.1
          have h187b := hC2.2.1
          refine zV_aload_n (pc := 53) (i := 0) dX3_readSum_53 rfl rfl ?_
          refine zV_iload_n (pc := 54) (i := 1) dX3_readSum_54 rfl rfl ?_
          refine zV_ivn (pc := 55) (ci := 3) dX3_readSum_55 klX3_71 (mX3_readTerm _) ⟨by decide, rfl⟩ (zRm0_z rfl rfl (Nat.le_of_ble_eq_true rfl) (by omega)) ⟨Nat.zero_le _, Nat.zero_le _⟩ (hK1 M2 (zadv tp z x.2) (L0 ++ x.1) hC2 q2.1 ga.1 (h6.bf ht (q2.2.mono (fun a j y => zAF_B y))) (by simp only [List.length_append]; omega)) (zOb_of rfl) rfl rfl (Nat.le_of_ble_eq_true rfl) (fun M3 q3 => ?_)
          have hC3 := hC2.fr ht q3.2.2
          have hS3 := hC3.1
          have h187c := hC3.2.1
          refine zV_aload_n (pc := 58) (i := 0) dX3_readSum_58 rfl rfl ?_
          refine zV_get (pc := 59) (j := 7) dX3_readSum_59 flX3_19 (zOb_of rfl) rfl h187c ?_
          refine zV_iload_n (pc := 62) (i := 3) dX3_readSum_62 rfl rfl ?_
          refine zV_ivn (pc := 63) (ci := 7) dX3_readSum_63 klX3_59 mX7_add ⟨by decide, rfl⟩ (zRm0_z rfl rfl (Nat.le_of_ble_eq_true rfl) (by omega)) ⟨Nat.zero_le _, Nat.zero_le _⟩ (kX7_add ht hS3 q3.2.1 (by simp only [List.length_append]; omega)) (zOb_tx ht) rfl rfl (Nat.le_of_ble_eq_true rfl) (fun M4 q4 => ?_)
          refine zV_iinc (pc := 66) dX3_readSum_66 rfl rfl ?_
          try dsimp only [List.set_cons_succ, List.set_cons_zero]
          refine zV_goto (pc := 69) (tgt := 7) dX3_readSum_69 (by decide) ?_
          refine ih (i + 1) (x.1 ++ (f (zadv tp z x.2)).1 ++ [(fun t => if t = 43 then (-16 : Int) else -17) x.2.tk], (f (zadv tp z x.2)).2) M4 _ (by omega) (by omega) (by decide) (hC3.fr ht (q4.2.mono (fun a j y => zTF_R y))) (q3.1.tf ht q4.2) gf.1.1 ?_ h7 e8 (((h9.tr f2).tr q3.2.2).tr (q4.2.mono (fun a j y => zTF_R y)))
          have q5 := q4.1
          first
            | rw [← (if_pos (by omega) : (if x.2.tk = 43 then (-16 : Int) else -17) = -16)] at q5
            | rw [← (if_neg (by omega) : (if x.2.tk = 43 then (-16 : Int) else -17) = -17)] at q5
          rw [List.append_assoc, List.append_assoc] at q5
          rw [List.append_assoc]
          exact q5
set_option maxRecDepth 20000 in
set_option maxHeartbeats 2000000 in
theorem kX3_readSum {t z o : Int} {tp : Int → Int} {d d1 : Nat} {f : zσ → zρ} (ht : 0 ≤ t ∧ t < 6) (hT : ztp tp z) (ho : 0 ≤ o ∧ o ≤ 5) (hd : d1 + 1 ≤ d ∧ 10 ≤ d) (hf : zgd z f) (hK1 : zKf g yX3_readTerm (xX3_readTerm d1) t tp z o f) : zKf g yX3_readSum (xX3_readSum d) t tp z o (zSum tp z f) := by
  intro M s L hC hr hz hL hlen
  have hl0 := zlo_l (tp := tp) (z := z) (q := fun t => t = 43 ∨ t = 45) (stp := fun t => if t = 43 then (-16 : Int) else -17) (f := f) 160 (f s)
  have hlen2 : L.length + (zlo tp z (fun t => t = 43 ∨ t = 45) (fun t => if t = 43 then (-16 : Int) else -17) f 160 (f s)).1.length ≤ 160 := hlen
  refine zK_of (ls0 := [zr 18, zi o, (3, 0), (3, 0)]) (by decide) rfl (fun h => Bool.noConfusion (show false = true from h)) rfl (Nat.le_of_ble_eq_true rfl) ?_
  refine zV_aload_n (pc := 0) (i := 0) dX3_readSum_0 rfl rfl ?_
  refine zV_iload_n (pc := 1) (i := 1) dX3_readSum_1 rfl rfl ?_
  refine zV_ivn (pc := 2) (ci := 3) dX3_readSum_2 klX3_71 (mX3_readTerm _) ⟨by decide, rfl⟩ (zRm0_z rfl rfl (Nat.le_of_ble_eq_true rfl) (by omega)) ⟨Nat.zero_le _, Nat.zero_le _⟩ (hK1 M s L hC hr hz hL (by omega)) (zOb_of rfl) rfl rfl (Nat.le_of_ble_eq_true rfl) (fun M1 q1 => ?_)
  refine zV_iconst (pc := 5) dX3_readSum_5 ?_
  refine zV_istore_n (pc := 6) (i := 2) dX3_readSum_6 rfl rfl ?_
  try dsimp only [List.set_cons_succ, List.set_cons_zero]
  exact kX3_readSumL ht hT ho hd hf hK1 160 0 (f s) M1 _ (by omega) (by omega) (by decide) (hC.fr ht q1.2.2) q1.1 (hf s hz).1.1 q1.2.1 hlen rfl q1.2.2
set_option maxRecDepth 20000 in
set_option maxHeartbeats 2000000 in
theorem kX3_readAndsL {t z o : Int} {tp : Int → Int} {d d1 : Nat} {f : zσ → zρ} (ht : 0 ≤ t ∧ t < 6) (hT : ztp tp z) (ho : 0 ≤ o ∧ o ≤ 5) (hd : d1 + 1 ≤ d ∧ 10 ≤ d) (hf : zgd z f) (hK1 : zKf g yX3_readNot (xX3_readNot d1) t tp z o f) {V : zρ} {M0 : zM} {L0 : List Int} : ∀ (k : Nat) (i : Int) (x : zρ) (M1 : zM), i + k = 160 → 0 ≤ i → (0 : Int) ≤ 0 → zRC M1 t tp z → zRd M1 x.2 → zσo z x.2 → zTl M1 t (L0 ++ x.1) → L0.length + V.1.length ≤ 160 → zlo tp z (fun t => t = 10) (fun t => (-12 : Int)) f k x = V → zFr (zRF t) M0 M1 → zV g (xX3_readAnds d) (zPn 75 (fun M1 => zRd M1 V.2 ∧ zTl M1 t (L0 ++ V.1) ∧ zFr (zRF t) M0 M1)) 7 [zr 18, zi o, zi i] [] 75 M1 0 0 := by
  intro k
  induction k with
  | zero =>
    intro i x M1 h0 h1 h2 h3 h4 h5 h6 h7 h8 h9
    have hS := h3.1
    have h187 := h3.2.1
    have hz := hT.1
    have er := h4
    obtain ⟨e4, e5, e3, e2, e6⟩ := er
    have hr := h5.2.2.2.2.1
    refine zV_iload_n (pc := 7) (i := 2) dX3_readAnds_7 rfl rfl ?_
    refine zV_sipush (pc := 8) dX3_readAnds_8 (by decide) ?_
    refine zV_icmp_ge (pc := 11) (tgt := 47) dX3_readAnds_11 (by decide) (by omega) (fun c_11 => ?_) (fun c_11 => absurd (by omega) c_11)
    refine zV_vret (pc := 47) dX3_readAnds_47 trivial ⟨Nat.zero_le _, Nat.zero_le _⟩ ?_
    subst h8
    exact ⟨rfl, rfl, h4, h6, h9⟩
  | succ k ih =>
    intro i x M1 h0 h1 h2 h3 h4 h5 h6 h7 h8 h9
    have hS := h3.1
    have h187 := h3.2.1
    have hz := hT.1
    have er := h4
    obtain ⟨e4, e5, e3, e2, e6⟩ := er
    have hr := h5.2.2.2.2.1
    refine zV_iload_n (pc := 7) (i := 2) dX3_readAnds_7 rfl rfl ?_
    refine zV_sipush (pc := 8) dX3_readAnds_8 (by decide) ?_
    refine zV_icmp_ge (pc := 11) (tgt := 47) dX3_readAnds_11 (by decide) (by omega) (fun c_11 => absurd c_11 (by omega)) (fun c_11 => ?_)
    refine zV_aload_n (pc := 14) (i := 0) dX3_readAnds_14 rfl rfl ?_
    refine zV_get (pc := 15) (j := 4) dX3_readAnds_15 flX3_47 (zOb_of rfl) rfl e4 ?_
    refine zV_bipush (pc := 18) dX3_readAnds_18 (by decide) ?_
    refine zV_icmp_ne (pc := 20) (tgt := 47) dX3_readAnds_20 (by decide) (by omega) (fun c_20 => ?_) (fun c_20 => ?_)
    · refine zV_vret (pc := 47) dX3_readAnds_47 trivial ⟨Nat.zero_le _, Nat.zero_le _⟩ ?_
      have e8 := (zlo_f (tp := tp) (z := z) (q := fun t => t = 10) (stp := fun t => (-12 : Int)) (f := f) (k := k + 1) (x := x) c_20).symm.trans h8
      rw [← e8]
      exact ⟨rfl, rfl, h4, h6, h9⟩
    · refine zV_aload_n (pc := 23) (i := 0) dX3_readAnds_23 rfl rfl ?_
      refine zV_ivn (pc := 24) (ci := 3) dX3_readAnds_24 klX3_34 mX3_advance ⟨by decide, rfl⟩ (zRm0_z rfl rfl (Nat.le_of_ble_eq_true rfl) (by omega)) ⟨Nat.zero_le _, Nat.zero_le _⟩ (kX3_advance ht h3 hT (s := x.2) (by have := h5.1; omega) e2 e6) (zOb_of rfl) rfl rfl (Nat.le_of_ble_eq_true rfl) (fun M2 q2 => ?_)
      have hq : (fun t : Int => t = 10) x.2.tk := c_20
      have hlv : zlive x.2 := ⟨by omega, by omega⟩
      have f2 : zFr (zRF t) M1 M2 := q2.2.mono (fun a j y => zAF_R y)
      have ga := (zgx_ad hT h5 hlv).1
      have e8 := (zlo_t (q := fun t => t = 10) (stp := fun t => (-12 : Int)) (f := f) (k := k) hq).symm.trans h8
      have l8 := zlo_l (tp := tp) (z := z) (q := fun t => t = 10) (stp := fun t => (-12 : Int)) (f := f) k (x.1 ++ (f (zadv tp z x.2)).1 ++ [(fun t => (-12 : Int)) x.2.tk], (f (zadv tp z x.2)).2)
      rw [e8] at l8
      simp only [List.length_append, List.length_cons, List.length_nil] at l8
      have gf := hf (zadv tp z x.2) ga.1
      have hC2 := h3.fr ht f2
      have hS2 := hC2.1
      have h187b := hC2.2.1
      refine zV_aload_n (pc := 27) (i := 0) dX3_readAnds_27 rfl rfl ?_
      refine zV_iload_n (pc := 28) (i := 1) dX3_readAnds_28 rfl rfl ?_
      refine zV_ivn (pc := 29) (ci := 3) dX3_readAnds_29 klX3_62 (mX3_readNot _) ⟨by decide, rfl⟩ (zRm0_z rfl rfl (Nat.le_of_ble_eq_true rfl) (by omega)) ⟨Nat.zero_le _, Nat.zero_le _⟩ (hK1 M2 (zadv tp z x.2) (L0 ++ x.1) hC2 q2.1 ga.1 (h6.bf ht (q2.2.mono (fun a j y => zAF_B y))) (by simp only [List.length_append]; omega)) (zOb_of rfl) rfl rfl (Nat.le_of_ble_eq_true rfl) (fun M3 q3 => ?_)
      have hC3 := hC2.fr ht q3.2.2
      have hS3 := hC3.1
      have h187c := hC3.2.1
      refine zV_aload_n (pc := 32) (i := 0) dX3_readAnds_32 rfl rfl ?_
      refine zV_get (pc := 33) (j := 7) dX3_readAnds_33 flX3_19 (zOb_of rfl) rfl h187c ?_
      refine zV_bipush (pc := 36) dX3_readAnds_36 (by decide) ?_
      refine zV_ivn (pc := 38) (ci := 7) dX3_readAnds_38 klX3_59 mX7_add ⟨by decide, rfl⟩ (zRm0_z rfl rfl (Nat.le_of_ble_eq_true rfl) (by omega)) ⟨Nat.zero_le _, Nat.zero_le _⟩ (kX7_add ht hS3 q3.2.1 (by simp only [List.length_append]; omega)) (zOb_tx ht) rfl rfl (Nat.le_of_ble_eq_true rfl) (fun M4 q4 => ?_)
      refine zV_iinc (pc := 41) dX3_readAnds_41 rfl rfl ?_
      try dsimp only [List.set_cons_succ, List.set_cons_zero]
      refine zV_goto (pc := 44) (tgt := 7) dX3_readAnds_44 (by decide) ?_
      refine ih (i + 1) (x.1 ++ (f (zadv tp z x.2)).1 ++ [(fun t => (-12 : Int)) x.2.tk], (f (zadv tp z x.2)).2) M4 (by omega) (by omega) (by decide) (hC3.fr ht (q4.2.mono (fun a j y => zTF_R y))) (q3.1.tf ht q4.2) gf.1.1 ?_ h7 e8 (((h9.tr f2).tr q3.2.2).tr (q4.2.mono (fun a j y => zTF_R y)))
      have q5 := q4.1
      rw [List.append_assoc, List.append_assoc] at q5
      rw [List.append_assoc]
      exact q5
set_option maxRecDepth 20000 in
set_option maxHeartbeats 2000000 in
theorem kX3_readAnds {t z o : Int} {tp : Int → Int} {d d1 : Nat} {f : zσ → zρ} (ht : 0 ≤ t ∧ t < 6) (hT : ztp tp z) (ho : 0 ≤ o ∧ o ≤ 5) (hd : d1 + 1 ≤ d ∧ 10 ≤ d) (hf : zgd z f) (hK1 : zKf g yX3_readNot (xX3_readNot d1) t tp z o f) : zKf g yX3_readAnds (xX3_readAnds d) t tp z o (zAnd tp z f) := by
  intro M s L hC hr hz hL hlen
  have hl0 := zlo_l (tp := tp) (z := z) (q := fun t => t = 10) (stp := fun t => (-12 : Int)) (f := f) 160 (f s)
  have hlen2 : L.length + (zlo tp z (fun t => t = 10) (fun t => (-12 : Int)) f 160 (f s)).1.length ≤ 160 := hlen
  refine zK_of (ls0 := [zr 18, zi o, (3, 0)]) (by decide) rfl (fun h => Bool.noConfusion (show false = true from h)) rfl (Nat.le_of_ble_eq_true rfl) ?_
  refine zV_aload_n (pc := 0) (i := 0) dX3_readAnds_0 rfl rfl ?_
  refine zV_iload_n (pc := 1) (i := 1) dX3_readAnds_1 rfl rfl ?_
  refine zV_ivn (pc := 2) (ci := 3) dX3_readAnds_2 klX3_62 (mX3_readNot _) ⟨by decide, rfl⟩ (zRm0_z rfl rfl (Nat.le_of_ble_eq_true rfl) (by omega)) ⟨Nat.zero_le _, Nat.zero_le _⟩ (hK1 M s L hC hr hz hL (by omega)) (zOb_of rfl) rfl rfl (Nat.le_of_ble_eq_true rfl) (fun M1 q1 => ?_)
  refine zV_iconst (pc := 5) dX3_readAnds_5 ?_
  refine zV_istore_n (pc := 6) (i := 2) dX3_readAnds_6 rfl rfl ?_
  try dsimp only [List.set_cons_succ, List.set_cons_zero]
  exact kX3_readAndsL ht hT ho hd hf hK1 160 0 (f s) M1 (by omega) (by omega) (by decide) (hC.fr ht q1.2.2) q1.1 (hf s hz).1.1 q1.2.1 hlen rfl q1.2.2
set_option maxRecDepth 20000 in
set_option maxHeartbeats 2000000 in
theorem kX3_readOrsL {t z o : Int} {tp : Int → Int} {d d1 : Nat} {f : zσ → zρ} (ht : 0 ≤ t ∧ t < 6) (hT : ztp tp z) (ho : 0 ≤ o ∧ o ≤ 5) (hd : d1 + 1 ≤ d ∧ 10 ≤ d) (hf : zgd z f) (hK1 : zKf g yX3_readAnds (xX3_readAnds d1) t tp z o f) {V : zρ} {M0 : zM} {L0 : List Int} : ∀ (k : Nat) (i : Int) (x : zρ) (M1 : zM), i + k = 160 → 0 ≤ i → (0 : Int) ≤ 0 → zRC M1 t tp z → zRd M1 x.2 → zσo z x.2 → zTl M1 t (L0 ++ x.1) → L0.length + V.1.length ≤ 160 → zlo tp z (fun t => t = 9) (fun t => (-11 : Int)) f k x = V → zFr (zRF t) M0 M1 → zV g (xX3_readOrs d) (zPn 75 (fun M1 => zRd M1 V.2 ∧ zTl M1 t (L0 ++ V.1) ∧ zFr (zRF t) M0 M1)) 7 [zr 18, zi o, zi i] [] 75 M1 0 0 := by
  intro k
  induction k with
  | zero =>
    intro i x M1 h0 h1 h2 h3 h4 h5 h6 h7 h8 h9
    have hS := h3.1
    have h187 := h3.2.1
    have hz := hT.1
    have er := h4
    obtain ⟨e4, e5, e3, e2, e6⟩ := er
    have hr := h5.2.2.2.2.1
    refine zV_iload_n (pc := 7) (i := 2) dX3_readOrs_7 rfl rfl ?_
    refine zV_sipush (pc := 8) dX3_readOrs_8 (by decide) ?_
    refine zV_icmp_ge (pc := 11) (tgt := 47) dX3_readOrs_11 (by decide) (by omega) (fun c_11 => ?_) (fun c_11 => absurd (by omega) c_11)
    refine zV_vret (pc := 47) dX3_readOrs_47 trivial ⟨Nat.zero_le _, Nat.zero_le _⟩ ?_
    subst h8
    exact ⟨rfl, rfl, h4, h6, h9⟩
  | succ k ih =>
    intro i x M1 h0 h1 h2 h3 h4 h5 h6 h7 h8 h9
    have hS := h3.1
    have h187 := h3.2.1
    have hz := hT.1
    have er := h4
    obtain ⟨e4, e5, e3, e2, e6⟩ := er
    have hr := h5.2.2.2.2.1
    refine zV_iload_n (pc := 7) (i := 2) dX3_readOrs_7 rfl rfl ?_
    refine zV_sipush (pc := 8) dX3_readOrs_8 (by decide) ?_
    refine zV_icmp_ge (pc := 11) (tgt := 47) dX3_readOrs_11 (by decide) (by omega) (fun c_11 => absurd c_11 (by omega)) (fun c_11 => ?_)
    refine zV_aload_n (pc := 14) (i := 0) dX3_readOrs_14 rfl rfl ?_
    refine zV_get (pc := 15) (j := 4) dX3_readOrs_15 flX3_47 (zOb_of rfl) rfl e4 ?_
    refine zV_bipush (pc := 18) dX3_readOrs_18 (by decide) ?_
    refine zV_icmp_ne (pc := 20) (tgt := 47) dX3_readOrs_20 (by decide) (by omega) (fun c_20 => ?_) (fun c_20 => ?_)
    · refine zV_vret (pc := 47) dX3_readOrs_47 trivial ⟨Nat.zero_le _, Nat.zero_le _⟩ ?_
      have e8 := (zlo_f (tp := tp) (z := z) (q := fun t => t = 9) (stp := fun t => (-11 : Int)) (f := f) (k := k + 1) (x := x) c_20).symm.trans h8
      rw [← e8]
      exact ⟨rfl, rfl, h4, h6, h9⟩
    · refine zV_aload_n (pc := 23) (i := 0) dX3_readOrs_23 rfl rfl ?_
      refine zV_ivn (pc := 24) (ci := 3) dX3_readOrs_24 klX3_34 mX3_advance ⟨by decide, rfl⟩ (zRm0_z rfl rfl (Nat.le_of_ble_eq_true rfl) (by omega)) ⟨Nat.zero_le _, Nat.zero_le _⟩ (kX3_advance ht h3 hT (s := x.2) (by have := h5.1; omega) e2 e6) (zOb_of rfl) rfl rfl (Nat.le_of_ble_eq_true rfl) (fun M2 q2 => ?_)
      have hq : (fun t : Int => t = 9) x.2.tk := c_20
      have hlv : zlive x.2 := ⟨by omega, by omega⟩
      have f2 : zFr (zRF t) M1 M2 := q2.2.mono (fun a j y => zAF_R y)
      have ga := (zgx_ad hT h5 hlv).1
      have e8 := (zlo_t (q := fun t => t = 9) (stp := fun t => (-11 : Int)) (f := f) (k := k) hq).symm.trans h8
      have l8 := zlo_l (tp := tp) (z := z) (q := fun t => t = 9) (stp := fun t => (-11 : Int)) (f := f) k (x.1 ++ (f (zadv tp z x.2)).1 ++ [(fun t => (-11 : Int)) x.2.tk], (f (zadv tp z x.2)).2)
      rw [e8] at l8
      simp only [List.length_append, List.length_cons, List.length_nil] at l8
      have gf := hf (zadv tp z x.2) ga.1
      have hC2 := h3.fr ht f2
      have hS2 := hC2.1
      have h187b := hC2.2.1
      refine zV_aload_n (pc := 27) (i := 0) dX3_readOrs_27 rfl rfl ?_
      refine zV_iload_n (pc := 28) (i := 1) dX3_readOrs_28 rfl rfl ?_
      refine zV_ivn (pc := 29) (ci := 3) dX3_readOrs_29 klX3_56 (mX3_readAnds _) ⟨by decide, rfl⟩ (zRm0_z rfl rfl (Nat.le_of_ble_eq_true rfl) (by omega)) ⟨Nat.zero_le _, Nat.zero_le _⟩ (hK1 M2 (zadv tp z x.2) (L0 ++ x.1) hC2 q2.1 ga.1 (h6.bf ht (q2.2.mono (fun a j y => zAF_B y))) (by simp only [List.length_append]; omega)) (zOb_of rfl) rfl rfl (Nat.le_of_ble_eq_true rfl) (fun M3 q3 => ?_)
      have hC3 := hC2.fr ht q3.2.2
      have hS3 := hC3.1
      have h187c := hC3.2.1
      refine zV_aload_n (pc := 32) (i := 0) dX3_readOrs_32 rfl rfl ?_
      refine zV_get (pc := 33) (j := 7) dX3_readOrs_33 flX3_19 (zOb_of rfl) rfl h187c ?_
      refine zV_bipush (pc := 36) dX3_readOrs_36 (by decide) ?_
      refine zV_ivn (pc := 38) (ci := 7) dX3_readOrs_38 klX3_59 mX7_add ⟨by decide, rfl⟩ (zRm0_z rfl rfl (Nat.le_of_ble_eq_true rfl) (by omega)) ⟨Nat.zero_le _, Nat.zero_le _⟩ (kX7_add ht hS3 q3.2.1 (by simp only [List.length_append]; omega)) (zOb_tx ht) rfl rfl (Nat.le_of_ble_eq_true rfl) (fun M4 q4 => ?_)
      refine zV_iinc (pc := 41) dX3_readOrs_41 rfl rfl ?_
      try dsimp only [List.set_cons_succ, List.set_cons_zero]
      refine zV_goto (pc := 44) (tgt := 7) dX3_readOrs_44 (by decide) ?_
      refine ih (i + 1) (x.1 ++ (f (zadv tp z x.2)).1 ++ [(fun t => (-11 : Int)) x.2.tk], (f (zadv tp z x.2)).2) M4 (by omega) (by omega) (by decide) (hC3.fr ht (q4.2.mono (fun a j y => zTF_R y))) (q3.1.tf ht q4.2) gf.1.1 ?_ h7 e8 (((h9.tr f2).tr q3.2.2).tr (q4.2.mono (fun a j y => zTF_R y)))
      have q5 := q4.1
      rw [List.append_assoc, List.append_assoc] at q5
      rw [List.append_assoc]
      exact q5
set_option maxRecDepth 20000 in
set_option maxHeartbeats 2000000 in
theorem kX3_readOrs {t z o : Int} {tp : Int → Int} {d d1 : Nat} {f : zσ → zρ} (ht : 0 ≤ t ∧ t < 6) (hT : ztp tp z) (ho : 0 ≤ o ∧ o ≤ 5) (hd : d1 + 1 ≤ d ∧ 10 ≤ d) (hf : zgd z f) (hK1 : zKf g yX3_readAnds (xX3_readAnds d1) t tp z o f) : zKf g yX3_readOrs (xX3_readOrs d) t tp z o (zOr tp z f) := by
  intro M s L hC hr hz hL hlen
  have hl0 := zlo_l (tp := tp) (z := z) (q := fun t => t = 9) (stp := fun t => (-11 : Int)) (f := f) 160 (f s)
  have hlen2 : L.length + (zlo tp z (fun t => t = 9) (fun t => (-11 : Int)) f 160 (f s)).1.length ≤ 160 := hlen
  refine zK_of (ls0 := [zr 18, zi o, (3, 0)]) (by decide) rfl (fun h => Bool.noConfusion (show false = true from h)) rfl (Nat.le_of_ble_eq_true rfl) ?_
  refine zV_aload_n (pc := 0) (i := 0) dX3_readOrs_0 rfl rfl ?_
  refine zV_iload_n (pc := 1) (i := 1) dX3_readOrs_1 rfl rfl ?_
  refine zV_ivn (pc := 2) (ci := 3) dX3_readOrs_2 klX3_56 (mX3_readAnds _) ⟨by decide, rfl⟩ (zRm0_z rfl rfl (Nat.le_of_ble_eq_true rfl) (by omega)) ⟨Nat.zero_le _, Nat.zero_le _⟩ (hK1 M s L hC hr hz hL (by omega)) (zOb_of rfl) rfl rfl (Nat.le_of_ble_eq_true rfl) (fun M1 q1 => ?_)
  refine zV_iconst (pc := 5) dX3_readOrs_5 ?_
  refine zV_istore_n (pc := 6) (i := 2) dX3_readOrs_6 rfl rfl ?_
  try dsimp only [List.set_cons_succ, List.set_cons_zero]
  exact kX3_readOrsL ht hT ho hd hf hK1 160 0 (f s) M1 (by omega) (by omega) (by decide) (hC.fr ht q1.2.2) q1.1 (hf s hz).1.1 q1.2.1 hlen rfl q1.2.2
set_option maxRecDepth 20000 in
set_option maxHeartbeats 2000000 in
theorem kX3_readComparison {t z o : Int} {tp : Int → Int} {d d1 : Nat} {f : zσ → zρ} (ht : 0 ≤ t ∧ t < 6) (hT : ztp tp z) (ho : 0 ≤ o ∧ o ≤ 5) (hd : d1 + 1 ≤ d ∧ 10 ≤ d) (hf : zgd z f) (hK1 : zKf g yX3_readSum (xX3_readSum d1) t tp z o f) : zKf g yX3_readComparison (xX3_readComparison d) t tp z o (zCmp tp z f) := by
  intro M s L hC hr hz hL hlen
  have gf := hf s hz
  have hlen2 : L.length + (zit ((f s).2.tk = 60 ∨ (f s).2.tk = 61) ((f s).1 ++ (f (zadv tp z (f s).2)).1 ++ [if (f s).2.tk = 60 then -14 else -15], (f (zadv tp z (f s).2)).2) (f s)).1.length ≤ 160 := hlen
  have hlen4 : L.length + (f s).1.length ≤ 160 := by
    by_cases hq : (f s).2.tk = 60 ∨ (f s).2.tk = 61
    · rw [zit_t hq] at hlen2
      simp only [List.length_append, List.length_cons, List.length_nil] at hlen2
      omega
    · rw [zit_f hq] at hlen2
      exact hlen2
  refine zK_of (ls0 := [zr 18, zi o, (3, 0)]) (by decide) rfl (fun h => Bool.noConfusion (show false = true from h)) rfl (Nat.le_of_ble_eq_true rfl) ?_
  refine zV_aload_n (pc := 0) (i := 0) dX3_readComparison_0 rfl rfl ?_
  refine zV_iload_n (pc := 1) (i := 1) dX3_readComparison_1 rfl rfl ?_
  refine zV_ivn (pc := 2) (ci := 3) dX3_readComparison_2 klX3_68 (mX3_readSum _) ⟨by decide, rfl⟩ (zRm0_z rfl rfl (Nat.le_of_ble_eq_true rfl) (by omega)) ⟨Nat.zero_le _, Nat.zero_le _⟩ (hK1 M s L hC hr hz hL (by omega)) (zOb_of rfl) rfl rfl (Nat.le_of_ble_eq_true rfl) (fun M1 q1 => ?_)
  have e4 : M1 18 4 = (f s).2.tk := q1.1.1
  have hr1 := gf.1.1.2.2.2.2.1
  have hC1 := hC.fr ht q1.2.2
  have hS1 := hC1.1
  refine zV_aload_n (pc := 5) (i := 0) dX3_readComparison_5 rfl rfl ?_
  refine zV_get (pc := 6) (j := 4) dX3_readComparison_6 flX3_47 (zOb_of rfl) rfl rfl ?_
  refine zV_bipush (pc := 9) dX3_readComparison_9 (by decide) ?_
  refine zV_icmp_eq (pc := 11) (tgt := 23) dX3_readComparison_11 (by decide) (by omega) (fun c_11 => ?_) (fun c_11 => ?_)
  · refine zV_aload_n (pc := 23) (i := 0) dX3_readComparison_23 rfl rfl ?_
    refine zV_get (pc := 24) (j := 4) dX3_readComparison_24 flX3_47 (zOb_of rfl) rfl rfl ?_
    refine zV_bipush (pc := 27) dX3_readComparison_27 (by decide) ?_
    refine zV_icmp_ne (pc := 29) (tgt := 37) dX3_readComparison_29 (by decide) (by omega) (fun c_29 => ?_) (fun c_29 => ?_)
    · refine zV_bipush (pc := 37) dX3_readComparison_37 (by decide) ?_
      refine zV_istore_n (pc := 39) (i := 2) dX3_readComparison_39 rfl rfl ?_
      try dsimp only [List.set_cons_succ, List.set_cons_zero]
      refine zV_aload_n (pc := 40) (i := 0) dX3_readComparison_40 rfl rfl ?_
      refine zV_ivn (pc := 41) (ci := 3) dX3_readComparison_41 klX3_34 mX3_advance ⟨by decide, rfl⟩ (zRm0_z rfl rfl (Nat.le_of_ble_eq_true rfl) (by omega)) ⟨Nat.zero_le _, Nat.zero_le _⟩ (kX3_advance ht hC1 hT (s := (f s).2) (by have := gf.1.1.1; omega) q1.1.2.2.2.1 q1.1.2.2.2.2) (zOb_of rfl) rfl rfl (Nat.le_of_ble_eq_true rfl) (fun M2 q2 => ?_)
      have hq : (f s).2.tk = 60 ∨ (f s).2.tk = 61 := by omega
      have ga := (zgx_ad hT gf.1.1 (s := (f s).2) ⟨by omega, by omega⟩).1
      have f2 : zFr (zRF t) M1 M2 := q2.2.mono (fun a j y => zAF_R y)
      have hC2 := hC1.fr ht f2
      have hlen3 := hlen2
      rw [zit_t hq] at hlen3
      simp only [List.length_append, List.length_cons, List.length_nil] at hlen3
      refine zV_aload_n (pc := 44) (i := 0) dX3_readComparison_44 rfl rfl ?_
      refine zV_iload_n (pc := 45) (i := 1) dX3_readComparison_45 rfl rfl ?_
      refine zV_ivn (pc := 46) (ci := 3) dX3_readComparison_46 klX3_68 (mX3_readSum _) ⟨by decide, rfl⟩ (zRm0_z rfl rfl (Nat.le_of_ble_eq_true rfl) (by omega)) ⟨Nat.zero_le _, Nat.zero_le _⟩ (hK1 M2 (zadv tp z (f s).2) (L ++ (f s).1) hC2 q2.1 ga.1 (q1.2.1.bf ht (q2.2.mono (fun a j y => zAF_B y))) (by simp only [List.length_append]; omega)) (zOb_of rfl) rfl rfl (Nat.le_of_ble_eq_true rfl) (fun M3 q3 => ?_)
      have hC3 := hC2.fr ht q3.2.2
      have hS3 := hC3.1
      have h187c := hC3.2.1
      refine zV_aload_n (pc := 49) (i := 0) dX3_readComparison_49 rfl rfl ?_
      refine zV_get (pc := 50) (j := 7) dX3_readComparison_50 flX3_19 (zOb_of rfl) rfl h187c ?_
      refine zV_iload_n (pc := 53) (i := 2) dX3_readComparison_53 rfl rfl ?_
      refine zV_ivn (pc := 54) (ci := 7) dX3_readComparison_54 klX3_59 mX7_add ⟨by decide, rfl⟩ (zRm0_z rfl rfl (Nat.le_of_ble_eq_true rfl) (by omega)) ⟨Nat.zero_le _, Nat.zero_le _⟩ (kX7_add ht hS3 q3.2.1 (by simp only [List.length_append]; omega)) (zOb_tx ht) rfl rfl (Nat.le_of_ble_eq_true rfl) (fun M4 q4 => ?_)
      refine zV_vret (pc := 57) dX3_readComparison_57 trivial ⟨Nat.zero_le _, Nat.zero_le _⟩ ?_
      unfold zCmp
      first
        | (rw [zit_f (by omega)]; exact ⟨rfl, rfl, q1⟩)
        | (rw [zit_t hq]
           refine ⟨rfl, rfl, q3.1.tf ht q4.2, ?_, ((q1.2.2.tr f2).tr q3.2.2).tr (q4.2.mono (fun a j y => zTF_R y))⟩
           have q5 := q4.1
           first
             | rw [← (if_pos (by omega) : (if (f s).2.tk = 60 then (-14 : Int) else -15) = -14)] at q5
             | rw [← (if_neg (by omega) : (if (f s).2.tk = 60 then (-14 : Int) else -15) = -15)] at q5
           rw [List.append_assoc, List.append_assoc] at q5
           rw [List.append_assoc]
           exact q5)
    · refine zV_bipush (pc := 32) dX3_readComparison_32 (by decide) ?_
      refine zV_goto (pc := 34) (tgt := 39) dX3_readComparison_34 (by decide) ?_
      refine zV_istore_n (pc := 39) (i := 2) dX3_readComparison_39 rfl rfl ?_
      try dsimp only [List.set_cons_succ, List.set_cons_zero]
      refine zV_aload_n (pc := 40) (i := 0) dX3_readComparison_40 rfl rfl ?_
      refine zV_ivn (pc := 41) (ci := 3) dX3_readComparison_41 klX3_34 mX3_advance ⟨by decide, rfl⟩ (zRm0_z rfl rfl (Nat.le_of_ble_eq_true rfl) (by omega)) ⟨Nat.zero_le _, Nat.zero_le _⟩ (kX3_advance ht hC1 hT (s := (f s).2) (by have := gf.1.1.1; omega) q1.1.2.2.2.1 q1.1.2.2.2.2) (zOb_of rfl) rfl rfl (Nat.le_of_ble_eq_true rfl) (fun M2 q2 => ?_)
      have hq : (f s).2.tk = 60 ∨ (f s).2.tk = 61 := by omega
      have ga := (zgx_ad hT gf.1.1 (s := (f s).2) ⟨by omega, by omega⟩).1
      have f2 : zFr (zRF t) M1 M2 := q2.2.mono (fun a j y => zAF_R y)
      have hC2 := hC1.fr ht f2
      have hlen3 := hlen2
      rw [zit_t hq] at hlen3
      simp only [List.length_append, List.length_cons, List.length_nil] at hlen3
      refine zV_aload_n (pc := 44) (i := 0) dX3_readComparison_44 rfl rfl ?_
      refine zV_iload_n (pc := 45) (i := 1) dX3_readComparison_45 rfl rfl ?_
      refine zV_ivn (pc := 46) (ci := 3) dX3_readComparison_46 klX3_68 (mX3_readSum _) ⟨by decide, rfl⟩ (zRm0_z rfl rfl (Nat.le_of_ble_eq_true rfl) (by omega)) ⟨Nat.zero_le _, Nat.zero_le _⟩ (hK1 M2 (zadv tp z (f s).2) (L ++ (f s).1) hC2 q2.1 ga.1 (q1.2.1.bf ht (q2.2.mono (fun a j y => zAF_B y))) (by simp only [List.length_append]; omega)) (zOb_of rfl) rfl rfl (Nat.le_of_ble_eq_true rfl) (fun M3 q3 => ?_)
      have hC3 := hC2.fr ht q3.2.2
      have hS3 := hC3.1
      have h187c := hC3.2.1
      refine zV_aload_n (pc := 49) (i := 0) dX3_readComparison_49 rfl rfl ?_
      refine zV_get (pc := 50) (j := 7) dX3_readComparison_50 flX3_19 (zOb_of rfl) rfl h187c ?_
      refine zV_iload_n (pc := 53) (i := 2) dX3_readComparison_53 rfl rfl ?_
      refine zV_ivn (pc := 54) (ci := 7) dX3_readComparison_54 klX3_59 mX7_add ⟨by decide, rfl⟩ (zRm0_z rfl rfl (Nat.le_of_ble_eq_true rfl) (by omega)) ⟨Nat.zero_le _, Nat.zero_le _⟩ (kX7_add ht hS3 q3.2.1 (by simp only [List.length_append]; omega)) (zOb_tx ht) rfl rfl (Nat.le_of_ble_eq_true rfl) (fun M4 q4 => ?_)
      refine zV_vret (pc := 57) dX3_readComparison_57 trivial ⟨Nat.zero_le _, Nat.zero_le _⟩ ?_
      unfold zCmp
      first
        | (rw [zit_f (by omega)]; exact ⟨rfl, rfl, q1⟩)
        | (rw [zit_t hq]
           refine ⟨rfl, rfl, q3.1.tf ht q4.2, ?_, ((q1.2.2.tr f2).tr q3.2.2).tr (q4.2.mono (fun a j y => zTF_R y))⟩
           have q5 := q4.1
           first
             | rw [← (if_pos (by omega) : (if (f s).2.tk = 60 then (-14 : Int) else -15) = -14)] at q5
             | rw [← (if_neg (by omega) : (if (f s).2.tk = 60 then (-14 : Int) else -15) = -15)] at q5
           rw [List.append_assoc, List.append_assoc] at q5
           rw [List.append_assoc]
           exact q5)
  · refine zV_aload_n (pc := 14) (i := 0) dX3_readComparison_14 rfl rfl ?_
    refine zV_get (pc := 15) (j := 4) dX3_readComparison_15 flX3_47 (zOb_of rfl) rfl rfl ?_
    refine zV_bipush (pc := 18) dX3_readComparison_18 (by decide) ?_
    refine zV_icmp_ne (pc := 20) (tgt := 57) dX3_readComparison_20 (by decide) (by omega) (fun c_20 => ?_) (fun c_20 => ?_)
    · refine zV_vret (pc := 57) dX3_readComparison_57 trivial ⟨Nat.zero_le _, Nat.zero_le _⟩ ?_
      unfold zCmp
      first
        | (rw [zit_f (by omega)]; exact ⟨rfl, rfl, q1⟩)
        | (rw [zit_t hq]
           refine ⟨rfl, rfl, q3.1.tf ht q4.2, ?_, ((q1.2.2.tr f2).tr q3.2.2).tr (q4.2.mono (fun a j y => zTF_R y))⟩
           have q5 := q4.1
           first
             | rw [← (if_pos (by omega) : (if (f s).2.tk = 60 then (-14 : Int) else -15) = -14)] at q5
             | rw [← (if_neg (by omega) : (if (f s).2.tk = 60 then (-14 : Int) else -15) = -15)] at q5
           rw [List.append_assoc, List.append_assoc] at q5
           rw [List.append_assoc]
           exact q5)
    · refine zV_aload_n (pc := 23) (i := 0) dX3_readComparison_23 rfl rfl ?_
      refine zV_get (pc := 24) (j := 4) dX3_readComparison_24 flX3_47 (zOb_of rfl) rfl rfl ?_
      refine zV_bipush (pc := 27) dX3_readComparison_27 (by decide) ?_
      refine zV_icmp_ne (pc := 29) (tgt := 37) dX3_readComparison_29 (by decide) (by omega) (fun c_29 => ?_) (fun c_29 => ?_)
      · refine zV_bipush (pc := 37) dX3_readComparison_37 (by decide) ?_
        refine zV_istore_n (pc := 39) (i := 2) dX3_readComparison_39 rfl rfl ?_
        try dsimp only [List.set_cons_succ, List.set_cons_zero]
        refine zV_aload_n (pc := 40) (i := 0) dX3_readComparison_40 rfl rfl ?_
        refine zV_ivn (pc := 41) (ci := 3) dX3_readComparison_41 klX3_34 mX3_advance ⟨by decide, rfl⟩ (zRm0_z rfl rfl (Nat.le_of_ble_eq_true rfl) (by omega)) ⟨Nat.zero_le _, Nat.zero_le _⟩ (kX3_advance ht hC1 hT (s := (f s).2) (by have := gf.1.1.1; omega) q1.1.2.2.2.1 q1.1.2.2.2.2) (zOb_of rfl) rfl rfl (Nat.le_of_ble_eq_true rfl) (fun M2 q2 => ?_)
        have hq : (f s).2.tk = 60 ∨ (f s).2.tk = 61 := by omega
        have ga := (zgx_ad hT gf.1.1 (s := (f s).2) ⟨by omega, by omega⟩).1
        have f2 : zFr (zRF t) M1 M2 := q2.2.mono (fun a j y => zAF_R y)
        have hC2 := hC1.fr ht f2
        have hlen3 := hlen2
        rw [zit_t hq] at hlen3
        simp only [List.length_append, List.length_cons, List.length_nil] at hlen3
        refine zV_aload_n (pc := 44) (i := 0) dX3_readComparison_44 rfl rfl ?_
        refine zV_iload_n (pc := 45) (i := 1) dX3_readComparison_45 rfl rfl ?_
        refine zV_ivn (pc := 46) (ci := 3) dX3_readComparison_46 klX3_68 (mX3_readSum _) ⟨by decide, rfl⟩ (zRm0_z rfl rfl (Nat.le_of_ble_eq_true rfl) (by omega)) ⟨Nat.zero_le _, Nat.zero_le _⟩ (hK1 M2 (zadv tp z (f s).2) (L ++ (f s).1) hC2 q2.1 ga.1 (q1.2.1.bf ht (q2.2.mono (fun a j y => zAF_B y))) (by simp only [List.length_append]; omega)) (zOb_of rfl) rfl rfl (Nat.le_of_ble_eq_true rfl) (fun M3 q3 => ?_)
        have hC3 := hC2.fr ht q3.2.2
        have hS3 := hC3.1
        have h187c := hC3.2.1
        refine zV_aload_n (pc := 49) (i := 0) dX3_readComparison_49 rfl rfl ?_
        refine zV_get (pc := 50) (j := 7) dX3_readComparison_50 flX3_19 (zOb_of rfl) rfl h187c ?_
        refine zV_iload_n (pc := 53) (i := 2) dX3_readComparison_53 rfl rfl ?_
        refine zV_ivn (pc := 54) (ci := 7) dX3_readComparison_54 klX3_59 mX7_add ⟨by decide, rfl⟩ (zRm0_z rfl rfl (Nat.le_of_ble_eq_true rfl) (by omega)) ⟨Nat.zero_le _, Nat.zero_le _⟩ (kX7_add ht hS3 q3.2.1 (by simp only [List.length_append]; omega)) (zOb_tx ht) rfl rfl (Nat.le_of_ble_eq_true rfl) (fun M4 q4 => ?_)
        refine zV_vret (pc := 57) dX3_readComparison_57 trivial ⟨Nat.zero_le _, Nat.zero_le _⟩ ?_
        unfold zCmp
        first
          | (rw [zit_f (by omega)]; exact ⟨rfl, rfl, q1⟩)
          | (rw [zit_t hq]
             refine ⟨rfl, rfl, q3.1.tf ht q4.2, ?_, ((q1.2.2.tr f2).tr q3.2.2).tr (q4.2.mono (fun a j y => zTF_R y))⟩
             have q5 := q4.1
             first
               | rw [← (if_pos (by omega) : (if (f s).2.tk = 60 then (-14 : Int) else -15) = -14)] at q5
               | rw [← (if_neg (by omega) : (if (f s).2.tk = 60 then (-14 : Int) else -15) = -15)] at q5
             rw [List.append_assoc, List.append_assoc] at q5
             rw [List.append_assoc]
             exact q5)
      · refine zV_bipush (pc := 32) dX3_readComparison_32 (by decide) ?_
        refine zV_goto (pc := 34) (tgt := 39) dX3_readComparison_34 (by decide) ?_
        refine zV_istore_n (pc := 39) (i := 2) dX3_readComparison_39 rfl rfl ?_
        try dsimp only [List.set_cons_succ, List.set_cons_zero]
        refine zV_aload_n (pc := 40) (i := 0) dX3_readComparison_40 rfl rfl ?_
        refine zV_ivn (pc := 41) (ci := 3) dX3_readComparison_41 klX3_34 mX3_advance ⟨by decide, rfl⟩ (zRm0_z rfl rfl (Nat.le_of_ble_eq_true rfl) (by omega)) ⟨Nat.zero_le _, Nat.zero_le _⟩ (kX3_advance ht hC1 hT (s := (f s).2) (by have := gf.1.1.1; omega) q1.1.2.2.2.1 q1.1.2.2.2.2) (zOb_of rfl) rfl rfl (Nat.le_of_ble_eq_true rfl) (fun M2 q2 => ?_)
        have hq : (f s).2.tk = 60 ∨ (f s).2.tk = 61 := by omega
        have ga := (zgx_ad hT gf.1.1 (s := (f s).2) ⟨by omega, by omega⟩).1
        have f2 : zFr (zRF t) M1 M2 := q2.2.mono (fun a j y => zAF_R y)
        have hC2 := hC1.fr ht f2
        have hlen3 := hlen2
        rw [zit_t hq] at hlen3
        simp only [List.length_append, List.length_cons, List.length_nil] at hlen3
        refine zV_aload_n (pc := 44) (i := 0) dX3_readComparison_44 rfl rfl ?_
        refine zV_iload_n (pc := 45) (i := 1) dX3_readComparison_45 rfl rfl ?_
        refine zV_ivn (pc := 46) (ci := 3) dX3_readComparison_46 klX3_68 (mX3_readSum _) ⟨by decide, rfl⟩ (zRm0_z rfl rfl (Nat.le_of_ble_eq_true rfl) (by omega)) ⟨Nat.zero_le _, Nat.zero_le _⟩ (hK1 M2 (zadv tp z (f s).2) (L ++ (f s).1) hC2 q2.1 ga.1 (q1.2.1.bf ht (q2.2.mono (fun a j y => zAF_B y))) (by simp only [List.length_append]; omega)) (zOb_of rfl) rfl rfl (Nat.le_of_ble_eq_true rfl) (fun M3 q3 => ?_)
        have hC3 := hC2.fr ht q3.2.2
        have hS3 := hC3.1
        have h187c := hC3.2.1
        refine zV_aload_n (pc := 49) (i := 0) dX3_readComparison_49 rfl rfl ?_
        refine zV_get (pc := 50) (j := 7) dX3_readComparison_50 flX3_19 (zOb_of rfl) rfl h187c ?_
        refine zV_iload_n (pc := 53) (i := 2) dX3_readComparison_53 rfl rfl ?_
        refine zV_ivn (pc := 54) (ci := 7) dX3_readComparison_54 klX3_59 mX7_add ⟨by decide, rfl⟩ (zRm0_z rfl rfl (Nat.le_of_ble_eq_true rfl) (by omega)) ⟨Nat.zero_le _, Nat.zero_le _⟩ (kX7_add ht hS3 q3.2.1 (by simp only [List.length_append]; omega)) (zOb_tx ht) rfl rfl (Nat.le_of_ble_eq_true rfl) (fun M4 q4 => ?_)
        refine zV_vret (pc := 57) dX3_readComparison_57 trivial ⟨Nat.zero_le _, Nat.zero_le _⟩ ?_
        unfold zCmp
        first
          | (rw [zit_f (by omega)]; exact ⟨rfl, rfl, q1⟩)
          | (rw [zit_t hq]
             refine ⟨rfl, rfl, q3.1.tf ht q4.2, ?_, ((q1.2.2.tr f2).tr q3.2.2).tr (q4.2.mono (fun a j y => zTF_R y))⟩
             have q5 := q4.1
             first
               | rw [← (if_pos (by omega) : (if (f s).2.tk = 60 then (-14 : Int) else -15) = -14)] at q5
               | rw [← (if_neg (by omega) : (if (f s).2.tk = 60 then (-14 : Int) else -15) = -15)] at q5
             rw [List.append_assoc, List.append_assoc] at q5
             rw [List.append_assoc]
             exact q5)
end
