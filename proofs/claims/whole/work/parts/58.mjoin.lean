/-! THE MODEL: join, goodShift (printed by wip/whole/p58.py) -/
theorem z_or3 {i j : Int} (hi : 0 ≤ i ∧ i < 6) (hj : 0 ≤ j ∧ j < 6) (h : i ≠ j) : Int32.ofInt (2 ^ i.toNat) ||| Int32.ofInt (2 ^ j.toNat) = Int32.ofInt (2 ^ i.toNat + 2 ^ j.toNat) := by
  by_cases c : i < j
  · have := z_pw2 (a := i) (b := j) ⟨hi.1, c⟩ hj.2
    exact z_or2 ⟨this.1, this.2.1⟩
  · have := z_pw2 (a := j) (b := i) ⟨hj.1, by omega⟩ hi.2
    rw [Int32.or_comm, Int.add_comm]
    exact z_or2 ⟨this.1, this.2.1⟩
theorem z_pw3 {i j : Int} (hi : 0 ≤ i ∧ i < 6) (hj : 0 ≤ j ∧ j < 6) (h : i ≠ j) : 0 ≤ (2 : Int) ^ i.toNat + 2 ^ j.toNat ∧ (2 : Int) ^ i.toNat + 2 ^ j.toNat ≤ 63 := by
  by_cases c : i < j
  · have := z_pw2 (a := i) (b := j) ⟨hi.1, c⟩ hj.2
    omega
  · have := z_pw2 (a := j) (b := i) ⟨hj.1, by omega⟩ hi.2
    omega
/-- i and j meet, with i's begin s days later -/
def ztwoS (M : zM) (i j s : Int) : Prop := ztwo (zTm (zsh_ M i s)) (M 58 12) i j
/-- what the year costs and how bad that is, with t's begin s days later -/
noncomputable def zgm (M : zM) (tp : Int → Int) (z t s : Int) : Int := zsum (zkm (zsh_ M t s) tp z (zfm (zsh_ M t s))) 400 + ztt tp z 2 (znm 0 t 0 (zTm M t 2) s (zTm M t 1))
section
variable {g : zG} {N : Nat} {M : zM}
set_option maxRecDepth 20000 in
set_option maxHeartbeats 2000000 in
theorem kX10_joL {tp : Int → Int} {z : Int} (hR : zRo2 M tp z) {i j : Int} (hi : 0 ≤ i ∧ i < M 58 12) (hj : 0 ≤ j ∧ j < M 58 12) (hij : i ≠ j) : ∀ (k : Nat) (s f v : Int) (M1 : zM), s + k = 60 → 0 ≤ s → zFr zMs (zU M 65 i v) M1 → (0 ≤ v ∧ v ≤ 59) → (f = zfst (fun s => ztwoS M i j s) 0 60 ∨ (f = -1 ∧ zfst (fun s => ztwoS M i j s) s k = zfst (fun s => ztwoS M i j s) 0 60)) → (f = -1 → zfst (fun s => ztwoS M i j s) s k = zfst (fun s => ztwoS M i j s) 0 60) → zV g xX10_join (zPq (zi (zfst (fun s => ztwoS M i j s) 0 60)) 75 (fun M1 => zFr zMs M M1)) 37 [zr 58, zi i, zi j, zi (M 65 i), zi f, zi s] [] 75 M1 0 0 := by
  intro k
  induction k with
  | zero =>
    intro s f v M1 h0 h1 h2 h3 h4 h5
    have hn := hR.2.1.1
    have hW1 := (hR.2.1.b (t := i) (v := v) h3).fr h2
    have hS1 := (hR.1.b (t := i) (v := v)).fr h2 zMs_st
    have hb : 0 ≤ M 65 i ∧ M 65 i ≤ 59 := (hR.2.1.2 i hi.1 hi.2).2.2.2
    have hfr : -1 ≤ f ∧ f ≤ 59 := by have := zfst_r (q := (fun s => ztwoS M i j s)) (k := 60) (a := 0); omega
    have hp3 := z_pw3 (i := i) (j := j) (by omega) (by omega) hij
    have hfin : f = zfst (fun s => ztwoS M i j s) 0 60 := h4.elim id (fun q => by rw [q.1, ← q.2]; rfl)
    refine zV_iload (pc := 37) dX10_join_37 rfl ?_
    refine zV_bipush (pc := 39) dX10_join_39 (by decide) ?_
    refine zV_icmp_ge (pc := 41) (tgt := 91) dX10_join_41 (by decide) (by omega) (fun c_41 => ?_) (fun c_41 => absurd (by omega) c_41)
    refine zV_aload_n (pc := 91) (i := 0) dX10_join_91 rfl rfl ?_
    refine zV_get (pc := 92) (j := 11) dX10_join_92 flX10_32 (zOb_of rfl) rfl hS1.e58_11 ?_
    refine zV_iload_n (pc := 95) (i := 1) dX10_join_95 rfl rfl ?_
    refine zV_iload_n (pc := 96) (i := 3) dX10_join_96 rfl rfl ?_
    refine zV_iast (pc := 97) dX10_join_97 (zAr_of rfl : zAr 75 65 0 6) (by omega) ?_
    refine zV_iload (pc := 98) dX10_join_98 rfl ?_
    refine zV_iret (pc := 100) dX10_join_100 trivial ⟨Nat.zero_le _, Nat.zero_le _⟩ ?_
    exact ⟨by rw [hfin], rfl, h2.back⟩
  | succ k ih =>
    intro s f v M1 h0 h1 h2 h3 h4 h5
    have hn := hR.2.1.1
    have hW1 := (hR.2.1.b (t := i) (v := v) h3).fr h2
    have hS1 := (hR.1.b (t := i) (v := v)).fr h2 zMs_st
    have hb : 0 ≤ M 65 i ∧ M 65 i ≤ 59 := (hR.2.1.2 i hi.1 hi.2).2.2.2
    have hfr : -1 ≤ f ∧ f ≤ 59 := by have := zfst_r (q := (fun s => ztwoS M i j s)) (k := 60) (a := 0); omega
    have hp3 := z_pw3 (i := i) (j := j) (by omega) (by omega) hij
    refine zV_iload (pc := 37) dX10_join_37 rfl ?_
    refine zV_bipush (pc := 39) dX10_join_39 (by decide) ?_
    refine zV_icmp_ge (pc := 41) (tgt := 91) dX10_join_41 (by decide) (by omega) (fun c_41 => absurd c_41 (by omega)) (fun c_41 => ?_)
    refine zV_iload (pc := 44) dX10_join_44 rfl ?_
    refine zV_iconst (pc := 46) dX10_join_46 ?_
    refine zV_icmp_ne (pc := 47) (tgt := 91) dX10_join_47 (by decide) (by omega) (fun c_47 => ?_) (fun c_47 => ?_)
    · have hfin : f = zfst (fun s => ztwoS M i j s) 0 60 := h4.elim id (fun q => absurd q.1 c_47)
      refine zV_aload_n (pc := 91) (i := 0) dX10_join_91 rfl rfl ?_
      refine zV_get (pc := 92) (j := 11) dX10_join_92 flX10_32 (zOb_of rfl) rfl hS1.e58_11 ?_
      refine zV_iload_n (pc := 95) (i := 1) dX10_join_95 rfl rfl ?_
      refine zV_iload_n (pc := 96) (i := 3) dX10_join_96 rfl rfl ?_
      refine zV_iast (pc := 97) dX10_join_97 (zAr_of rfl : zAr 75 65 0 6) (by omega) ?_
      refine zV_iload (pc := 98) dX10_join_98 rfl ?_
      refine zV_iret (pc := 100) dX10_join_100 trivial ⟨Nat.zero_le _, Nat.zero_le _⟩ ?_
      exact ⟨by rw [hfin], rfl, h2.back⟩
    · refine zV_aload_n (pc := 50) (i := 0) dX10_join_50 rfl rfl ?_
      refine zV_get (pc := 51) (j := 11) dX10_join_51 flX10_32 (zOb_of rfl) rfl hS1.e58_11 ?_
      refine zV_iload_n (pc := 54) (i := 1) dX10_join_54 rfl rfl ?_
      refine zV_iload_n (pc := 55) (i := 3) dX10_join_55 rfl rfl ?_
      refine zV_iload (pc := 56) dX10_join_56 rfl ?_
      refine zV_iadd (pc := 58) dX10_join_58 ?_
      refine zV_bipush (pc := 59) dX10_join_59 (by decide) ?_
      refine zV_iremN (pc := 61) dX10_join_61 (by omega) (by omega) ?_
      refine zV_iast (pc := 62) dX10_join_62 (zAr_of rfl : zAr 75 65 0 6) (by omega) ?_
      have fp : zFr zMs (zsh_ M i s) (zU M1 65 i ((M 65 i + s) % 60)) := h2.put
      have hv9 : 0 ≤ (M 65 i + s) % 60 ∧ (M 65 i + s) % 60 ≤ 59 := by omega
      have hS2 : zSt (zU M1 65 i ((M 65 i + s) % 60)) := (hR.1.b (t := i)).fr fp zMs_st
      have hW2 : zWm (zU M1 65 i ((M 65 i + s) % 60)) := (hR.2.1.b (t := i) hv9).fr fp
      have e12 : (zU M1 65 i ((M 65 i + s) % 60)) 58 12 = M 58 12 := (fp _ _ (by unfold zMs; omega)).trans (zU_a _ _ _ _ (by decide))
      have h4c : zfst (fun s => ztwoS M i j s) s (k + 1) = zfst (fun s => ztwoS M i j s) 0 60 := h5 c_47
      refine zV_aload_n (pc := 63) (i := 0) dX10_join_63 rfl rfl ?_
      refine zV_iconst (pc := 64) dX10_join_64 ?_
      refine zV_iload_n (pc := 65) (i := 1) dX10_join_65 rfl rfl ?_
      refine zV_ishl (pc := 66) dX10_join_66 (z_shl (n := i.toNat) (by omega) (by omega)) ?_
      refine zV_iconst (pc := 67) dX10_join_67 ?_
      refine zV_iload_n (pc := 68) (i := 2) dX10_join_68 rfl rfl ?_
      refine zV_ishl (pc := 69) dX10_join_69 (z_shl (n := j.toNat) (by omega) (by omega)) ?_
      refine zV_ior (pc := 70) dX10_join_70 (z_or3 (by omega) (by omega) hij) ?_
      refine zV_ivs (pc := 71) (ci := 10) dX10_join_71 klX10_392 mX10_meets ⟨by decide, rfl⟩ rfl ⟨Nat.zero_le _, Nat.zero_le _⟩ (kX10_meets hS2 hW2 (S := 2 ^ i.toNat + 2 ^ j.toNat) (by omega)) (zOb_of rfl) rfl rfl (Nat.le_of_ble_eq_true rfl) ?_
      rw [e12]
      have ez : (∃ d, zmc (zTm (zU M1 65 i ((M 65 i + s) % 60))) (2 ^ i.toNat + 2 ^ j.toNat) (M 58 12) d) ↔ ztwoS M i j s := ⟨fun ⟨d, hd⟩ => ⟨d, (zmc_fr (fun e _ _ => ⟨zTm_fr fp e 2 (by decide), zTm_fr fp e 3 (by decide)⟩)).mp hd⟩, fun ⟨d, hd⟩ => ⟨d, (zmc_fr (fun e _ _ => ⟨zTm_fr fp e 2 (by decide), zTm_fr fp e 3 (by decide)⟩)).mpr hd⟩⟩
      rintro w9 N9 M2 ⟨rfl, fr, ⟨rfl, q⟩ | ⟨rfl, q, hs1⟩⟩
      · skip
        refine zV_if_eq (pc := 74) (tgt := 82) dX10_join_74 (by decide) (by decide) (fun _ => ?_) (fun q => absurd rfl q)
        refine zV_iconst (pc := 82) dX10_join_82 ?_
        refine zV_istore (pc := 83) dX10_join_83 rfl ?_
        try dsimp only [List.set_cons_succ, List.set_cons_zero]
        refine zV_iinc (pc := 85) dX10_join_85 rfl rfl ?_
        try dsimp only [List.set_cons_succ, List.set_cons_zero]
        refine zV_goto (pc := 88) (tgt := 37) dX10_join_88 (by decide) ?_
        have hno := (zfst_f (q := (fun s => ztwoS M i j s)) (k := k) (fun y => by obtain ⟨d, hd⟩ := ez.mpr y; exact q d hd)).symm.trans h4c
        exact ih (s + 1) (-1) _ M2 (by omega) (by omega) (fp.tr fr) hv9 (Or.inr ⟨rfl, hno⟩) (fun _ => hno)
      · skip
        refine zV_if_eq (pc := 74) (tgt := 82) dX10_join_74 (by decide) (by decide) (fun q => absurd q (by decide)) (fun _ => ?_)
        refine zV_iload (pc := 77) dX10_join_77 rfl ?_
        refine zV_goto (pc := 79) (tgt := 83) dX10_join_79 (by decide) ?_
        refine zV_istore (pc := 83) dX10_join_83 rfl ?_
        try dsimp only [List.set_cons_succ, List.set_cons_zero]
        refine zV_iinc (pc := 85) dX10_join_85 rfl rfl ?_
        try dsimp only [List.set_cons_succ, List.set_cons_zero]
        refine zV_goto (pc := 88) (tgt := 37) dX10_join_88 (by decide) ?_
        exact ih (s + 1) s _ M2 (by omega) (by omega) (fp.tr fr) hv9 (Or.inl ((zfst_t (q := (fun s => ztwoS M i j s)) (ez.mp ⟨M2 58 32, (q _).mpr zmR_f⟩)).symm.trans h4c)) (fun q => by omega)
set_option maxRecDepth 20000 in
set_option maxHeartbeats 2000000 in
theorem kX10_join {tp : Int → Int} {z : Int} (hR : zRo2 M tp z) {i j : Int} (hi : -2147483648 ≤ i ∧ i ≤ 2147483647) (hj : -2147483648 ≤ j ∧ j ≤ 2147483647) : zK g yX10_join xX10_join [zr 58, zi i, zi j] 75 M (zPq (zi (zif ((0 ≤ i ∧ i < M 58 12) ∧ (0 ≤ j ∧ j < M 58 12) ∧ i ≠ j) (zfst (fun s => ztwoS M i j s) 0 60) (-2))) 75 (fun M1 => zFr zMs M M1)) := by
  refine zK_of (ls0 := [zr 58, zi i, zi j, (3, 0), (3, 0), (3, 0)]) (by decide) rfl (by decide) rfl (Nat.le_of_ble_eq_true rfl) ?_
  have hn := hR.2.1.1
  refine zV_aload_n (pc := 0) (i := 0) dX10_join_0 rfl rfl ?_
  refine zV_iload_n (pc := 1) (i := 1) dX10_join_1 rfl rfl ?_
  refine zV_ivp (pc := 2) (ci := 10) dX10_join_2 klX10_84 mX10_isThing ⟨by decide, rfl⟩ rfl ⟨Nat.zero_le _, Nat.zero_le _⟩ (kX10_isThing hR.2.1.1 (by omega)) (zOb_of rfl) rfl rfl (Nat.le_of_ble_eq_true rfl) ?_
  refine zV_if_eqb (pc := 5) (tgt := 21) dX10_join_5 (by decide) (fun c_5 => ?_) (fun c_5 => ?_)
  · refine zV_bipush (pc := 21) dX10_join_21 (by decide) ?_
    refine zV_iret (pc := 23) dX10_join_23 trivial ⟨Nat.zero_le _, Nat.zero_le _⟩ ?_
    refine ⟨congrArg (fun x => some (zi x)) (zif_f (fun q => ?_)).symm, rfl, zFr.rf⟩
    first
      | exact c_5 q.1
      | exact c_13 q.2.1
      | exact q.2.2 c_18
  · refine zV_aload_n (pc := 8) (i := 0) dX10_join_8 rfl rfl ?_
    refine zV_iload_n (pc := 9) (i := 2) dX10_join_9 rfl rfl ?_
    refine zV_ivp (pc := 10) (ci := 10) dX10_join_10 klX10_84 mX10_isThing ⟨by decide, rfl⟩ rfl ⟨Nat.zero_le _, Nat.zero_le _⟩ (kX10_isThing hR.2.1.1 (by omega)) (zOb_of rfl) rfl rfl (Nat.le_of_ble_eq_true rfl) ?_
    refine zV_if_eqb (pc := 13) (tgt := 21) dX10_join_13 (by decide) (fun c_13 => ?_) (fun c_13 => ?_)
    · refine zV_bipush (pc := 21) dX10_join_21 (by decide) ?_
      refine zV_iret (pc := 23) dX10_join_23 trivial ⟨Nat.zero_le _, Nat.zero_le _⟩ ?_
      refine ⟨congrArg (fun x => some (zi x)) (zif_f (fun q => ?_)).symm, rfl, zFr.rf⟩
      first
        | exact c_5 q.1
        | exact c_13 q.2.1
        | exact q.2.2 c_18
    · refine zV_iload_n (pc := 16) (i := 1) dX10_join_16 rfl rfl ?_
      refine zV_iload_n (pc := 17) (i := 2) dX10_join_17 rfl rfl ?_
      refine zV_icmp_ne (pc := 18) (tgt := 24) dX10_join_18 (by decide) (by omega) (fun c_18 => ?_) (fun c_18 => ?_)
      · refine zV_aload_n (pc := 24) (i := 0) dX10_join_24 rfl rfl ?_
        refine zV_get (pc := 25) (j := 11) dX10_join_25 flX10_32 (zOb_of rfl) rfl hR.1.e58_11 ?_
        refine zV_iload_n (pc := 28) (i := 1) dX10_join_28 rfl rfl ?_
        refine zV_iald (pc := 29) dX10_join_29 (zAr_of rfl : zAr 75 65 0 6) (by omega) rfl ?_
        refine zV_istore_n (pc := 30) (i := 3) dX10_join_30 rfl rfl ?_
        try dsimp only [List.set_cons_succ, List.set_cons_zero]
        refine zV_iconst (pc := 31) dX10_join_31 ?_
        refine zV_istore (pc := 32) dX10_join_32 rfl ?_
        try dsimp only [List.set_cons_succ, List.set_cons_zero]
        refine zV_iconst (pc := 34) dX10_join_34 ?_
        refine zV_istore (pc := 35) dX10_join_35 rfl ?_
        try dsimp only [List.set_cons_succ, List.set_cons_zero]
        rw [zif_t ⟨c_5, c_13, c_18⟩]
        have hb : 0 ≤ M 65 i ∧ M 65 i ≤ 59 := (hR.2.1.2 i c_5.1 c_5.2).2.2.2
        exact kX10_joL hR c_5 c_13 c_18 60 0 (-1) (M 65 i) M (by omega) (by omega) (by rw [zU_id]; exact zFr.rf) hb (Or.inr ⟨rfl, rfl⟩) (fun _ => rfl)
      · refine zV_bipush (pc := 21) dX10_join_21 (by decide) ?_
        refine zV_iret (pc := 23) dX10_join_23 trivial ⟨Nat.zero_le _, Nat.zero_le _⟩ ?_
        refine ⟨congrArg (fun x => some (zi x)) (zif_f (fun q => ?_)).symm, rfl, zFr.rf⟩
        first
          | exact c_5 q.1
          | exact c_13 q.2.1
          | exact q.2.2 c_18
theorem zgm_r {M : zM} {tp : Int → Int} {z t s : Int} (hW : zWm M) : 0 ≤ zgm M tp z t s ∧ zgm M tp z t s ≤ 520099 := by
  have hn := hW.1
  have h1 := zsum_b (f := zkm (zsh_ M t s) tp z (zfm (zsh_ M t s))) (m := 1300) (n := 400) (fun k _ _ => zkm_r (hW.b (by omega)) tp z _ k)
  have h2 := ztt_r tp z 2 (znm 0 t 0 (zTm M t 2) s (zTm M t 1))
  unfold zgm
  omega
theorem zgl_s {c : Int → Int} {a b : Int} (h : ∀ s : Int, a ≤ c s ∧ c s ≤ b) : ∀ k : Nat, (a ≤ zgl c k ∧ zgl c k ≤ b) ∧ 0 ≤ zgb c k ∧ zgb c k ≤ k := by
  intro k
  induction k with
  | zero => exact ⟨h 0, by show (0 : Int) ≤ 0; decide, by show (0 : Int) ≤ 0; decide⟩
  | succ k ih =>
    have h1 := h (k + 1)
    show (a ≤ (if c (k + 1) < zgl c k then c (k + 1) else zgl c k) ∧ (if c (k + 1) < zgl c k then c (k + 1) else zgl c k) ≤ b) ∧ 0 ≤ (if c (k + 1) < zgl c k then (k : Int) + 1 else zgb c k) ∧ (if c (k + 1) < zgl c k then (k : Int) + 1 else zgb c k) ≤ ((k + 1 : Nat) : Int)
    split <;> omega
set_option maxRecDepth 20000 in
set_option maxHeartbeats 2000000 in
theorem kX10_gsL {tp : Int → Int} {z : Int} (hR : zRo2 M tp z) {t m : Int} (ht : 0 ≤ t ∧ t < M 58 12) (hm : 0 ≤ m ∧ m ≤ 1) : ∀ (k : Nat) (s a b v : Int) (M1 : zM) (w7 : zv), s + k = 60 → 0 ≤ s → zFr zMs (zU M 65 t v) M1 → (0 ≤ v ∧ v ≤ 59) → (1 ≤ s → a = zgb (zgm M tp z t) (s - 1).toNat ∧ b = zgl (zgm M tp z t) (s - 1).toNat) → (s = 0 → a = -1) → zV g xX10_goodShift (zPq (zi (if m = 0 then zgb (zgm M tp z t) 59 else zgl (zgm M tp z t) 59)) 75 (fun M1 => zFr zMs M M1)) 37 [zr 58, zi t, zi m, zi (M 65 t), zi a, zi b, zi s, w7] [] 75 M1 0 0 := by
  intro k
  induction k with
  | zero =>
    intro s a b v M1 w7 h0 h1 h2 h3 h4 h5
    have hn := hR.2.1.1
    have hti := hR.2.1.2 t ht.1 ht.2
    have hb : 0 ≤ M 65 t ∧ M 65 t ≤ 59 := hti.2.2.2
    have hS1 := (hR.1.b (t := t) (v := v)).fr h2 zMs_st
    have hz := zgl_s (c := (zgm M tp z t)) (fun s => zgm_r hR.2.1) (s - 1).toNat
    have hab : 1 ≤ s → (0 ≤ a ∧ a ≤ 59) ∧ 0 ≤ b ∧ b ≤ 520099 := fun q => by have := h4 q; omega
    refine zV_iload (pc := 37) dX10_goodShift_37 rfl ?_
    refine zV_bipush (pc := 39) dX10_goodShift_39 (by decide) ?_
    refine zV_icmp_ge (pc := 41) (tgt := 101) dX10_goodShift_41 (by decide) (by omega) (fun c_41 => ?_) (fun c_41 => absurd (by omega) c_41)
    refine zV_aload_n (pc := 101) (i := 0) dX10_goodShift_101 rfl rfl ?_
    refine zV_get (pc := 102) (j := 11) dX10_goodShift_102 flX10_32 (zOb_of rfl) rfl hS1.e58_11 ?_
    refine zV_iload_n (pc := 105) (i := 1) dX10_goodShift_105 rfl rfl ?_
    refine zV_iload_n (pc := 106) (i := 3) dX10_goodShift_106 rfl rfl ?_
    refine zV_iast (pc := 107) dX10_goodShift_107 (zAr_of rfl : zAr 75 65 0 6) (by omega) ?_
    refine zV_iload_n (pc := 108) (i := 2) dX10_goodShift_108 rfl rfl ?_
    refine zV_if_ne (pc := 109) (tgt := 117) dX10_goodShift_109 (by decide) (by omega) (fun c_109 => ?_) (fun c_109 => ?_)
    · refine zV_iload (pc := 117) dX10_goodShift_117 rfl ?_
      refine zV_iret (pc := 119) dX10_goodShift_119 trivial ⟨Nat.zero_le _, Nat.zero_le _⟩ ?_
      have hz4 := h4 (by omega)
      rw [show (s - 1).toNat = 59 by omega] at hz4
      first
        | exact ⟨by rw [if_pos (by omega), hz4.1], rfl, h2.back⟩
        | exact ⟨by rw [if_neg (by omega), hz4.2], rfl, h2.back⟩
    · refine zV_iload (pc := 112) dX10_goodShift_112 rfl ?_
      refine zV_goto (pc := 114) (tgt := 119) dX10_goodShift_114 (by decide) ?_
      refine zV_iret (pc := 119) dX10_goodShift_119 trivial ⟨Nat.zero_le _, Nat.zero_le _⟩ ?_
      have hz4 := h4 (by omega)
      rw [show (s - 1).toNat = 59 by omega] at hz4
      first
        | exact ⟨by rw [if_pos (by omega), hz4.1], rfl, h2.back⟩
        | exact ⟨by rw [if_neg (by omega), hz4.2], rfl, h2.back⟩
  | succ k ih =>
    intro s a b v M1 w7 h0 h1 h2 h3 h4 h5
    have hn := hR.2.1.1
    have hti := hR.2.1.2 t ht.1 ht.2
    have hb : 0 ≤ M 65 t ∧ M 65 t ≤ 59 := hti.2.2.2
    have hS1 := (hR.1.b (t := t) (v := v)).fr h2 zMs_st
    have hz := zgl_s (c := (zgm M tp z t)) (fun s => zgm_r hR.2.1) (s - 1).toNat
    have hab : 1 ≤ s → (0 ≤ a ∧ a ≤ 59) ∧ 0 ≤ b ∧ b ≤ 520099 := fun q => by have := h4 q; omega
    refine zV_iload (pc := 37) dX10_goodShift_37 rfl ?_
    refine zV_bipush (pc := 39) dX10_goodShift_39 (by decide) ?_
    refine zV_icmp_ge (pc := 41) (tgt := 101) dX10_goodShift_41 (by decide) (by omega) (fun c_41 => absurd c_41 (by omega)) (fun c_41 => ?_)
    refine zV_aload_n (pc := 44) (i := 0) dX10_goodShift_44 rfl rfl ?_
    refine zV_get (pc := 45) (j := 11) dX10_goodShift_45 flX10_32 (zOb_of rfl) rfl hS1.e58_11 ?_
    refine zV_iload_n (pc := 48) (i := 1) dX10_goodShift_48 rfl rfl ?_
    refine zV_iload_n (pc := 49) (i := 3) dX10_goodShift_49 rfl rfl ?_
    refine zV_iload (pc := 50) dX10_goodShift_50 rfl ?_
    refine zV_iadd (pc := 52) dX10_goodShift_52 ?_
    refine zV_bipush (pc := 53) dX10_goodShift_53 (by decide) ?_
    refine zV_iremN (pc := 55) dX10_goodShift_55 (by omega) (by omega) ?_
    refine zV_iast (pc := 56) dX10_goodShift_56 (zAr_of rfl : zAr 75 65 0 6) (by omega) ?_
    have fp : zFr zMs (zsh_ M t s) (zU M1 65 t ((M 65 t + s) % 60)) := h2.put
    have hv9 : 0 ≤ (M 65 t + s) % 60 ∧ (M 65 t + s) % 60 ≤ 59 := by omega
    have hRs : zRo2 (zsh_ M t s) tp z := hR.b (t := t) hv9
    have hR2 : zRo2 (zU M1 65 t ((M 65 t + s) % 60)) tp z := hRs.fr fp
    have hns : 0 ≤ zsh_ M t s 58 12 ∧ zsh_ M t s 58 12 ≤ 6 := by rw [show zsh_ M t s 58 12 = M 58 12 from zU_a _ _ _ _ (by decide)]; exact hn
    have eq0 : zsum (zkm (zU M1 65 t ((M 65 t + s) % 60)) tp z (zfm (zU M1 65 t ((M 65 t + s) % 60)))) 400 = zsum (zkm (zsh_ M t s) tp z (zfm (zsh_ M t s))) 400 := by rw [zfm_fr fp]; exact zsum_c (fun d _ _ => zkm_fr fp hns d)
    refine zV_aload_n (pc := 57) (i := 0) dX10_goodShift_57 rfl rfl ?_
    refine zV_ivq (pc := 58) (ci := 10) dX10_goodShift_58 klX10_367 mX10_spends ⟨by decide, rfl⟩ rfl ⟨Nat.zero_le _, Nat.zero_le _⟩ (kX10_spends hR2) (zOb_of rfl) rfl rfl (Nat.le_of_ble_eq_true rfl) (fun M2 q2 => ?_)
    obtain ⟨-, -, f2⟩ := q2
    rw [eq0]
    have f3 := fp.tr f2
    have hR3 := hRs.fr f3
    have g63 : M2 63 t = zTm M t 1 := (zTm_fr f3 t 1 (by decide)).trans (zTm_b (f := 1) (by omega) (by decide))
    have g64 : M2 64 t = zTm M t 2 := (zTm_fr f3 t 2 (by decide)).trans (zTm_b (f := 2) (by omega) (by decide))
    refine zV_aload_n (pc := 61) (i := 0) dX10_goodShift_61 rfl rfl ?_
    refine zV_iconst (pc := 62) dX10_goodShift_62 ?_
    refine zV_iload_n (pc := 63) (i := 1) dX10_goodShift_63 rfl rfl ?_
    refine zV_iconst (pc := 64) dX10_goodShift_64 ?_
    refine zV_iconst (pc := 65) dX10_goodShift_65 ?_
    refine zV_iload (pc := 66) dX10_goodShift_66 rfl ?_
    refine zV_ivq (pc := 68) (ci := 10) dX10_goodShift_68 klX10_342 mX10_says ⟨by decide, rfl⟩ rfl ⟨Nat.zero_le _, Nat.zero_le _⟩ (kX10_says2 hR3.1 hR3.2.2.1 (t := t) (d := 0) (m := 0) (r := s) (by omega) (by rw [g63]; exact hti.2.1) (by rw [g64]; exact hti.2.2.1) (by decide) (by decide) (by omega)) (zOb_of rfl) rfl rfl (Nat.le_of_ble_eq_true rfl) (fun M3 q3 => ?_)
    have f4 := f3.tr (q3.mono (fun a j y => zNS_M y))
    rw [g63, g64]
    have eg : zsum (zkm (zsh_ M t s) tp z (zfm (zsh_ M t s))) 400 + ztt tp z 2 (znm 0 t 0 (zTm M t 2) s (zTm M t 1)) = zgm M tp z t s := rfl
    have hg := zgm_r (tp := tp) (z := z) (t := t) (s := s) hR.2.1
    refine zV_iadd (pc := 71) dX10_goodShift_71 ?_
    rw [eg]
    refine zV_istore (pc := 72) dX10_goodShift_72 rfl ?_
    try dsimp only [List.set_cons_succ, List.set_cons_zero]
    refine zV_iload (pc := 74) dX10_goodShift_74 rfl ?_
    refine zV_iconst (pc := 76) dX10_goodShift_76 ?_
    refine zV_icmp_eq (pc := 77) (tgt := 87) dX10_goodShift_77 (by decide) (by by_cases q : s = 0; omega; have := hab (by omega); omega) (fun c_77 => ?_) (fun c_77 => ?_)
    · refine zV_iload (pc := 87) dX10_goodShift_87 rfl ?_
      refine zV_istore (pc := 89) dX10_goodShift_89 rfl ?_
      try dsimp only [List.set_cons_succ, List.set_cons_zero]
      refine zV_iload (pc := 91) dX10_goodShift_91 rfl ?_
      refine zV_istore (pc := 93) dX10_goodShift_93 rfl ?_
      try dsimp only [List.set_cons_succ, List.set_cons_zero]
      refine zV_iinc (pc := 95) dX10_goodShift_95 rfl rfl ?_
      try dsimp only [List.set_cons_succ, List.set_cons_zero]
      refine zV_goto (pc := 98) (tgt := 37) dX10_goodShift_98 (by decide) ?_
      first
        | (have e0 : s = 0 := by omega
           subst e0
           exact ih _ _ _ _ M3 _ (by omega) (by omega) f4 hv9 (fun _ => ⟨rfl, rfl⟩) (by omega))
        | (have hz4 := h4 (by omega)
           have hq := zgl_t (c := (zgm M tp z t)) (s := s) (by omega) (by rw [← hz4.2]; omega)
           exact ih _ _ _ _ M3 _ (by omega) (by omega) f4 hv9 (fun _ => ⟨by rw [show (s + 1 - 1).toNat = s.toNat by omega]; exact hq.2.symm, by rw [show (s + 1 - 1).toNat = s.toNat by omega]; exact hq.1.symm⟩) (by omega))
        | (have hz4 := h4 (by omega)
           have hq := zgl_f (c := (zgm M tp z t)) (s := s) (by omega) (by rw [← hz4.2]; omega)
           exact ih _ _ _ _ M3 _ (by omega) (by omega) f4 hv9 (fun _ => ⟨by rw [show (s + 1 - 1).toNat = s.toNat by omega, hq.2]; exact hz4.1, by rw [show (s + 1 - 1).toNat = s.toNat by omega, hq.1]; exact hz4.2⟩) (by omega))
    · refine zV_iload (pc := 80) dX10_goodShift_80 rfl ?_
      refine zV_iload (pc := 82) dX10_goodShift_82 rfl ?_
      refine zV_icmp_ge (pc := 84) (tgt := 95) dX10_goodShift_84 (by decide) (by have := hab (by omega); omega) (fun c_84 => ?_) (fun c_84 => ?_)
      · refine zV_iinc (pc := 95) dX10_goodShift_95 rfl rfl ?_
        try dsimp only [List.set_cons_succ, List.set_cons_zero]
        refine zV_goto (pc := 98) (tgt := 37) dX10_goodShift_98 (by decide) ?_
        first
          | (have e0 : s = 0 := by omega
             subst e0
             exact ih _ _ _ _ M3 _ (by omega) (by omega) f4 hv9 (fun _ => ⟨rfl, rfl⟩) (by omega))
          | (have hz4 := h4 (by omega)
             have hq := zgl_t (c := (zgm M tp z t)) (s := s) (by omega) (by rw [← hz4.2]; omega)
             exact ih _ _ _ _ M3 _ (by omega) (by omega) f4 hv9 (fun _ => ⟨by rw [show (s + 1 - 1).toNat = s.toNat by omega]; exact hq.2.symm, by rw [show (s + 1 - 1).toNat = s.toNat by omega]; exact hq.1.symm⟩) (by omega))
          | (have hz4 := h4 (by omega)
             have hq := zgl_f (c := (zgm M tp z t)) (s := s) (by omega) (by rw [← hz4.2]; omega)
             exact ih _ _ _ _ M3 _ (by omega) (by omega) f4 hv9 (fun _ => ⟨by rw [show (s + 1 - 1).toNat = s.toNat by omega, hq.2]; exact hz4.1, by rw [show (s + 1 - 1).toNat = s.toNat by omega, hq.1]; exact hz4.2⟩) (by omega))
      · refine zV_iload (pc := 87) dX10_goodShift_87 rfl ?_
        refine zV_istore (pc := 89) dX10_goodShift_89 rfl ?_
        try dsimp only [List.set_cons_succ, List.set_cons_zero]
        refine zV_iload (pc := 91) dX10_goodShift_91 rfl ?_
        refine zV_istore (pc := 93) dX10_goodShift_93 rfl ?_
        try dsimp only [List.set_cons_succ, List.set_cons_zero]
        refine zV_iinc (pc := 95) dX10_goodShift_95 rfl rfl ?_
        try dsimp only [List.set_cons_succ, List.set_cons_zero]
        refine zV_goto (pc := 98) (tgt := 37) dX10_goodShift_98 (by decide) ?_
        first
          | (have e0 : s = 0 := by omega
             subst e0
             exact ih _ _ _ _ M3 _ (by omega) (by omega) f4 hv9 (fun _ => ⟨rfl, rfl⟩) (by omega))
          | (have hz4 := h4 (by omega)
             have hq := zgl_t (c := (zgm M tp z t)) (s := s) (by omega) (by rw [← hz4.2]; omega)
             exact ih _ _ _ _ M3 _ (by omega) (by omega) f4 hv9 (fun _ => ⟨by rw [show (s + 1 - 1).toNat = s.toNat by omega]; exact hq.2.symm, by rw [show (s + 1 - 1).toNat = s.toNat by omega]; exact hq.1.symm⟩) (by omega))
          | (have hz4 := h4 (by omega)
             have hq := zgl_f (c := (zgm M tp z t)) (s := s) (by omega) (by rw [← hz4.2]; omega)
             exact ih _ _ _ _ M3 _ (by omega) (by omega) f4 hv9 (fun _ => ⟨by rw [show (s + 1 - 1).toNat = s.toNat by omega, hq.2]; exact hz4.1, by rw [show (s + 1 - 1).toNat = s.toNat by omega, hq.1]; exact hz4.2⟩) (by omega))
set_option maxRecDepth 20000 in
set_option maxHeartbeats 2000000 in
theorem kX10_goodShift {tp : Int → Int} {z : Int} (hR : zRo2 M tp z) {t m : Int} (ht : -2147483648 ≤ t ∧ t ≤ 2147483647) (hm : -2147483648 ≤ m ∧ m ≤ 2147483647) : zK g yX10_goodShift xX10_goodShift [zr 58, zi t, zi m] 75 M (zPq (zi (zif ((0 ≤ t ∧ t < M 58 12) ∧ (0 ≤ m ∧ m ≤ 1)) (if m = 0 then zgb (zgm M tp z t) 59 else zgl (zgm M tp z t) 59) (-2))) 75 (fun M1 => zFr zMs M M1)) := by
  refine zK_of (ls0 := [zr 58, zi t, zi m, (3, 0), (3, 0), (3, 0), (3, 0), (3, 0)]) (by decide) rfl (by decide) rfl (Nat.le_of_ble_eq_true rfl) ?_
  have hn := hR.2.1.1
  refine zV_aload_n (pc := 0) (i := 0) dX10_goodShift_0 rfl rfl ?_
  refine zV_iload_n (pc := 1) (i := 1) dX10_goodShift_1 rfl rfl ?_
  refine zV_ivp (pc := 2) (ci := 10) dX10_goodShift_2 klX10_84 mX10_isThing ⟨by decide, rfl⟩ rfl ⟨Nat.zero_le _, Nat.zero_le _⟩ (kX10_isThing hR.2.1.1 (by omega)) (zOb_of rfl) rfl rfl (Nat.le_of_ble_eq_true rfl) ?_
  refine zV_if_eqb (pc := 5) (tgt := 18) dX10_goodShift_5 (by decide) (fun c_5 => ?_) (fun c_5 => ?_)
  · refine zV_bipush (pc := 18) dX10_goodShift_18 (by decide) ?_
    refine zV_iret (pc := 20) dX10_goodShift_20 trivial ⟨Nat.zero_le _, Nat.zero_le _⟩ ?_
    first
      | exact ⟨by rw [zif_f (fun q => c_5 q.1)], rfl, zFr.rf⟩
      | exact ⟨by rw [zif_f (fun q => c_15 q.2)], rfl, zFr.rf⟩
  · refine zV_iload_n (pc := 8) (i := 2) dX10_goodShift_8 rfl rfl ?_
    refine zV_i2l (pc := 9) dX10_goodShift_9 (by omega) ?_
    refine zV_lconst0 (pc := 10) dX10_goodShift_10 ?_
    refine zV_lconst1 (pc := 11) dX10_goodShift_11 ?_
    refine zV_isp (pc := 12) dX10_goodShift_12 klX10_76 mX10_in rfl ⟨Nat.zero_le _, Nat.zero_le _⟩ (kX10_in (by omega) (by omega) (by omega)) rfl rfl (Nat.le_of_ble_eq_true rfl) ?_
    refine zV_if_neb (pc := 15) (tgt := 21) dX10_goodShift_15 (by decide) (fun c_15 => ?_) (fun c_15 => ?_)
    · refine zV_aload_n (pc := 21) (i := 0) dX10_goodShift_21 rfl rfl ?_
      refine zV_get (pc := 22) (j := 11) dX10_goodShift_22 flX10_32 (zOb_of rfl) rfl hR.1.e58_11 ?_
      refine zV_iload_n (pc := 25) (i := 1) dX10_goodShift_25 rfl rfl ?_
      refine zV_iald (pc := 26) dX10_goodShift_26 (zAr_of rfl : zAr 75 65 0 6) (by omega) rfl ?_
      refine zV_istore_n (pc := 27) (i := 3) dX10_goodShift_27 rfl rfl ?_
      try dsimp only [List.set_cons_succ, List.set_cons_zero]
      refine zV_iconst (pc := 28) dX10_goodShift_28 ?_
      refine zV_istore (pc := 29) dX10_goodShift_29 rfl ?_
      try dsimp only [List.set_cons_succ, List.set_cons_zero]
      refine zV_iconst (pc := 31) dX10_goodShift_31 ?_
      refine zV_istore (pc := 32) dX10_goodShift_32 rfl ?_
      try dsimp only [List.set_cons_succ, List.set_cons_zero]
      refine zV_iconst (pc := 34) dX10_goodShift_34 ?_
      refine zV_istore (pc := 35) dX10_goodShift_35 rfl ?_
      try dsimp only [List.set_cons_succ, List.set_cons_zero]
      rw [zif_t ⟨c_5, c_15⟩]
      have hb : 0 ≤ M 65 t ∧ M 65 t ≤ 59 := (hR.2.1.2 t c_5.1 c_5.2).2.2.2
      exact kX10_gsL hR c_5 c_15 60 0 (-1) 0 (M 65 t) M _ (by omega) (by omega) (by rw [zU_id]; exact zFr.rf) hb (fun q => by omega) (fun _ => rfl)
    · refine zV_bipush (pc := 18) dX10_goodShift_18 (by decide) ?_
      refine zV_iret (pc := 20) dX10_goodShift_20 trivial ⟨Nat.zero_le _, Nat.zero_le _⟩ ?_
      first
        | exact ⟨by rw [zif_f (fun q => c_5 q.1)], rfl, zFr.rf⟩
        | exact ⟨by rw [zif_f (fun q => c_15 q.2)], rfl, zFr.rf⟩
end
