/-! THE CLASS'S READER: advance, need, fail, the levels (printed by wip/whole/p41.py) -/
section
variable {g : zG} {N : Nat} {M : zM}
theorem zno {a : Int} (h : a ≠ 2 ∧ a ≠ 3) {q : Prop} : a = 2 ∨ a = 3 → q := fun e => e.elim (fun e => absurd e h.1) (fun e => absurd e h.2)
theorem zix2_b {i : Nat} {x : Int} : ∀ (k : Nat) (j : Int), -1 ≤ j → -1 ≤ zix2 i x j k ∧ zix2 i x j k ≤ j + k := by
  intro k
  induction k with
  | zero => intro j h; exact ⟨by show (-1 : Int) ≤ -1; decide, by show (-1 : Int) ≤ j + 0; omega⟩
  | succ k ih =>
    intro j h
    have := ih (j + 1) (by omega)
    show -1 ≤ (if zby i j.toNat = x then j else zix2 i x (j + 1) k) ∧ (if zby i j.toNat = x then j else zix2 i x (j + 1) k) ≤ j + ((k + 1 : Nat) : Int)
    split <;> omega
set_option maxRecDepth 20000 in
set_option maxHeartbeats 2000000 in
theorem kX3_adT {t z : Int} {tp : Int → Int} (ht : 0 ≤ t ∧ t < 6) (hC : zRC M t tp z) (hT : ztp tp z) {s : zσ} (hat : 0 ≤ s.at ∧ s.at ≤ z) (h182 : M 18 2 = s.at) (h186 : M 18 6 = s.ft) {p i : Int} (hp : zrn (fun j => zbk (zbp tp z j)) 160 s.at = p) (hpz : 0 ≤ p ∧ p ≤ z) {M1 : zM} (h2 : M1 18 2 = p) (hf : zFr zAF M M1) : zV g xX3_advance (zPn 75 (fun M1 => zRd M1 (zadv tp z s) ∧ zFr zAF M M1)) 39 [zr 18, zi i] [] 75 M1 0 0 := by
  obtain ⟨hS, h187, h181, hb⟩ := id (hC.fr ht (hf.mono (fun a j q => zAF_R q)))
  have hC1 := hC.fr ht (hf.mono (fun a j q => zAF_R q))
  have hC2 := hC.fr ht ((hf.up (a := 18) (j := 3) (z := p) ⟨rfl, by decide, by decide⟩).mono (fun a j q => zAF_R q))
  have hz := hT.1
  have hb1 := zbp_r (p := p) hT
  have e6 : M1 18 6 = s.ft := (hf _ _ (by unfold zAF; omega)).trans h186
  have eA : zadv tp z s = ztk tp z p s.ft := by unfold zadv; rw [hp]
  rw [eA]
  refine zV_aload_n (pc := 39) (i := 0) dX3_advance_39 rfl rfl ?_
  refine zV_aload_n (pc := 40) (i := 0) dX3_advance_40 rfl rfl ?_
  refine zV_get (pc := 41) (j := 2) dX3_advance_41 flX3_28 (zOb_of rfl) rfl h2 ?_
  refine zV_put (pc := 44) (j := 3) dX3_advance_44 flX3_53 rfl (zOb_of rfl) rfl trivial ?_
  refine zV_aload_n (pc := 47) (i := 0) dX3_advance_47 rfl rfl ?_
  refine zV_aload_n (pc := 48) (i := 0) dX3_advance_48 rfl rfl ?_
  refine zV_get (pc := 49) (j := 2) dX3_advance_49 flX3_28 (zOb_of rfl) rfl ((zU_j _ _ _ _ (by decide)).trans h2) ?_
  refine zV_ivp (pc := 52) (ci := 3) dX3_advance_52 klX3_80 mX3_byteAt ⟨by decide, rfl⟩ rfl ⟨Nat.zero_le _, Nat.zero_le _⟩ (kX3_byteAt ht hC2 hT (by omega)) (zOb_of rfl) rfl rfl (Nat.le_of_ble_eq_true rfl) ?_
  refine zV_istore_n (pc := 55) (i := 1) dX3_advance_55 rfl rfl ?_
  try dsimp only [List.set_cons_succ, List.set_cons_zero]
  refine zV_iload_n (pc := 56) (i := 1) dX3_advance_56 rfl rfl ?_
  refine zV_iconst (pc := 57) dX3_advance_57 ?_
  refine zV_icmp_ne (pc := 58) (tgt := 69) dX3_advance_58 (by decide) (by omega) (fun c_58 => ?_) (fun c_58 => ?_)
  · refine zV_iload_n (pc := 69) (i := 1) dX3_advance_69 rfl rfl ?_
    refine zV_bipush (pc := 70) dX3_advance_70 (by decide) ?_
    refine zV_bipush (pc := 72) dX3_advance_72 (by decide) ?_
    refine zV_isNp (pc := 74) dX3_advance_74 klX3_88 mX9_within rfl ⟨Nat.zero_le _, Nat.zero_le _⟩ (kX9_within (by omega) (by omega) (by omega)) rfl rfl (Nat.le_of_ble_eq_true rfl) ?_
    refine zV_if_eqb (pc := 77) (tgt := 87) dX3_advance_77 (by decide) (fun c_77 => ?_) (fun c_77 => ?_)
    · refine zV_iload_n (pc := 87) (i := 1) dX3_advance_87 rfl rfl ?_
      refine zV_bipush (pc := 88) dX3_advance_88 (by decide) ?_
      refine zV_bipush (pc := 90) dX3_advance_90 (by decide) ?_
      refine zV_isNp (pc := 92) dX3_advance_92 klX3_88 mX9_within rfl ⟨Nat.zero_le _, Nat.zero_le _⟩ (kX9_within (by omega) (by omega) (by omega)) rfl rfl (Nat.le_of_ble_eq_true rfl) ?_
      refine zV_if_eqb (pc := 95) (tgt := 105) dX3_advance_95 (by decide) (fun c_95 => ?_) (fun c_95 => ?_)
      · refine zV_aload_n (pc := 105) (i := 0) dX3_advance_105 rfl rfl ?_
        refine zV_dup (pc := 106) dX3_advance_106 (by simp) ?_
        refine zV_get (pc := 107) (j := 2) dX3_advance_107 flX3_28 (zOb_of rfl) rfl ((zU_j _ _ _ _ (by decide)).trans h2) ?_
        refine zV_iconst (pc := 110) dX3_advance_110 ?_
        refine zV_iadd (pc := 111) dX3_advance_111 ?_
        refine zV_put (pc := 112) (j := 2) dX3_advance_112 flX3_28 rfl (zOb_of rfl) rfl trivial ?_
        refine zV_aload_n (pc := 115) (i := 0) dX3_advance_115 rfl rfl ?_
        refine zV_ldcS (pc := 116) 13 dX3_advance_116 (by decide) rfl rfl ?_
        refine zV_iload_n (pc := 118) (i := 1) dX3_advance_118 rfl rfl ?_
        refine zV_i2c (pc := 119) dX3_advance_119 (zi2c (by omega)) ?_
        refine zV_ivS (i := 13) (pc := 120) dX3_advance_120 klX3_100 mJ0_indexOf_0f7a4 rfl rfl ⟨Nat.zero_le _, Nat.zero_le _⟩ (kJ0_indexOf (by decide) (by omega)) (by decide) rfl rfl (Nat.le_of_ble_eq_true rfl) ?_
        have hix := zix2_b (i := 13) (x := zbp tp z p) (lenJS.getD 13 0) 0 (by decide)
        have hl8 : lenJS.getD 13 0 = 8 := rfl
        refine zV_if_lt (pc := 123) (tgt := 130) dX3_advance_123 (by decide) (by omega) (fun c_123 => ?_) (fun c_123 => ?_)
        · refine zV_iconst (pc := 130) dX3_advance_130 ?_
          refine zV_put (pc := 131) (j := 4) dX3_advance_131 flX3_47 rfl (zOb_of rfl) rfl trivial ?_
          refine zV_vret (pc := 134) dX3_advance_134 trivial ⟨Nat.zero_le _, Nat.zero_le _⟩ ?_
          unfold ztk
          first
            | (rw [zit_t c_58]
               exact ⟨rfl, rfl, ⟨zU_s _ _ _ _, zno (a := 0) ⟨by decide, by decide⟩, (zU_j _ _ _ _ (by decide)).trans (zU_s _ _ _ _), (zU_j _ _ _ _ (by decide)).trans ((zU_j _ _ _ _ (by decide)).trans h2), (zU_j _ _ _ _ (by decide)).trans ((zU_j _ _ _ _ (by decide)).trans e6)⟩, ((hf.up (a := 18) (j := 3) ⟨rfl, by decide, by decide⟩).up (a := 18) (j := 4) ⟨rfl, by decide, by decide⟩)⟩)
            | (have c1 : zlt (zbp tp z p) := c_77
               rw [zit_f c_58, zit_t c1]
               exact ⟨rfl, rfl, ⟨r2, fun q => r3.resolve_left (fun y => by have q2 : zwt tp p (zrn (fun j => zlt (zbp tp z j)) 160 p) 12 = 2 ∨ zwt tp p (zrn (fun j => zlt (zbp tp z j)) 160 p) 12 = 3 := q; omega), r4, r1, (r5 _ _ (by unfold zAF; omega)).trans ((zU_j _ _ _ _ (by decide)).trans e6)⟩, (hf.up (a := 18) (j := 3) ⟨rfl, by decide, by decide⟩).tr r5⟩)
            | (have c1 : ¬ zlt (zbp tp z p) := c_77
               have c2 : zdg (zbp tp z p) := c_95
               rw [zit_f c_58, zit_f c1, zit_t c2]
               exact ⟨rfl, rfl, ⟨r3, fun _ => r2, r5, r1, (r4 _ _ (by unfold zAF; omega)).trans ((zU_j _ _ _ _ (by decide)).trans e6)⟩, (hf.up (a := 18) (j := 3) ⟨rfl, by decide, by decide⟩).tr r4⟩)
            | (have c1 : ¬ zlt (zbp tp z p) := c_77
               have c2 : ¬ zdg (zbp tp z p) := c_95
               rw [zit_f c_58, zit_f c1, zit_f c2]
               rw [hl8] at c_123 hix
               refine ⟨rfl, rfl, ⟨(zU_s _ _ _ _).trans ?_, fun q => ?_, (zU_j _ _ _ _ (by decide)).trans ((zU_j _ _ _ _ (by decide)).trans (zU_s _ _ _ _)), (zU_j _ _ _ _ (by decide)).trans (zU_s _ _ _ _), (zU_j _ _ _ _ (by decide)).trans ((zU_j _ _ _ _ (by decide)).trans ((zU_j _ _ _ _ (by decide)).trans e6))⟩, (((hf.up (a := 18) (j := 3) ⟨rfl, by decide, by decide⟩).up (a := 18) (j := 2) ⟨rfl, by decide, by decide⟩).up (a := 18) (j := 4) ⟨rfl, by decide, by decide⟩)⟩
               · first
                   | exact (if_pos (by omega)).symm
                   | exact (if_neg (by omega)).symm
               · exfalso
                 have q2 : (if 0 ≤ zix2 13 (zbp tp z p) 0 8 then zbp tp z p else 1) = 2 ∨ (if 0 ≤ zix2 13 (zbp tp z p) 0 8 then zbp tp z p else 1) = 3 := q
                 by_cases d : 0 ≤ zix2 13 (zbp tp z p) 0 8
                 · rw [if_pos d] at q2
                   have := zix2_0 d
                   omega
                 · rw [if_neg d] at q2
                   omega)
        · refine zV_iload_n (pc := 126) (i := 1) dX3_advance_126 rfl rfl ?_
          refine zV_goto (pc := 127) (tgt := 131) dX3_advance_127 (by decide) ?_
          refine zV_put (pc := 131) (j := 4) dX3_advance_131 flX3_47 rfl (zOb_of rfl) rfl trivial ?_
          refine zV_vret (pc := 134) dX3_advance_134 trivial ⟨Nat.zero_le _, Nat.zero_le _⟩ ?_
          unfold ztk
          first
            | (rw [zit_t c_58]
               exact ⟨rfl, rfl, ⟨zU_s _ _ _ _, zno (a := 0) ⟨by decide, by decide⟩, (zU_j _ _ _ _ (by decide)).trans (zU_s _ _ _ _), (zU_j _ _ _ _ (by decide)).trans ((zU_j _ _ _ _ (by decide)).trans h2), (zU_j _ _ _ _ (by decide)).trans ((zU_j _ _ _ _ (by decide)).trans e6)⟩, ((hf.up (a := 18) (j := 3) ⟨rfl, by decide, by decide⟩).up (a := 18) (j := 4) ⟨rfl, by decide, by decide⟩)⟩)
            | (have c1 : zlt (zbp tp z p) := c_77
               rw [zit_f c_58, zit_t c1]
               exact ⟨rfl, rfl, ⟨r2, fun q => r3.resolve_left (fun y => by have q2 : zwt tp p (zrn (fun j => zlt (zbp tp z j)) 160 p) 12 = 2 ∨ zwt tp p (zrn (fun j => zlt (zbp tp z j)) 160 p) 12 = 3 := q; omega), r4, r1, (r5 _ _ (by unfold zAF; omega)).trans ((zU_j _ _ _ _ (by decide)).trans e6)⟩, (hf.up (a := 18) (j := 3) ⟨rfl, by decide, by decide⟩).tr r5⟩)
            | (have c1 : ¬ zlt (zbp tp z p) := c_77
               have c2 : zdg (zbp tp z p) := c_95
               rw [zit_f c_58, zit_f c1, zit_t c2]
               exact ⟨rfl, rfl, ⟨r3, fun _ => r2, r5, r1, (r4 _ _ (by unfold zAF; omega)).trans ((zU_j _ _ _ _ (by decide)).trans e6)⟩, (hf.up (a := 18) (j := 3) ⟨rfl, by decide, by decide⟩).tr r4⟩)
            | (have c1 : ¬ zlt (zbp tp z p) := c_77
               have c2 : ¬ zdg (zbp tp z p) := c_95
               rw [zit_f c_58, zit_f c1, zit_f c2]
               rw [hl8] at c_123 hix
               refine ⟨rfl, rfl, ⟨(zU_s _ _ _ _).trans ?_, fun q => ?_, (zU_j _ _ _ _ (by decide)).trans ((zU_j _ _ _ _ (by decide)).trans (zU_s _ _ _ _)), (zU_j _ _ _ _ (by decide)).trans (zU_s _ _ _ _), (zU_j _ _ _ _ (by decide)).trans ((zU_j _ _ _ _ (by decide)).trans ((zU_j _ _ _ _ (by decide)).trans e6))⟩, (((hf.up (a := 18) (j := 3) ⟨rfl, by decide, by decide⟩).up (a := 18) (j := 2) ⟨rfl, by decide, by decide⟩).up (a := 18) (j := 4) ⟨rfl, by decide, by decide⟩)⟩
               · first
                   | exact (if_pos (by omega)).symm
                   | exact (if_neg (by omega)).symm
               · exfalso
                 have q2 : (if 0 ≤ zix2 13 (zbp tp z p) 0 8 then zbp tp z p else 1) = 2 ∨ (if 0 ≤ zix2 13 (zbp tp z p) 0 8 then zbp tp z p else 1) = 3 := q
                 by_cases d : 0 ≤ zix2 13 (zbp tp z p) 0 8
                 · rw [if_pos d] at q2
                   have := zix2_0 d
                   omega
                 · rw [if_neg d] at q2
                   omega)
      · refine zV_aload_n (pc := 98) (i := 0) dX3_advance_98 rfl rfl ?_
        refine zV_ivn (pc := 99) (ci := 3) dX3_advance_99 klX3_95 mX3_takeNumeral ⟨by decide, rfl⟩ rfl ⟨Nat.zero_le _, Nat.zero_le _⟩ (kX3_takeNumeral ht hC2 hT (p := p) (by omega) (zU_s _ _ _ _) ((zU_j _ _ _ _ (by decide)).trans h2)) (zOb_of rfl) rfl rfl (Nat.le_of_ble_eq_true rfl) (fun M2 q2 => ?_)
        obtain ⟨r1, r2, r3, r5, r4⟩ := q2
        refine zV_goto (pc := 102) (tgt := 134) dX3_advance_102 (by decide) ?_
        refine zV_vret (pc := 134) dX3_advance_134 trivial ⟨Nat.zero_le _, Nat.zero_le _⟩ ?_
        unfold ztk
        first
          | (rw [zit_t c_58]
             exact ⟨rfl, rfl, ⟨zU_s _ _ _ _, zno (a := 0) ⟨by decide, by decide⟩, (zU_j _ _ _ _ (by decide)).trans (zU_s _ _ _ _), (zU_j _ _ _ _ (by decide)).trans ((zU_j _ _ _ _ (by decide)).trans h2), (zU_j _ _ _ _ (by decide)).trans ((zU_j _ _ _ _ (by decide)).trans e6)⟩, ((hf.up (a := 18) (j := 3) ⟨rfl, by decide, by decide⟩).up (a := 18) (j := 4) ⟨rfl, by decide, by decide⟩)⟩)
          | (have c1 : zlt (zbp tp z p) := c_77
             rw [zit_f c_58, zit_t c1]
             exact ⟨rfl, rfl, ⟨r2, fun q => r3.resolve_left (fun y => by have q2 : zwt tp p (zrn (fun j => zlt (zbp tp z j)) 160 p) 12 = 2 ∨ zwt tp p (zrn (fun j => zlt (zbp tp z j)) 160 p) 12 = 3 := q; omega), r4, r1, (r5 _ _ (by unfold zAF; omega)).trans ((zU_j _ _ _ _ (by decide)).trans e6)⟩, (hf.up (a := 18) (j := 3) ⟨rfl, by decide, by decide⟩).tr r5⟩)
          | (have c1 : ¬ zlt (zbp tp z p) := c_77
             have c2 : zdg (zbp tp z p) := c_95
             rw [zit_f c_58, zit_f c1, zit_t c2]
             exact ⟨rfl, rfl, ⟨r3, fun _ => r2, r5, r1, (r4 _ _ (by unfold zAF; omega)).trans ((zU_j _ _ _ _ (by decide)).trans e6)⟩, (hf.up (a := 18) (j := 3) ⟨rfl, by decide, by decide⟩).tr r4⟩)
          | (have c1 : ¬ zlt (zbp tp z p) := c_77
             have c2 : ¬ zdg (zbp tp z p) := c_95
             rw [zit_f c_58, zit_f c1, zit_f c2]
             rw [hl8] at c_123 hix
             refine ⟨rfl, rfl, ⟨(zU_s _ _ _ _).trans ?_, fun q => ?_, (zU_j _ _ _ _ (by decide)).trans ((zU_j _ _ _ _ (by decide)).trans (zU_s _ _ _ _)), (zU_j _ _ _ _ (by decide)).trans (zU_s _ _ _ _), (zU_j _ _ _ _ (by decide)).trans ((zU_j _ _ _ _ (by decide)).trans ((zU_j _ _ _ _ (by decide)).trans e6))⟩, (((hf.up (a := 18) (j := 3) ⟨rfl, by decide, by decide⟩).up (a := 18) (j := 2) ⟨rfl, by decide, by decide⟩).up (a := 18) (j := 4) ⟨rfl, by decide, by decide⟩)⟩
             · first
                 | exact (if_pos (by omega)).symm
                 | exact (if_neg (by omega)).symm
             · exfalso
               have q2 : (if 0 ≤ zix2 13 (zbp tp z p) 0 8 then zbp tp z p else 1) = 2 ∨ (if 0 ≤ zix2 13 (zbp tp z p) 0 8 then zbp tp z p else 1) = 3 := q
               by_cases d : 0 ≤ zix2 13 (zbp tp z p) 0 8
               · rw [if_pos d] at q2
                 have := zix2_0 d
                 omega
               · rw [if_neg d] at q2
                 omega)
    · refine zV_aload_n (pc := 80) (i := 0) dX3_advance_80 rfl rfl ?_
      refine zV_ivn (pc := 81) (ci := 3) dX3_advance_81 klX3_92 mX3_takeWord ⟨by decide, rfl⟩ rfl ⟨Nat.zero_le _, Nat.zero_le _⟩ (kX3_takeWord ht hC2 hT (p := p) (by omega) (zU_s _ _ _ _) ((zU_j _ _ _ _ (by decide)).trans h2)) (zOb_of rfl) rfl rfl (Nat.le_of_ble_eq_true rfl) (fun M2 q2 => ?_)
      obtain ⟨r1, r2, r3, r4, r5⟩ := q2
      refine zV_goto (pc := 84) (tgt := 134) dX3_advance_84 (by decide) ?_
      refine zV_vret (pc := 134) dX3_advance_134 trivial ⟨Nat.zero_le _, Nat.zero_le _⟩ ?_
      unfold ztk
      first
        | (rw [zit_t c_58]
           exact ⟨rfl, rfl, ⟨zU_s _ _ _ _, zno (a := 0) ⟨by decide, by decide⟩, (zU_j _ _ _ _ (by decide)).trans (zU_s _ _ _ _), (zU_j _ _ _ _ (by decide)).trans ((zU_j _ _ _ _ (by decide)).trans h2), (zU_j _ _ _ _ (by decide)).trans ((zU_j _ _ _ _ (by decide)).trans e6)⟩, ((hf.up (a := 18) (j := 3) ⟨rfl, by decide, by decide⟩).up (a := 18) (j := 4) ⟨rfl, by decide, by decide⟩)⟩)
        | (have c1 : zlt (zbp tp z p) := c_77
           rw [zit_f c_58, zit_t c1]
           exact ⟨rfl, rfl, ⟨r2, fun q => r3.resolve_left (fun y => by have q2 : zwt tp p (zrn (fun j => zlt (zbp tp z j)) 160 p) 12 = 2 ∨ zwt tp p (zrn (fun j => zlt (zbp tp z j)) 160 p) 12 = 3 := q; omega), r4, r1, (r5 _ _ (by unfold zAF; omega)).trans ((zU_j _ _ _ _ (by decide)).trans e6)⟩, (hf.up (a := 18) (j := 3) ⟨rfl, by decide, by decide⟩).tr r5⟩)
        | (have c1 : ¬ zlt (zbp tp z p) := c_77
           have c2 : zdg (zbp tp z p) := c_95
           rw [zit_f c_58, zit_f c1, zit_t c2]
           exact ⟨rfl, rfl, ⟨r3, fun _ => r2, r5, r1, (r4 _ _ (by unfold zAF; omega)).trans ((zU_j _ _ _ _ (by decide)).trans e6)⟩, (hf.up (a := 18) (j := 3) ⟨rfl, by decide, by decide⟩).tr r4⟩)
        | (have c1 : ¬ zlt (zbp tp z p) := c_77
           have c2 : ¬ zdg (zbp tp z p) := c_95
           rw [zit_f c_58, zit_f c1, zit_f c2]
           rw [hl8] at c_123 hix
           refine ⟨rfl, rfl, ⟨(zU_s _ _ _ _).trans ?_, fun q => ?_, (zU_j _ _ _ _ (by decide)).trans ((zU_j _ _ _ _ (by decide)).trans (zU_s _ _ _ _)), (zU_j _ _ _ _ (by decide)).trans (zU_s _ _ _ _), (zU_j _ _ _ _ (by decide)).trans ((zU_j _ _ _ _ (by decide)).trans ((zU_j _ _ _ _ (by decide)).trans e6))⟩, (((hf.up (a := 18) (j := 3) ⟨rfl, by decide, by decide⟩).up (a := 18) (j := 2) ⟨rfl, by decide, by decide⟩).up (a := 18) (j := 4) ⟨rfl, by decide, by decide⟩)⟩
           · first
               | exact (if_pos (by omega)).symm
               | exact (if_neg (by omega)).symm
           · exfalso
             have q2 : (if 0 ≤ zix2 13 (zbp tp z p) 0 8 then zbp tp z p else 1) = 2 ∨ (if 0 ≤ zix2 13 (zbp tp z p) 0 8 then zbp tp z p else 1) = 3 := q
             by_cases d : 0 ≤ zix2 13 (zbp tp z p) 0 8
             · rw [if_pos d] at q2
               have := zix2_0 d
               omega
             · rw [if_neg d] at q2
               omega)
  · refine zV_aload_n (pc := 61) (i := 0) dX3_advance_61 rfl rfl ?_
    refine zV_iconst (pc := 62) dX3_advance_62 ?_
    refine zV_put (pc := 63) (j := 4) dX3_advance_63 flX3_47 rfl (zOb_of rfl) rfl trivial ?_
    refine zV_goto (pc := 66) (tgt := 134) dX3_advance_66 (by decide) ?_
    refine zV_vret (pc := 134) dX3_advance_134 trivial ⟨Nat.zero_le _, Nat.zero_le _⟩ ?_
    unfold ztk
    first
      | (rw [zit_t c_58]
         exact ⟨rfl, rfl, ⟨zU_s _ _ _ _, zno (a := 0) ⟨by decide, by decide⟩, (zU_j _ _ _ _ (by decide)).trans (zU_s _ _ _ _), (zU_j _ _ _ _ (by decide)).trans ((zU_j _ _ _ _ (by decide)).trans h2), (zU_j _ _ _ _ (by decide)).trans ((zU_j _ _ _ _ (by decide)).trans e6)⟩, ((hf.up (a := 18) (j := 3) ⟨rfl, by decide, by decide⟩).up (a := 18) (j := 4) ⟨rfl, by decide, by decide⟩)⟩)
      | (have c1 : zlt (zbp tp z p) := c_77
         rw [zit_f c_58, zit_t c1]
         exact ⟨rfl, rfl, ⟨r2, fun q => r3.resolve_left (fun y => by have q2 : zwt tp p (zrn (fun j => zlt (zbp tp z j)) 160 p) 12 = 2 ∨ zwt tp p (zrn (fun j => zlt (zbp tp z j)) 160 p) 12 = 3 := q; omega), r4, r1, (r5 _ _ (by unfold zAF; omega)).trans ((zU_j _ _ _ _ (by decide)).trans e6)⟩, (hf.up (a := 18) (j := 3) ⟨rfl, by decide, by decide⟩).tr r5⟩)
      | (have c1 : ¬ zlt (zbp tp z p) := c_77
         have c2 : zdg (zbp tp z p) := c_95
         rw [zit_f c_58, zit_f c1, zit_t c2]
         exact ⟨rfl, rfl, ⟨r3, fun _ => r2, r5, r1, (r4 _ _ (by unfold zAF; omega)).trans ((zU_j _ _ _ _ (by decide)).trans e6)⟩, (hf.up (a := 18) (j := 3) ⟨rfl, by decide, by decide⟩).tr r4⟩)
      | (have c1 : ¬ zlt (zbp tp z p) := c_77
         have c2 : ¬ zdg (zbp tp z p) := c_95
         rw [zit_f c_58, zit_f c1, zit_f c2]
         rw [hl8] at c_123 hix
         refine ⟨rfl, rfl, ⟨(zU_s _ _ _ _).trans ?_, fun q => ?_, (zU_j _ _ _ _ (by decide)).trans ((zU_j _ _ _ _ (by decide)).trans (zU_s _ _ _ _)), (zU_j _ _ _ _ (by decide)).trans (zU_s _ _ _ _), (zU_j _ _ _ _ (by decide)).trans ((zU_j _ _ _ _ (by decide)).trans ((zU_j _ _ _ _ (by decide)).trans e6))⟩, (((hf.up (a := 18) (j := 3) ⟨rfl, by decide, by decide⟩).up (a := 18) (j := 2) ⟨rfl, by decide, by decide⟩).up (a := 18) (j := 4) ⟨rfl, by decide, by decide⟩)⟩
         · first
             | exact (if_pos (by omega)).symm
             | exact (if_neg (by omega)).symm
         · exfalso
           have q2 : (if 0 ≤ zix2 13 (zbp tp z p) 0 8 then zbp tp z p else 1) = 2 ∨ (if 0 ≤ zix2 13 (zbp tp z p) 0 8 then zbp tp z p else 1) = 3 := q
           by_cases d : 0 ≤ zix2 13 (zbp tp z p) 0 8
           · rw [if_pos d] at q2
             have := zix2_0 d
             omega
           · rw [if_neg d] at q2
             omega)
set_option maxRecDepth 20000 in
set_option maxHeartbeats 2000000 in
theorem kX3_adL {t z : Int} {tp : Int → Int} (ht : 0 ≤ t ∧ t < 6) (hC : zRC M t tp z) (hT : ztp tp z) {s : zσ} (hat : 0 ≤ s.at ∧ s.at ≤ z) (h182 : M 18 2 = s.at) (h186 : M 18 6 = s.ft) : ∀ (k : Nat) (i x : Int) (M1 : zM), i + k = 160 → 0 ≤ i → M1 18 2 = x → zrn (fun j => zbk (zbp tp z j)) k x = zrn (fun j => zbk (zbp tp z j)) 160 s.at → zFr zAF M M1 → 0 ≤ x ∧ x ≤ z → zV g xX3_advance (zPn 75 (fun M1 => zRd M1 (zadv tp z s) ∧ zFr zAF M M1)) 2 [zr 18, zi i] [] 75 M1 0 0 := by
  intro k
  induction k with
  | zero =>
    intro i x M1 h0 h1 h2 h3 h4 h5
    obtain ⟨hS, h187, h181, hb⟩ := id hC
    have hz := hT.1
    have hC1 := hC.fr ht (h4.mono (fun a j q => zAF_R q))
    have hb1 := zbp_r (p := x) hT
    have eX : x = zrn (fun j => zbk (zbp tp z j)) 160 s.at := h3
    refine zV_iload_n (pc := 2) (i := 1) dX3_advance_2 rfl rfl ?_
    refine zV_sipush (pc := 3) dX3_advance_3 (by decide) ?_
    refine zV_icmp_ge (pc := 6) (tgt := 39) dX3_advance_6 (by decide) (by omega) (fun c_6 => ?_) (fun c_6 => absurd (by omega) c_6)
    exact kX3_adT ht hC hT hat h182 h186 eX.symm (by omega) h2 h4
  | succ k ih =>
    intro i x M1 h0 h1 h2 h3 h4 h5
    obtain ⟨hS, h187, h181, hb⟩ := id hC
    have hz := hT.1
    have hC1 := hC.fr ht (h4.mono (fun a j q => zAF_R q))
    have hb1 := zbp_r (p := x) hT
    refine zV_iload_n (pc := 2) (i := 1) dX3_advance_2 rfl rfl ?_
    refine zV_sipush (pc := 3) dX3_advance_3 (by decide) ?_
    refine zV_icmp_ge (pc := 6) (tgt := 39) dX3_advance_6 (by decide) (by omega) (fun c_6 => absurd c_6 (by omega)) (fun c_6 => ?_)
    refine zV_aload_n (pc := 9) (i := 0) dX3_advance_9 rfl rfl ?_
    refine zV_aload_n (pc := 10) (i := 0) dX3_advance_10 rfl rfl ?_
    refine zV_get (pc := 11) (j := 2) dX3_advance_11 flX3_28 (zOb_of rfl) rfl h2 ?_
    refine zV_ivp (pc := 14) (ci := 3) dX3_advance_14 klX3_80 mX3_byteAt ⟨by decide, rfl⟩ rfl ⟨Nat.zero_le _, Nat.zero_le _⟩ (kX3_byteAt ht hC1 hT (by omega)) (zOb_of rfl) rfl rfl (Nat.le_of_ble_eq_true rfl) ?_
    refine zV_isp (pc := 17) dX3_advance_17 klX3_84 mX3_isBlank rfl ⟨Nat.zero_le _, Nat.zero_le _⟩ (kX3_isBlank (by omega)) rfl rfl (Nat.le_of_ble_eq_true rfl) ?_
    refine zV_if_eqb (pc := 20) (tgt := 39) dX3_advance_20 (by decide) (fun c_20 => ?_) (fun c_20 => ?_)
    · have eX : x = zrn (fun j => zbk (zbp tp z j)) 160 s.at := (zrn_0 (q := fun j => zbk (zbp tp z j)) (k := k + 1) c_20).symm.trans h3
      exact kX3_adT ht hC hT hat h182 h186 eX.symm (by omega) h2 h4
    · refine zV_aload_n (pc := 23) (i := 0) dX3_advance_23 rfl rfl ?_
      refine zV_dup (pc := 24) dX3_advance_24 (by simp) ?_
      refine zV_get (pc := 25) (j := 2) dX3_advance_25 flX3_28 (zOb_of rfl) rfl h2 ?_
      refine zV_iconst (pc := 28) dX3_advance_28 ?_
      refine zV_iadd (pc := 29) dX3_advance_29 ?_
      refine zV_put (pc := 30) (j := 2) dX3_advance_30 flX3_28 rfl (zOb_of rfl) rfl trivial ?_
      refine zV_iinc (pc := 33) dX3_advance_33 rfl rfl ?_
      try dsimp only [List.set_cons_succ, List.set_cons_zero]
      refine zV_goto (pc := 36) (tgt := 2) dX3_advance_36 (by decide) ?_
      have c2 : zbk (zbp tp z x) := c_20
      refine ih (i + 1) (x + 1) _ (by omega) (by omega) (zU_s _ _ _ _) ((zrn_1 (q := fun j => zbk (zbp tp z j)) c2).symm.trans h3) (h4.up (a := 18) (j := 2) ⟨rfl, by decide, by decide⟩) ⟨by omega, ?_⟩
      by_cases q : z ≤ x
      · exact absurd c2 (zbk_z x q)
      · omega
set_option maxRecDepth 20000 in
set_option maxHeartbeats 2000000 in
theorem kX3_advance {t z : Int} {tp : Int → Int} (ht : 0 ≤ t ∧ t < 6) (hC : zRC M t tp z) (hT : ztp tp z) {s : zσ} (hat : 0 ≤ s.at ∧ s.at ≤ z) (h182 : M 18 2 = s.at) (h186 : M 18 6 = s.ft) : zK g yX3_advance xX3_advance [zr 18] 75 M (zPn 75 (fun M1 => zRd M1 (zadv tp z s) ∧ zFr zAF M M1)) := by
  refine zK_of (ls0 := [zr 18, (3, 0)]) (by decide) rfl (by decide) rfl (Nat.le_of_ble_eq_true rfl) ?_
  refine zV_iconst (pc := 0) dX3_advance_0 ?_
  refine zV_istore_n (pc := 1) (i := 1) dX3_advance_1 rfl rfl ?_
  try dsimp only [List.set_cons_succ, List.set_cons_zero]
  exact kX3_adL ht hC hT hat h182 h186 160 0 s.at _ (by omega) (by omega) h182 rfl zFr.rf hat
set_option maxRecDepth 20000 in
set_option maxHeartbeats 2000000 in
theorem kX3_fail {t z : Int} {tp : Int → Int} (ht : 0 ≤ t ∧ t < 6) (hC : zRC M t tp z) (hT : ztp tp z) {s : zσ} (hr : zRd M s) (ho : zσo z s) : zK g yX3_fail xX3_fail [zr 18] 75 M (zPn 75 (fun M1 => zRd M1 (zfl s) ∧ zFr zBF M M1)) := by
  refine zK_of (ls0 := [zr 18]) (by decide) rfl (by decide) rfl (Nat.le_of_ble_eq_true rfl) ?_
  obtain ⟨hS, h187, h181, hb⟩ := id hC
  have hz := hT.1
  obtain ⟨e4, e5, e3, e2, e6⟩ := id hr
  have hs6 := ho.2.2.2.2.2
  refine zV_aload_n (pc := 0) (i := 0) dX3_fail_0 rfl rfl ?_
  refine zV_get (pc := 1) (j := 6) dX3_fail_1 flX3_31 (zOb_of rfl) rfl e6 ?_
  refine zV_iconst (pc := 4) dX3_fail_4 ?_
  refine zV_icmp_ne (pc := 5) (tgt := 16) dX3_fail_5 (by decide) (by omega) (fun c_5 => ?_) (fun c_5 => ?_)
  · refine zV_aload_n (pc := 16) (i := 0) dX3_fail_16 rfl rfl ?_
    refine zV_iconst (pc := 17) dX3_fail_17 ?_
    refine zV_put (pc := 18) (j := 4) dX3_fail_18 flX3_47 rfl (zOb_of rfl) rfl trivial ?_
    refine zV_vret (pc := 21) dX3_fail_21 trivial ⟨Nat.zero_le _, Nat.zero_le _⟩ ?_
    first
      | exact ⟨rfl, rfl, ⟨zU_s _ _ _ _, zno (a := 1) ⟨by decide, by decide⟩, (zU_j _ _ _ _ (by decide)).trans ((zU_j _ _ _ _ (by decide)).trans e3), (zU_j _ _ _ _ (by decide)).trans ((zU_j _ _ _ _ (by decide)).trans e2), (zU_j _ _ _ _ (by decide)).trans ((zU_s _ _ _ _).trans (if_pos c_5).symm)⟩, ((zFr.rf.up (a := 18) (j := 6) ⟨rfl, by decide, by decide⟩).up (a := 18) (j := 4) ⟨rfl, by decide, by decide⟩)⟩
      | exact ⟨rfl, rfl, ⟨zU_s _ _ _ _, zno (a := 1) ⟨by decide, by decide⟩, (zU_j _ _ _ _ (by decide)).trans e3, (zU_j _ _ _ _ (by decide)).trans e2, (zU_j _ _ _ _ (by decide)).trans (e6.trans (if_neg c_5).symm)⟩, (zFr.rf.up (a := 18) (j := 4) ⟨rfl, by decide, by decide⟩)⟩
  · refine zV_aload_n (pc := 8) (i := 0) dX3_fail_8 rfl rfl ?_
    refine zV_aload_n (pc := 9) (i := 0) dX3_fail_9 rfl rfl ?_
    refine zV_get (pc := 10) (j := 3) dX3_fail_10 flX3_53 (zOb_of rfl) rfl e3 ?_
    refine zV_put (pc := 13) (j := 6) dX3_fail_13 flX3_31 rfl (zOb_of rfl) rfl trivial ?_
    refine zV_aload_n (pc := 16) (i := 0) dX3_fail_16 rfl rfl ?_
    refine zV_iconst (pc := 17) dX3_fail_17 ?_
    refine zV_put (pc := 18) (j := 4) dX3_fail_18 flX3_47 rfl (zOb_of rfl) rfl trivial ?_
    refine zV_vret (pc := 21) dX3_fail_21 trivial ⟨Nat.zero_le _, Nat.zero_le _⟩ ?_
    first
      | exact ⟨rfl, rfl, ⟨zU_s _ _ _ _, zno (a := 1) ⟨by decide, by decide⟩, (zU_j _ _ _ _ (by decide)).trans ((zU_j _ _ _ _ (by decide)).trans e3), (zU_j _ _ _ _ (by decide)).trans ((zU_j _ _ _ _ (by decide)).trans e2), (zU_j _ _ _ _ (by decide)).trans ((zU_s _ _ _ _).trans (if_pos c_5).symm)⟩, ((zFr.rf.up (a := 18) (j := 6) ⟨rfl, by decide, by decide⟩).up (a := 18) (j := 4) ⟨rfl, by decide, by decide⟩)⟩
      | exact ⟨rfl, rfl, ⟨zU_s _ _ _ _, zno (a := 1) ⟨by decide, by decide⟩, (zU_j _ _ _ _ (by decide)).trans e3, (zU_j _ _ _ _ (by decide)).trans e2, (zU_j _ _ _ _ (by decide)).trans (e6.trans (if_neg c_5).symm)⟩, (zFr.rf.up (a := 18) (j := 4) ⟨rfl, by decide, by decide⟩)⟩
set_option maxRecDepth 20000 in
set_option maxHeartbeats 2000000 in
theorem kX3_need {t z : Int} {tp : Int → Int} (ht : 0 ≤ t ∧ t < 6) (hC : zRC M t tp z) (hT : ztp tp z) {s : zσ} (hr : zRd M s) (ho : zσo z s) {k : Int} (hk : 0 ≤ k ∧ k ≤ 255) (hk1 : k ≠ 1) : zK g yX3_need xX3_need [zr 18, zi k] 75 M (zPn 75 (fun M1 => zRd M1 (znd tp z k s) ∧ zFr zBF M M1)) := by
  refine zK_of (ls0 := [zr 18, zi k]) (by decide) rfl (by decide) rfl (Nat.le_of_ble_eq_true rfl) ?_
  obtain ⟨hS, h187, h181, hb⟩ := id hC
  have hz := hT.1
  obtain ⟨e4, e5, e3, e2, e6⟩ := id hr
  have hs6 := ho.2.2.2.2.2
  refine zV_aload_n (pc := 0) (i := 0) dX3_need_0 rfl rfl ?_
  refine zV_get (pc := 1) (j := 4) dX3_need_1 flX3_47 (zOb_of rfl) rfl e4 ?_
  refine zV_iload_n (pc := 4) (i := 1) dX3_need_4 rfl rfl ?_
  refine zV_icmp_ne (pc := 5) (tgt := 15) dX3_need_5 (by decide) (by have := ho.2.2.2.2.1; omega) (fun c_5 => ?_) (fun c_5 => ?_)
  · refine zV_aload_n (pc := 15) (i := 0) dX3_need_15 rfl rfl ?_
    refine zV_ivn (pc := 16) (ci := 3) dX3_need_16 klX3_50 mX3_fail ⟨by decide, rfl⟩ rfl ⟨Nat.zero_le _, Nat.zero_le _⟩ (kX3_fail ht hC hT hr ho) (zOb_of rfl) rfl rfl (Nat.le_of_ble_eq_true rfl) (fun M1 q => ?_)
    refine zV_vret (pc := 19) dX3_need_19 trivial ⟨Nat.zero_le _, Nat.zero_le _⟩ ?_
    unfold znd
    first
      | (rw [if_pos c_5]; exact ⟨rfl, rfl, q.1, q.2.mono (fun a j y => zAF_B y)⟩)
      | (rw [if_neg c_5]; exact ⟨rfl, rfl, q⟩)
  · refine zV_aload_n (pc := 8) (i := 0) dX3_need_8 rfl rfl ?_
    refine zV_ivn (pc := 9) (ci := 3) dX3_need_9 klX3_34 mX3_advance ⟨by decide, rfl⟩ rfl ⟨Nat.zero_le _, Nat.zero_le _⟩ (kX3_advance ht hC hT (s := s) (by have := ho.1; omega) e2 e6) (zOb_of rfl) rfl rfl (Nat.le_of_ble_eq_true rfl) (fun M1 q => ?_)
    refine zV_goto (pc := 12) (tgt := 19) dX3_need_12 (by decide) ?_
    refine zV_vret (pc := 19) dX3_need_19 trivial ⟨Nat.zero_le _, Nat.zero_le _⟩ ?_
    unfold znd
    first
      | (rw [if_pos c_5]; exact ⟨rfl, rfl, q.1, q.2.mono (fun a j y => zAF_B y)⟩)
      | (rw [if_neg c_5]; exact ⟨rfl, rfl, q⟩)
set_option maxRecDepth 20000 in
set_option maxHeartbeats 2000000 in
theorem kX7_add {t : Int} (ht : 0 ≤ t ∧ t < 6) (hS : zSt M) {L : List Int} (hL : zTl M t L) (hl : L.length < 160) {x : Int} : zK g yX7_add xX7_add [zr (26 + 3 * t), zi x] 75 M (zPn 75 (fun M1 => zTl M1 t (L ++ [x]) ∧ zFr (zTF t) M M1)) := by
  refine zK_of (ls0 := [zr (26 + 3 * t), zi x]) (by decide) rfl (by decide) rfl (Nat.le_of_ble_eq_true rfl) ?_
  refine zV_aload_n (pc := 0) (i := 0) dX7_add_0 rfl rfl ?_
  refine zV_get (pc := 1) (j := 2) dX7_add_1 flX7_18 (zOb_tx ht) rfl hL.1 ?_
  refine zV_aload_n (pc := 4) (i := 0) dX7_add_4 rfl rfl ?_
  refine zV_get (pc := 5) (j := 0) dX7_add_5 flX7_9 (zOb_tx ht) rfl (hS.tss ht) ?_
  refine zV_alen (pc := 8) dX7_add_8 (zAr_ts ht) ?_
  refine zV_icmp_ge (pc := 9) (tgt := 32) dX7_add_9 (by decide) (by omega) (fun c_9 => absurd c_9 (by omega)) (fun c_9 => ?_)
  refine zV_aload_n (pc := 12) (i := 0) dX7_add_12 rfl rfl ?_
  refine zV_get (pc := 13) (j := 0) dX7_add_13 flX7_9 (zOb_tx ht) rfl (hS.tss ht) ?_
  refine zV_aload_n (pc := 16) (i := 0) dX7_add_16 rfl rfl ?_
  refine zV_get (pc := 17) (j := 2) dX7_add_17 flX7_18 (zOb_tx ht) rfl hL.1 ?_
  refine zV_iload_n (pc := 20) (i := 1) dX7_add_20 rfl rfl ?_
  refine zV_iast (pc := 21) dX7_add_21 (zAr_ts ht) (by omega) ?_
  refine zV_aload_n (pc := 22) (i := 0) dX7_add_22 rfl rfl ?_
  refine zV_dup (pc := 23) dX7_add_23 (by simp) ?_
  refine zV_get (pc := 24) (j := 2) dX7_add_24 flX7_18 (zOb_tx ht) rfl ((zU_a _ _ _ _ (by omega)).trans hL.1) ?_
  refine zV_iconst (pc := 27) dX7_add_27 ?_
  refine zV_iadd (pc := 28) dX7_add_28 ?_
  refine zV_put (pc := 29) (j := 2) dX7_add_29 flX7_18 rfl (zOb_tx ht) rfl trivial ?_
  refine zV_vret (pc := 32) dX7_add_32 trivial ⟨Nat.zero_le _, Nat.zero_le _⟩ ?_
  refine ⟨rfl, rfl, ⟨(zU_s _ _ _ _).trans (by simp), fun j y hy => ?_⟩, (zFr.rf.up (a := 27 + 3 * t) (Or.inr rfl)).up (a := 26 + 3 * t) (j := 2) (Or.inl ⟨rfl, rfl⟩)⟩
  refine (zU_a _ _ _ _ (by omega)).trans ?_
  by_cases ej : j = L.length
  · subst ej
    rw [List.getElem?_append_right (Nat.le_refl _), Nat.sub_self] at hy
    rw [← Option.some.inj hy]
    exact zU_s _ _ _ _
  · have hj : j < L.length := by
      have := (List.getElem?_eq_some_iff.mp hy).1
      rw [List.length_append, List.length_cons, List.length_nil] at this
      omega
    rw [List.getElem?_append_left hj] at hy
    exact (zU_j _ _ _ _ (by omega)).trans (hL.2 j y hy)
set_option maxRecDepth 20000 in
set_option maxHeartbeats 2000000 in
theorem kX7_endPart {t : Int} (ht : 0 ≤ t ∧ t < 6) (hS : zSt M) {k n : Int} (hk : 0 ≤ k ∧ k < 3) (hn : M (26 + 3 * t) 2 = n) : zK g yX7_endPart xX7_endPart [zr (26 + 3 * t), zi k] 75 M (zPn 75 (fun M1 => M1 = zU M (28 + 3 * t) k n)) := by
  refine zK_of (ls0 := [zr (26 + 3 * t), zi k]) (by decide) rfl (by decide) rfl (Nat.le_of_ble_eq_true rfl) ?_
  refine zV_iload_n (pc := 0) (i := 1) dX7_endPart_0 rfl rfl ?_
  refine zV_if_lt (pc := 1) (tgt := 23) dX7_endPart_1 (by decide) (by omega) (fun c_1 => absurd c_1 (by omega)) (fun c_1 => ?_)
  refine zV_iload_n (pc := 4) (i := 1) dX7_endPart_4 rfl rfl ?_
  refine zV_aload_n (pc := 5) (i := 0) dX7_endPart_5 rfl rfl ?_
  refine zV_get (pc := 6) (j := 1) dX7_endPart_6 flX7_15 (zOb_tx ht) rfl (hS.tse ht) ?_
  refine zV_alen (pc := 9) dX7_endPart_9 (zAr_te ht) ?_
  refine zV_icmp_ge (pc := 10) (tgt := 23) dX7_endPart_10 (by decide) (by omega) (fun c_10 => absurd c_10 (by omega)) (fun c_10 => ?_)
  refine zV_aload_n (pc := 13) (i := 0) dX7_endPart_13 rfl rfl ?_
  refine zV_get (pc := 14) (j := 1) dX7_endPart_14 flX7_15 (zOb_tx ht) rfl (hS.tse ht) ?_
  refine zV_iload_n (pc := 17) (i := 1) dX7_endPart_17 rfl rfl ?_
  refine zV_aload_n (pc := 18) (i := 0) dX7_endPart_18 rfl rfl ?_
  refine zV_get (pc := 19) (j := 2) dX7_endPart_19 flX7_18 (zOb_tx ht) rfl hn ?_
  refine zV_iast (pc := 22) dX7_endPart_22 (zAr_te ht) (by omega) ?_
  refine zV_vret (pc := 23) dX7_endPart_23 trivial ⟨Nat.zero_le _, Nat.zero_le _⟩ ?_
  exact ⟨rfl, rfl, rfl⟩
set_option maxRecDepth 20000 in
set_option maxHeartbeats 2000000 in
theorem kX7_clear {t : Int} (ht : 0 ≤ t ∧ t < 6) : zK g yX7_clear xX7_clear [zr (26 + 3 * t)] 75 M (zPn 75 (fun M1 => M1 = zU M (26 + 3 * t) 2 0)) := by
  refine zK_of (ls0 := [zr (26 + 3 * t)]) (by decide) rfl (by decide) rfl (Nat.le_of_ble_eq_true rfl) ?_
  refine zV_aload_n (pc := 0) (i := 0) dX7_clear_0 rfl rfl ?_
  refine zV_iconst (pc := 1) dX7_clear_1 ?_
  refine zV_put (pc := 2) (j := 2) dX7_clear_2 flX7_18 rfl (zOb_tx ht) rfl trivial ?_
  refine zV_vret (pc := 5) dX7_clear_5 trivial ⟨Nat.zero_le _, Nat.zero_le _⟩ ?_
  exact ⟨rfl, rfl, rfl⟩
set_option maxRecDepth 20000 in
set_option maxHeartbeats 2000000 in
theorem kX3_clear  : zK g yX3_clear xX3_clear [zr 18] 75 M (zPn 75 (fun M1 => M1 = zU M 18 1 0)) := by
  refine zK_of (ls0 := [zr 18]) (by decide) rfl (by decide) rfl (Nat.le_of_ble_eq_true rfl) ?_
  refine zV_aload_n (pc := 0) (i := 0) dX3_clear_0 rfl rfl ?_
  refine zV_iconst (pc := 1) dX3_clear_1 ?_
  refine zV_put (pc := 2) (j := 1) dX3_clear_2 flX3_15 rfl (zOb_of rfl) rfl trivial ?_
  refine zV_vret (pc := 5) dX3_clear_5 trivial ⟨Nat.zero_le _, Nat.zero_le _⟩ ?_
  exact ⟨rfl, rfl, rfl⟩
end
