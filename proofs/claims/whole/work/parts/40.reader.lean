/-! THE CLASS'S READER: tokens (printed by wip/whole/p40.py) -/
def zRd (M : zM) (s : zσ) : Prop := M 18 4 = s.tk ∧ (s.tk = 2 ∨ s.tk = 3 → M 18 5 = s.vl) ∧ M 18 3 = s.sa ∧ M 18 2 = s.at ∧ M 18 6 = s.ft
def zRC (M : zM) (t : Int) (tp : Int → Int) (z : Int) : Prop := zSt M ∧ M 18 7 = 26 + 3 * t ∧ M 18 1 = z ∧ ∀ j : Int, 0 ≤ j → j < z → M 19 j = tp j
/-- the text's steps so far -/
def zTl (M : zM) (t : Int) (L : List Int) : Prop := M (26 + 3 * t) 2 = L.length ∧ ∀ (j : Nat) (x : Int), L[j]? = some x → M (27 + 3 * t) j = x
def zAF (a j : Int) : Prop := a = 18 ∧ 2 ≤ j ∧ j ≤ 5
def zBF (a j : Int) : Prop := a = 18 ∧ 2 ≤ j ∧ j ≤ 6
def zTF (t a j : Int) : Prop := (a = 26 + 3 * t ∧ j = 2) ∨ a = 27 + 3 * t
def zRF (t a j : Int) : Prop := (a = 18 ∧ 2 ≤ j ∧ j ≤ 6) ∨ (a = 26 + 3 * t ∧ j = 2) ∨ a = 27 + 3 * t
theorem zRF_st {t : Int} (ht : 0 ≤ t ∧ t < 6) : ∀ q ∈ zstL, ¬ zRF t q.1 q.2.1 := by
  rcases (show t = 0 ∨ t = 1 ∨ t = 2 ∨ t = 3 ∨ t = 4 ∨ t = 5 by omega) with rfl | rfl | rfl | rfl | rfl | rfl <;> unfold zRF <;> decide
theorem zRC.fr {M M1 : zM} {t z : Int} {tp : Int → Int} (h : zRC M t tp z) (ht : 0 ≤ t ∧ t < 6) (f : zFr (zRF t) M M1) : zRC M1 t tp z :=
  ⟨h.1.fr f (zRF_st ht), (f _ _ (by unfold zRF; omega)).trans h.2.1, (f _ _ (by unfold zRF; omega)).trans h.2.2.1, fun j j0 j1 => (f _ _ (by unfold zRF; omega)).trans (h.2.2.2 j j0 j1)⟩
theorem zAF_R {t a j : Int} (h : zAF a j) : zRF t a j := by unfold zAF at h; unfold zRF; omega
theorem zBF_R {t a j : Int} (h : zBF a j) : zRF t a j := by unfold zBF at h; unfold zRF; omega
theorem zTF_R {t a j : Int} (h : zTF t a j) : zRF t a j := by unfold zTF at h; unfold zRF; omega
theorem zAF_B {a j : Int} (h : zAF a j) : zBF a j := by unfold zAF at h; unfold zBF; omega
theorem zRd.tf {M M1 : zM} {t : Int} {s : zσ} (h : zRd M s) (ht : 0 ≤ t ∧ t < 6) (f : zFr (zTF t) M M1) : zRd M1 s := by
  have e : ∀ j, M1 18 j = M 18 j := fun j => f _ _ (by unfold zTF; omega)
  unfold zRd
  rw [e, e, e, e, e]
  exact h
theorem zTl.bf {M M1 : zM} {t : Int} {L : List Int} (h : zTl M t L) (ht : 0 ≤ t ∧ t < 6) (f : zFr zBF M M1) : zTl M1 t L :=
  ⟨(f _ _ (by unfold zBF; omega)).trans h.1, fun j x hx => (f _ _ (by unfold zBF; omega)).trans (h.2 j x hx)⟩
theorem zRm0_z {X Y : zX} {d d1 : Nat} (hX : X.rm = zrm d 0 0) (hY : Y.rm = zrm d1 0 0) (hn : Y.nL ≤ 40) (h : d1 + 1 ≤ d) : zRm0 X Y = true := by
  simp only [zRm0, Bool.and_eq_true, decide_eq_true_eq]
  rw [hX, hY]
  refine ⟨⟨⟨?_, ?_⟩, rfl⟩, rfl⟩
  · exact h
  · show 8 + (Y.nL + 11) + 64 * d1 ≤ 64 * d
    omega
section
variable {g : zG} {N : Nat} {M : zM}
set_option maxRecDepth 20000 in
set_option maxHeartbeats 2000000 in
theorem kX3_byteAt {t z : Int} {tp : Int → Int} (ht : 0 ≤ t ∧ t < 6) (hC : zRC M t tp z) (hT : ztp tp z) {p : Int} (hp : 0 ≤ p ∧ p ≤ 1000) : zK g yX3_byteAt xX3_byteAt [zr 18, zi p] 75 M (zPp (zi (zbp tp z p)) 75 M) := by
  refine zK_of (ls0 := [zr 18, zi p]) (by decide) rfl (by decide) rfl (Nat.le_of_ble_eq_true rfl) ?_
  obtain ⟨hS, h187, h181, hb⟩ := id hC
  have hz := hT.1
  refine zV_iload_n (pc := 0) (i := 1) dX3_byteAt_0 rfl rfl ?_
  refine zV_if_lt (pc := 1) (tgt := 30) dX3_byteAt_1 (by decide) (by omega) (fun c_1 => absurd c_1 (by omega)) (fun c_1 => ?_)
  refine zV_iload_n (pc := 4) (i := 1) dX3_byteAt_4 rfl rfl ?_
  refine zV_aload_n (pc := 5) (i := 0) dX3_byteAt_5 rfl rfl ?_
  refine zV_get (pc := 6) (j := 1) dX3_byteAt_6 flX3_15 (zOb_of rfl) rfl h181 ?_
  refine zV_icmp_ge (pc := 9) (tgt := 30) dX3_byteAt_9 (by decide) (by omega) (fun c_9 => ?_) (fun c_9 => ?_)
  · refine zV_iconst (pc := 30) dX3_byteAt_30 ?_
    refine zV_iret (pc := 31) dX3_byteAt_31 trivial ⟨Nat.zero_le _, Nat.zero_le _⟩ ?_
    first
      | exact zPe (zbp_z (by omega)).symm
      | exact zPe ((if_pos (by omega)).symm)
  · refine zV_iload_n (pc := 12) (i := 1) dX3_byteAt_12 rfl rfl ?_
    refine zV_aload_n (pc := 13) (i := 0) dX3_byteAt_13 rfl rfl ?_
    refine zV_get (pc := 14) (j := 0) dX3_byteAt_14 flX3_9 (zOb_of rfl) rfl hS.e18_0 ?_
    refine zV_alen (pc := 17) dX3_byteAt_17 (zAr_of rfl : zAr 75 19 0 160) ?_
    refine zV_icmp_ge (pc := 18) (tgt := 30) dX3_byteAt_18 (by decide) (by omega) (fun c_18 => absurd c_18 (by omega)) (fun c_18 => ?_)
    refine zV_aload_n (pc := 21) (i := 0) dX3_byteAt_21 rfl rfl ?_
    refine zV_get (pc := 22) (j := 0) dX3_byteAt_22 flX3_9 (zOb_of rfl) rfl hS.e18_0 ?_
    refine zV_iload_n (pc := 25) (i := 1) dX3_byteAt_25 rfl rfl ?_
    refine zV_iald (pc := 26) dX3_byteAt_26 (zAr_of rfl : zAr 75 19 0 160) (by omega) (hb _ (by omega) (by omega)) ?_
    refine zV_goto (pc := 27) (tgt := 31) dX3_byteAt_27 (by decide) ?_
    refine zV_iret (pc := 31) dX3_byteAt_31 trivial ⟨Nat.zero_le _, Nat.zero_le _⟩ ?_
    first
      | exact zPe (zbp_z (by omega)).symm
      | exact zPe ((if_pos (by omega)).symm)
set_option maxRecDepth 20000 in
set_option maxHeartbeats 2000000 in
theorem kX3_isBlank {b : Int} (hb : -1 ≤ b ∧ b ≤ 255) : zK g yX3_isBlank xX3_isBlank [zi b] N M (zPp (zi (zb (zbk b))) N M) := by
  refine zK_of (ls0 := [zi b]) (by decide) rfl (by decide) rfl (Nat.le_of_ble_eq_true rfl) ?_
  refine zV_iload_n (pc := 0) (i := 0) dX3_isBlank_0 rfl rfl ?_
  refine zV_bipush (pc := 1) dX3_isBlank_1 (by decide) ?_
  refine zV_icmp_eq (pc := 3) (tgt := 12) dX3_isBlank_3 (by decide) (by omega) (fun c_3 => ?_) (fun c_3 => ?_)
  · refine zV_iconst (pc := 12) dX3_isBlank_12 ?_
    refine zV_goto (pc := 13) (tgt := 17) dX3_isBlank_13 (by decide) ?_
    refine zV_iret (pc := 17) dX3_isBlank_17 (by first | exact zok_b1 | exact zok_b0 | exact zok_b) ⟨Nat.zero_le _, Nat.zero_le _⟩ ?_
    first
      | exact zPt (by unfold zbk; omega)
      | exact zPf (by unfold zbk; omega)
  · refine zV_iload_n (pc := 6) (i := 0) dX3_isBlank_6 rfl rfl ?_
    refine zV_bipush (pc := 7) dX3_isBlank_7 (by decide) ?_
    refine zV_icmp_ne (pc := 9) (tgt := 16) dX3_isBlank_9 (by decide) (by omega) (fun c_9 => ?_) (fun c_9 => ?_)
    · refine zV_iconst (pc := 16) dX3_isBlank_16 ?_
      refine zV_iret (pc := 17) dX3_isBlank_17 (by first | exact zok_b1 | exact zok_b0 | exact zok_b) ⟨Nat.zero_le _, Nat.zero_le _⟩ ?_
      first
        | exact zPt (by unfold zbk; omega)
        | exact zPf (by unfold zbk; omega)
    · refine zV_iconst (pc := 12) dX3_isBlank_12 ?_
      refine zV_goto (pc := 13) (tgt := 17) dX3_isBlank_13 (by decide) ?_
      refine zV_iret (pc := 17) dX3_isBlank_17 (by first | exact zok_b1 | exact zok_b0 | exact zok_b) ⟨Nat.zero_le _, Nat.zero_le _⟩ ?_
      first
        | exact zPt (by unfold zbk; omega)
        | exact zPf (by unfold zbk; omega)
set_option maxRecDepth 20000 in
set_option maxHeartbeats 2000000 in
theorem kX3_tnL {t z : Int} {tp : Int → Int} (ht : 0 ≤ t ∧ t < 6) (hC : zRC M t tp z) (hT : ztp tp z) {p : Int} (hp : 0 ≤ p ∧ p ≤ z) (h183 : M 18 3 = p) : ∀ (k : Nat) (i x v : Int) (M1 : zM), i + k = 160 → 0 ≤ i → M1 18 2 = x → M1 18 5 = v → zrn (fun j => zdg (zbp tp z j)) k x = zrn (fun j => zdg (zbp tp z j)) 160 p → zdv tp z k x v = zdv tp z 160 p 0 → M1 18 3 = M 18 3 → zFr zAF M M1 → p ≤ x ∧ x ≤ z → zV g xX3_takeNumeral (zPn 75 (fun M1 => M1 18 2 = zrn (fun j => zdg (zbp tp z j)) 160 p ∧ M1 18 5 = zdv tp z 160 p 0 ∧ M1 18 4 = (if zrn (fun j => zdg (zbp tp z j)) 160 p - p ≤ 4 then 2 else 1) ∧ M1 18 3 = p ∧ zFr zAF M M1)) 7 [zr 18, zi i] [] 75 M1 0 0 := by
  intro k
  induction k with
  | zero =>
    intro i x v M1 h0 h1 h2 h3 h4 h5 h6 h7 h8
    obtain ⟨hS, h187, h181, hb⟩ := id hC
    have hz := hT.1
    have hC1 := hC.fr ht (h7.mono (fun a j q => zAF_R q))
    have hb1 := zbp_r (p := x) hT
    have e3 : M1 18 3 = p := (h6).trans h183
    have hE := zrn_z (q := fun j => zdg (zbp tp z j)) (z := z) zdg_z 160 p hp.2
    have hE2 := zrn_r (fun j => zdg (zbp tp z j)) 160 p
    have eX : x = zrn (fun j => zdg (zbp tp z j)) 160 p := h4
    have eV := h5
    refine zV_iload_n (pc := 7) (i := 1) dX3_takeNumeral_7 rfl rfl ?_
    refine zV_sipush (pc := 8) dX3_takeNumeral_8 (by decide) ?_
    refine zV_icmp_ge (pc := 11) (tgt := 71) dX3_takeNumeral_11 (by decide) (by omega) (fun c_11 => ?_) (fun c_11 => absurd (by omega) c_11)
    refine zV_aload_n (pc := 71) (i := 0) dX3_takeNumeral_71 rfl rfl ?_
    refine zV_aload_n (pc := 72) (i := 0) dX3_takeNumeral_72 rfl rfl ?_
    refine zV_get (pc := 73) (j := 2) dX3_takeNumeral_73 flX3_28 (zOb_of rfl) rfl h2 ?_
    refine zV_aload_n (pc := 76) (i := 0) dX3_takeNumeral_76 rfl rfl ?_
    refine zV_get (pc := 77) (j := 3) dX3_takeNumeral_77 flX3_53 (zOb_of rfl) rfl e3 ?_
    refine zV_isub (pc := 80) dX3_takeNumeral_80 ?_
    refine zV_iconst (pc := 81) dX3_takeNumeral_81 ?_
    refine zV_icmp_gt (pc := 82) (tgt := 89) dX3_takeNumeral_82 (by decide) (by omega) (fun c_82 => ?_) (fun c_82 => ?_)
    · refine zV_iconst (pc := 89) dX3_takeNumeral_89 ?_
      refine zV_put (pc := 90) (j := 4) dX3_takeNumeral_90 flX3_47 rfl (zOb_of rfl) rfl trivial ?_
      refine zV_vret (pc := 93) dX3_takeNumeral_93 trivial ⟨Nat.zero_le _, Nat.zero_le _⟩ ?_
      refine ⟨rfl, rfl, (zU_j _ _ _ _ (by decide)).trans (h2.trans eX), (zU_j _ _ _ _ (by decide)).trans (h3.trans eV), (zU_s _ _ _ _).trans ?_, (zU_j _ _ _ _ (by decide)).trans e3, (h7.up (a := 18) (j := 4) ⟨rfl, by decide, by decide⟩)⟩
      first
        | exact (if_pos (by omega)).symm
        | exact (if_neg (by omega)).symm
    · refine zV_iconst (pc := 85) dX3_takeNumeral_85 ?_
      refine zV_goto (pc := 86) (tgt := 90) dX3_takeNumeral_86 (by decide) ?_
      refine zV_put (pc := 90) (j := 4) dX3_takeNumeral_90 flX3_47 rfl (zOb_of rfl) rfl trivial ?_
      refine zV_vret (pc := 93) dX3_takeNumeral_93 trivial ⟨Nat.zero_le _, Nat.zero_le _⟩ ?_
      refine ⟨rfl, rfl, (zU_j _ _ _ _ (by decide)).trans (h2.trans eX), (zU_j _ _ _ _ (by decide)).trans (h3.trans eV), (zU_s _ _ _ _).trans ?_, (zU_j _ _ _ _ (by decide)).trans e3, (h7.up (a := 18) (j := 4) ⟨rfl, by decide, by decide⟩)⟩
      first
        | exact (if_pos (by omega)).symm
        | exact (if_neg (by omega)).symm
  | succ k ih =>
    intro i x v M1 h0 h1 h2 h3 h4 h5 h6 h7 h8
    obtain ⟨hS, h187, h181, hb⟩ := id hC
    have hz := hT.1
    have hC1 := hC.fr ht (h7.mono (fun a j q => zAF_R q))
    have hb1 := zbp_r (p := x) hT
    have e3 : M1 18 3 = p := (h6).trans h183
    have hE := zrn_z (q := fun j => zdg (zbp tp z j)) (z := z) zdg_z 160 p hp.2
    have hE2 := zrn_r (fun j => zdg (zbp tp z j)) 160 p
    refine zV_iload_n (pc := 7) (i := 1) dX3_takeNumeral_7 rfl rfl ?_
    refine zV_sipush (pc := 8) dX3_takeNumeral_8 (by decide) ?_
    refine zV_icmp_ge (pc := 11) (tgt := 71) dX3_takeNumeral_11 (by decide) (by omega) (fun c_11 => absurd c_11 (by omega)) (fun c_11 => ?_)
    refine zV_aload_n (pc := 14) (i := 0) dX3_takeNumeral_14 rfl rfl ?_
    refine zV_aload_n (pc := 15) (i := 0) dX3_takeNumeral_15 rfl rfl ?_
    refine zV_get (pc := 16) (j := 2) dX3_takeNumeral_16 flX3_28 (zOb_of rfl) rfl h2 ?_
    refine zV_ivp (pc := 19) (ci := 3) dX3_takeNumeral_19 klX3_80 mX3_byteAt ⟨by decide, rfl⟩ rfl ⟨Nat.zero_le _, Nat.zero_le _⟩ (kX3_byteAt ht hC1 hT (by omega)) (zOb_of rfl) rfl rfl (Nat.le_of_ble_eq_true rfl) ?_
    refine zV_bipush (pc := 22) dX3_takeNumeral_22 (by decide) ?_
    refine zV_bipush (pc := 24) dX3_takeNumeral_24 (by decide) ?_
    refine zV_isNp (pc := 26) dX3_takeNumeral_26 klX3_88 mX9_within rfl ⟨Nat.zero_le _, Nat.zero_le _⟩ (kX9_within (by omega) (by omega) (by omega)) rfl rfl (Nat.le_of_ble_eq_true rfl) ?_
    refine zV_if_eqb (pc := 29) (tgt := 71) dX3_takeNumeral_29 (by decide) (fun c_29 => ?_) (fun c_29 => ?_)
    · have eX : x = zrn (fun j => zdg (zbp tp z j)) 160 p := (zrn_0 (q := fun j => zdg (zbp tp z j)) (k := k + 1) c_29).symm.trans h4
      have eV := (zif_f (a := zdv tp z k (x + 1) (v * 10 + zbp tp z x - 48)) (b := v) c_29).symm.trans h5
      refine zV_aload_n (pc := 71) (i := 0) dX3_takeNumeral_71 rfl rfl ?_
      refine zV_aload_n (pc := 72) (i := 0) dX3_takeNumeral_72 rfl rfl ?_
      refine zV_get (pc := 73) (j := 2) dX3_takeNumeral_73 flX3_28 (zOb_of rfl) rfl h2 ?_
      refine zV_aload_n (pc := 76) (i := 0) dX3_takeNumeral_76 rfl rfl ?_
      refine zV_get (pc := 77) (j := 3) dX3_takeNumeral_77 flX3_53 (zOb_of rfl) rfl e3 ?_
      refine zV_isub (pc := 80) dX3_takeNumeral_80 ?_
      refine zV_iconst (pc := 81) dX3_takeNumeral_81 ?_
      refine zV_icmp_gt (pc := 82) (tgt := 89) dX3_takeNumeral_82 (by decide) (by omega) (fun c_82 => ?_) (fun c_82 => ?_)
      · refine zV_iconst (pc := 89) dX3_takeNumeral_89 ?_
        refine zV_put (pc := 90) (j := 4) dX3_takeNumeral_90 flX3_47 rfl (zOb_of rfl) rfl trivial ?_
        refine zV_vret (pc := 93) dX3_takeNumeral_93 trivial ⟨Nat.zero_le _, Nat.zero_le _⟩ ?_
        refine ⟨rfl, rfl, (zU_j _ _ _ _ (by decide)).trans (h2.trans eX), (zU_j _ _ _ _ (by decide)).trans (h3.trans eV), (zU_s _ _ _ _).trans ?_, (zU_j _ _ _ _ (by decide)).trans e3, (h7.up (a := 18) (j := 4) ⟨rfl, by decide, by decide⟩)⟩
        first
          | exact (if_pos (by omega)).symm
          | exact (if_neg (by omega)).symm
      · refine zV_iconst (pc := 85) dX3_takeNumeral_85 ?_
        refine zV_goto (pc := 86) (tgt := 90) dX3_takeNumeral_86 (by decide) ?_
        refine zV_put (pc := 90) (j := 4) dX3_takeNumeral_90 flX3_47 rfl (zOb_of rfl) rfl trivial ?_
        refine zV_vret (pc := 93) dX3_takeNumeral_93 trivial ⟨Nat.zero_le _, Nat.zero_le _⟩ ?_
        refine ⟨rfl, rfl, (zU_j _ _ _ _ (by decide)).trans (h2.trans eX), (zU_j _ _ _ _ (by decide)).trans (h3.trans eV), (zU_s _ _ _ _).trans ?_, (zU_j _ _ _ _ (by decide)).trans e3, (h7.up (a := 18) (j := 4) ⟨rfl, by decide, by decide⟩)⟩
        first
          | exact (if_pos (by omega)).symm
          | exact (if_neg (by omega)).symm
    · refine zV_aload_n (pc := 32) (i := 0) dX3_takeNumeral_32 rfl rfl ?_
      refine zV_aload_n (pc := 33) (i := 0) dX3_takeNumeral_33 rfl rfl ?_
      refine zV_get (pc := 34) (j := 5) dX3_takeNumeral_34 flX3_77 (zOb_of rfl) rfl h3 ?_
      refine zV_bipush (pc := 37) dX3_takeNumeral_37 (by decide) ?_
      refine zV_imul (pc := 39) dX3_takeNumeral_39 ?_
      refine zV_aload_n (pc := 40) (i := 0) dX3_takeNumeral_40 rfl rfl ?_
      refine zV_aload_n (pc := 41) (i := 0) dX3_takeNumeral_41 rfl rfl ?_
      refine zV_get (pc := 42) (j := 2) dX3_takeNumeral_42 flX3_28 (zOb_of rfl) rfl h2 ?_
      refine zV_ivp (pc := 45) (ci := 3) dX3_takeNumeral_45 klX3_80 mX3_byteAt ⟨by decide, rfl⟩ rfl ⟨Nat.zero_le _, Nat.zero_le _⟩ (kX3_byteAt ht hC1 hT (by omega)) (zOb_of rfl) rfl rfl (Nat.le_of_ble_eq_true rfl) ?_
      refine zV_iadd (pc := 48) dX3_takeNumeral_48 ?_
      refine zV_bipush (pc := 49) dX3_takeNumeral_49 (by decide) ?_
      refine zV_isub (pc := 51) dX3_takeNumeral_51 ?_
      refine zV_put (pc := 52) (j := 5) dX3_takeNumeral_52 flX3_77 rfl (zOb_of rfl) rfl trivial ?_
      refine zV_aload_n (pc := 55) (i := 0) dX3_takeNumeral_55 rfl rfl ?_
      refine zV_dup (pc := 56) dX3_takeNumeral_56 (by simp) ?_
      refine zV_get (pc := 57) (j := 2) dX3_takeNumeral_57 flX3_28 (zOb_of rfl) rfl ((zU_j _ _ _ _ (by decide)).trans h2) ?_
      refine zV_iconst (pc := 60) dX3_takeNumeral_60 ?_
      refine zV_iadd (pc := 61) dX3_takeNumeral_61 ?_
      refine zV_put (pc := 62) (j := 2) dX3_takeNumeral_62 flX3_28 rfl (zOb_of rfl) rfl trivial ?_
      refine zV_iinc (pc := 65) dX3_takeNumeral_65 rfl rfl ?_
      try dsimp only [List.set_cons_succ, List.set_cons_zero]
      refine zV_goto (pc := 68) (tgt := 7) dX3_takeNumeral_68 (by decide) ?_
      have c2 : zdg (zbp tp z x) := c_29
      refine ih (i + 1) (x + 1) (v * 10 + zbp tp z x - 48) _ (by omega) (by omega) (zU_s _ _ _ _) ((zU_j _ _ _ _ (by decide)).trans (zU_s _ _ _ _)) ((zrn_1 (q := fun j => zdg (zbp tp z j)) c2).symm.trans h4) ((zif_t (a := zdv tp z k (x + 1) (v * 10 + zbp tp z x - 48)) (b := v) c2).symm.trans h5) ((zU_j _ _ _ _ (by decide)).trans ((zU_j _ _ _ _ (by decide)).trans h6)) ((h7.up (a := 18) (j := 5) ⟨rfl, by decide, by decide⟩).up (a := 18) (j := 2) ⟨rfl, by decide, by decide⟩) ⟨by omega, ?_⟩
      by_cases q : z ≤ x
      · exact absurd c2 (zdg_z x q)
      · omega
set_option maxRecDepth 20000 in
set_option maxHeartbeats 2000000 in
theorem kX3_takeNumeral {t z : Int} {tp : Int → Int} (ht : 0 ≤ t ∧ t < 6) (hC : zRC M t tp z) (hT : ztp tp z) {p : Int} (hp : 0 ≤ p ∧ p ≤ z) (h183 : M 18 3 = p) (h182 : M 18 2 = p) : zK g yX3_takeNumeral xX3_takeNumeral [zr 18] 75 M (zPn 75 (fun M1 => M1 18 2 = zrn (fun j => zdg (zbp tp z j)) 160 p ∧ M1 18 5 = zdv tp z 160 p 0 ∧ M1 18 4 = (if zrn (fun j => zdg (zbp tp z j)) 160 p - p ≤ 4 then 2 else 1) ∧ M1 18 3 = p ∧ zFr zAF M M1)) := by
  refine zK_of (ls0 := [zr 18, (3, 0)]) (by decide) rfl (by decide) rfl (Nat.le_of_ble_eq_true rfl) ?_
  refine zV_aload_n (pc := 0) (i := 0) dX3_takeNumeral_0 rfl rfl ?_
  refine zV_iconst (pc := 1) dX3_takeNumeral_1 ?_
  refine zV_put (pc := 2) (j := 5) dX3_takeNumeral_2 flX3_77 rfl (zOb_of rfl) rfl trivial ?_
  refine zV_iconst (pc := 5) dX3_takeNumeral_5 ?_
  refine zV_istore_n (pc := 6) (i := 1) dX3_takeNumeral_6 rfl rfl ?_
  try dsimp only [List.set_cons_succ, List.set_cons_zero]
  exact kX3_tnL ht hC hT hp h183 160 0 p 0 _ (by omega) (by omega) ((zU_j _ _ _ _ (by decide)).trans h182) (zU_s _ _ _ _) rfl rfl (zU_j _ _ _ _ (by decide)) (zFr.rf.up (a := 18) (j := 5) ⟨rfl, by decide, by decide⟩) ⟨by omega, hp.2⟩
set_option maxRecDepth 20000 in
set_option maxHeartbeats 2000000 in
theorem kX3_spelling {n : Nat} (hn : n < 12) : zK g yX3_spelling xX3_spelling [zi (n : Int)] N M (zPp (zr (1000000 + ((n + 1 : Nat) : Int))) N M) := by
  refine zK_of (ls0 := [zi (n : Int)]) (by decide) rfl (by decide) rfl (Nat.le_of_ble_eq_true rfl) ?_
  refine zV_iload_n (pc := 0) (i := 0) dX3_spelling_0 rfl rfl ?_
  rcases (show n = 0 ∨ n = 1 ∨ n = 2 ∨ n = 3 ∨ n = 4 ∨ n = 5 ∨ n = 6 ∨ n = 7 ∨ n = 8 ∨ n = 9 ∨ n = 10 ∨ n = 11  by omega) with c_1 | c_1 | c_1 | c_1 | c_1 | c_1 | c_1 | c_1 | c_1 | c_1 | c_1 | c_1
  · refine zV_tin (pc := 1) (tgt := 60) 0 dX3_spelling_1 (by omega) (by decide) (by decide) rfl (by decide) ?_
    refine zV_ldcS (pc := 60) 1 dX3_spelling_60 (by decide) rfl rfl ?_
    refine zV_aret (pc := 62) dX3_spelling_62 (show (0 : Int) ≤ _ by decide) ⟨Nat.zero_le _, Nat.zero_le _⟩ ?_
    exact ⟨by subst c_1; rfl, rfl, rfl⟩
  · refine zV_tin (pc := 1) (tgt := 63) 1 dX3_spelling_1 (by omega) (by decide) (by decide) rfl (by decide) ?_
    refine zV_ldcS (pc := 63) 2 dX3_spelling_63 (by decide) rfl rfl ?_
    refine zV_aret (pc := 65) dX3_spelling_65 (show (0 : Int) ≤ _ by decide) ⟨Nat.zero_le _, Nat.zero_le _⟩ ?_
    exact ⟨by subst c_1; rfl, rfl, rfl⟩
  · refine zV_tin (pc := 1) (tgt := 66) 2 dX3_spelling_1 (by omega) (by decide) (by decide) rfl (by decide) ?_
    refine zV_ldcS (pc := 66) 3 dX3_spelling_66 (by decide) rfl rfl ?_
    refine zV_aret (pc := 68) dX3_spelling_68 (show (0 : Int) ≤ _ by decide) ⟨Nat.zero_le _, Nat.zero_le _⟩ ?_
    exact ⟨by subst c_1; rfl, rfl, rfl⟩
  · refine zV_tin (pc := 1) (tgt := 69) 3 dX3_spelling_1 (by omega) (by decide) (by decide) rfl (by decide) ?_
    refine zV_ldcS (pc := 69) 4 dX3_spelling_69 (by decide) rfl rfl ?_
    refine zV_aret (pc := 71) dX3_spelling_71 (show (0 : Int) ≤ _ by decide) ⟨Nat.zero_le _, Nat.zero_le _⟩ ?_
    exact ⟨by subst c_1; rfl, rfl, rfl⟩
  · refine zV_tin (pc := 1) (tgt := 72) 4 dX3_spelling_1 (by omega) (by decide) (by decide) rfl (by decide) ?_
    refine zV_ldcS (pc := 72) 5 dX3_spelling_72 (by decide) rfl rfl ?_
    refine zV_aret (pc := 74) dX3_spelling_74 (show (0 : Int) ≤ _ by decide) ⟨Nat.zero_le _, Nat.zero_le _⟩ ?_
    exact ⟨by subst c_1; rfl, rfl, rfl⟩
  · refine zV_tin (pc := 1) (tgt := 75) 5 dX3_spelling_1 (by omega) (by decide) (by decide) rfl (by decide) ?_
    refine zV_ldcS (pc := 75) 6 dX3_spelling_75 (by decide) rfl rfl ?_
    refine zV_aret (pc := 77) dX3_spelling_77 (show (0 : Int) ≤ _ by decide) ⟨Nat.zero_le _, Nat.zero_le _⟩ ?_
    exact ⟨by subst c_1; rfl, rfl, rfl⟩
  · refine zV_tin (pc := 1) (tgt := 78) 6 dX3_spelling_1 (by omega) (by decide) (by decide) rfl (by decide) ?_
    refine zV_ldcS (pc := 78) 7 dX3_spelling_78 (by decide) rfl rfl ?_
    refine zV_aret (pc := 80) dX3_spelling_80 (show (0 : Int) ≤ _ by decide) ⟨Nat.zero_le _, Nat.zero_le _⟩ ?_
    exact ⟨by subst c_1; rfl, rfl, rfl⟩
  · refine zV_tin (pc := 1) (tgt := 81) 7 dX3_spelling_1 (by omega) (by decide) (by decide) rfl (by decide) ?_
    refine zV_ldcS (pc := 81) 8 dX3_spelling_81 (by decide) rfl rfl ?_
    refine zV_aret (pc := 83) dX3_spelling_83 (show (0 : Int) ≤ _ by decide) ⟨Nat.zero_le _, Nat.zero_le _⟩ ?_
    exact ⟨by subst c_1; rfl, rfl, rfl⟩
  · refine zV_tin (pc := 1) (tgt := 84) 8 dX3_spelling_1 (by omega) (by decide) (by decide) rfl (by decide) ?_
    refine zV_ldcS (pc := 84) 9 dX3_spelling_84 (by decide) rfl rfl ?_
    refine zV_aret (pc := 86) dX3_spelling_86 (show (0 : Int) ≤ _ by decide) ⟨Nat.zero_le _, Nat.zero_le _⟩ ?_
    exact ⟨by subst c_1; rfl, rfl, rfl⟩
  · refine zV_tin (pc := 1) (tgt := 87) 9 dX3_spelling_1 (by omega) (by decide) (by decide) rfl (by decide) ?_
    refine zV_ldcS (pc := 87) 10 dX3_spelling_87 (by decide) rfl rfl ?_
    refine zV_aret (pc := 89) dX3_spelling_89 (show (0 : Int) ≤ _ by decide) ⟨Nat.zero_le _, Nat.zero_le _⟩ ?_
    exact ⟨by subst c_1; rfl, rfl, rfl⟩
  · refine zV_tin (pc := 1) (tgt := 90) 10 dX3_spelling_1 (by omega) (by decide) (by decide) rfl (by decide) ?_
    refine zV_ldcS (pc := 90) 11 dX3_spelling_90 (by decide) rfl rfl ?_
    refine zV_aret (pc := 92) dX3_spelling_92 (show (0 : Int) ≤ _ by decide) ⟨Nat.zero_le _, Nat.zero_le _⟩ ?_
    exact ⟨by subst c_1; rfl, rfl, rfl⟩
  · refine zV_tout (pc := 1) (tgt := 93) dX3_spelling_1 (by omega) (by omega) (by decide) ?_
    refine zV_ldcS (pc := 93) 12 dX3_spelling_93 (by decide) rfl rfl ?_
    refine zV_aret (pc := 95) dX3_spelling_95 (show (0 : Int) ≤ _ by decide) ⟨Nat.zero_le _, Nat.zero_le _⟩ ?_
    exact ⟨by subst c_1; rfl, rfl, rfl⟩
set_option maxRecDepth 20000 in
set_option maxHeartbeats 2000000 in
theorem kX3_stL {t z : Int} {tp : Int → Int} (ht : 0 ≤ t ∧ t < 6) (hC : zRC M t tp z) (hT : ztp tp z) {i : Nat} (hi : i < 14) {p e : Int} (hp : 0 ≤ p ∧ p ≤ e ∧ e ≤ z) (h183 : M 18 3 = p) (h182 : M 18 2 = e) (he : e - p = zln i) : ∀ (k : Nat) (j : Nat), j + k = lenJS.getD i 0 → (∀ m : Nat, m < j → zby i m = tp (p + m)) → zV g xX3_stands (zPp (zi (zb (e - p = zln i ∧ ∀ j : Nat, j < lenJS.getD i 0 → zby i j = tp (p + j)))) 75 M) 39 [zr 18, zr (1000000 + (i : Int)), zi (j : Int)] [] 75 M 0 0 := by
  intro k
  induction k with
  | zero =>
    intro j h0 h1
    obtain ⟨hS, h187, h181, hb⟩ := id hC
    have hz := hT.1
    have hl := zln_r i hi
    have hln : zln i = (lenJS.getD i 0 : Nat) := rfl
    refine zV_iload_n (pc := 39) (i := 2) dX3_stands_39 rfl rfl ?_
    refine zV_aload_n (pc := 40) (i := 1) dX3_stands_40 rfl rfl ?_
    refine zV_ivS (pc := 41) dX3_stands_41 klX3_113 mJ0_length_8abf5 rfl rfl ⟨Nat.zero_le _, Nat.zero_le _⟩ (kJ0_length hi) hi rfl rfl (Nat.le_of_ble_eq_true rfl) ?_
    refine zV_icmp_ge (pc := 44) (tgt := 74) dX3_stands_44 (by decide) (by omega) (fun c_44 => ?_) (fun c_44 => absurd (by omega) c_44)
    refine zV_iconst (pc := 74) dX3_stands_74 ?_
    refine zV_iret (pc := 75) dX3_stands_75 (by first | exact zok_b1 | exact zok_b0 | exact zok_b) ⟨Nat.zero_le _, Nat.zero_le _⟩ ?_
    exact zPt ⟨he, fun m hm => h1 m (by omega)⟩
  | succ k ih =>
    intro j h0 h1
    obtain ⟨hS, h187, h181, hb⟩ := id hC
    have hz := hT.1
    have hl := zln_r i hi
    have hln : zln i = (lenJS.getD i 0 : Nat) := rfl
    refine zV_iload_n (pc := 39) (i := 2) dX3_stands_39 rfl rfl ?_
    refine zV_aload_n (pc := 40) (i := 1) dX3_stands_40 rfl rfl ?_
    refine zV_ivS (pc := 41) dX3_stands_41 klX3_113 mJ0_length_8abf5 rfl rfl ⟨Nat.zero_le _, Nat.zero_le _⟩ (kJ0_length hi) hi rfl rfl (Nat.le_of_ble_eq_true rfl) ?_
    refine zV_icmp_ge (pc := 44) (tgt := 74) dX3_stands_44 (by decide) (by omega) (fun c_44 => absurd c_44 (by omega)) (fun c_44 => ?_)
    refine zV_aload_n (pc := 47) (i := 1) dX3_stands_47 rfl rfl ?_
    refine zV_iload_n (pc := 48) (i := 2) dX3_stands_48 rfl rfl ?_
    refine zV_ivS (pc := 49) dX3_stands_49 klX3_117 mJ0_charAt_5068e rfl rfl ⟨Nat.zero_le _, Nat.zero_le _⟩ (kJ0_charAt hi (by omega)) hi rfl rfl (Nat.le_of_ble_eq_true rfl) ?_
    refine zV_aload_n (pc := 52) (i := 0) dX3_stands_52 rfl rfl ?_
    refine zV_get (pc := 53) (j := 0) dX3_stands_53 flX3_9 (zOb_of rfl) rfl hS.e18_0 ?_
    refine zV_aload_n (pc := 56) (i := 0) dX3_stands_56 rfl rfl ?_
    refine zV_get (pc := 57) (j := 3) dX3_stands_57 flX3_53 (zOb_of rfl) rfl h183 ?_
    refine zV_iload_n (pc := 60) (i := 2) dX3_stands_60 rfl rfl ?_
    refine zV_iadd (pc := 61) dX3_stands_61 ?_
    refine zV_iald (pc := 62) dX3_stands_62 (zAr_of rfl : zAr 75 19 0 160) (by omega) (hb _ (by omega) (by omega)) ?_
    have hy := zby_r i hi j (by omega)
    have hx := hT.2 (p + j) (by omega) (by omega)
    refine zV_icmp_eq (pc := 63) (tgt := 68) dX3_stands_63 (by decide) (by omega) (fun c_63 => ?_) (fun c_63 => ?_)
    · refine zV_iinc (pc := 68) dX3_stands_68 rfl rfl ?_
      try dsimp only [List.set_cons_succ, List.set_cons_zero]
      refine zV_goto (pc := 71) (tgt := 39) dX3_stands_71 (by decide) ?_
      refine ih (j + 1) (by omega) (fun m hm => ?_)
      by_cases em : m = j
      · subst em
        exact c_63
      · exact h1 m (by omega)
    · refine zV_iconst (pc := 66) dX3_stands_66 ?_
      refine zV_iret (pc := 67) dX3_stands_67 (by first | exact zok_b1 | exact zok_b0 | exact zok_b) ⟨Nat.zero_le _, Nat.zero_le _⟩ ?_
      exact zPf (fun q => c_63 (q.2 j (by omega)))
set_option maxRecDepth 20000 in
set_option maxHeartbeats 2000000 in
theorem kX3_stands {t z : Int} {tp : Int → Int} (ht : 0 ≤ t ∧ t < 6) (hC : zRC M t tp z) (hT : ztp tp z) {i : Nat} (hi : i < 14) {p e : Int} (hp : 0 ≤ p ∧ p ≤ e ∧ e ≤ z) (h183 : M 18 3 = p) (h182 : M 18 2 = e) : zK g yX3_stands xX3_stands [zr 18, zr (1000000 + (i : Int))] 75 M (zPp (zi (zb (e - p = zln i ∧ ∀ j : Nat, j < lenJS.getD i 0 → zby i j = tp (p + j)))) 75 M) := by
  refine zK_of (ls0 := [zr 18, zr (1000000 + (i : Int)), (3, 0)]) (by decide) rfl (by decide) rfl (Nat.le_of_ble_eq_true rfl) ?_
  obtain ⟨hS, h187, h181, hb⟩ := id hC
  have hz := hT.1
  have hl := zln_r i hi
  have hln : zln i = (lenJS.getD i 0 : Nat) := rfl
  refine zV_aload_n (pc := 0) (i := 1) dX3_stands_0 rfl rfl ?_
  refine zV_ivS (pc := 1) dX3_stands_1 klX3_113 mJ0_length_8abf5 rfl rfl ⟨Nat.zero_le _, Nat.zero_le _⟩ (kJ0_length hi) hi rfl rfl (Nat.le_of_ble_eq_true rfl) ?_
  refine zV_aload_n (pc := 4) (i := 0) dX3_stands_4 rfl rfl ?_
  refine zV_get (pc := 5) (j := 2) dX3_stands_5 flX3_28 (zOb_of rfl) rfl h182 ?_
  refine zV_aload_n (pc := 8) (i := 0) dX3_stands_8 rfl rfl ?_
  refine zV_get (pc := 9) (j := 3) dX3_stands_9 flX3_53 (zOb_of rfl) rfl h183 ?_
  refine zV_isub (pc := 12) dX3_stands_12 ?_
  refine zV_icmp_ne (pc := 13) (tgt := 35) dX3_stands_13 (by decide) (by omega) (fun c_13 => ?_) (fun c_13 => ?_)
  · refine zV_iconst (pc := 35) dX3_stands_35 ?_
    refine zV_iret (pc := 36) dX3_stands_36 (by first | exact zok_b1 | exact zok_b0 | exact zok_b) ⟨Nat.zero_le _, Nat.zero_le _⟩ ?_
    exact zPf (fun q => c_13 q.1.symm)
  · refine zV_aload_n (pc := 16) (i := 0) dX3_stands_16 rfl rfl ?_
    refine zV_get (pc := 17) (j := 3) dX3_stands_17 flX3_53 (zOb_of rfl) rfl h183 ?_
    refine zV_if_lt (pc := 20) (tgt := 35) dX3_stands_20 (by decide) (by omega) (fun c_20 => absurd c_20 (by omega)) (fun c_20 => ?_)
    refine zV_aload_n (pc := 23) (i := 0) dX3_stands_23 rfl rfl ?_
    refine zV_get (pc := 24) (j := 2) dX3_stands_24 flX3_28 (zOb_of rfl) rfl h182 ?_
    refine zV_aload_n (pc := 27) (i := 0) dX3_stands_27 rfl rfl ?_
    refine zV_get (pc := 28) (j := 0) dX3_stands_28 flX3_9 (zOb_of rfl) rfl hS.e18_0 ?_
    refine zV_alen (pc := 31) dX3_stands_31 (zAr_of rfl : zAr 75 19 0 160) ?_
    refine zV_icmp_le (pc := 32) (tgt := 37) dX3_stands_32 (by decide) (by omega) (fun c_32 => ?_) (fun c_32 => absurd (by omega) c_32)
    refine zV_iconst (pc := 37) dX3_stands_37 ?_
    refine zV_istore_n (pc := 38) (i := 2) dX3_stands_38 rfl rfl ?_
    try dsimp only [List.set_cons_succ, List.set_cons_zero]
    exact kX3_stL ht hC hT hi hp h183 h182 (by omega) (lenJS.getD i 0) 0 (by omega) (fun m hm => absurd hm (by omega))
set_option maxRecDepth 20000 in
set_option maxHeartbeats 2000000 in
theorem kX3_twL {t z : Int} {tp : Int → Int} (ht : 0 ≤ t ∧ t < 6) (hC : zRC M t tp z) (hT : ztp tp z) {p : Int} (hp : 0 ≤ p ∧ p ≤ z) (h183 : M 18 3 = p) : ∀ (k : Nat) (n : Nat) (M1 : zM), n + k = 12 → M1 18 2 = zrn (fun j => zlt (zbp tp z j)) 160 p → M1 18 4 = zwt tp p (zrn (fun j => zlt (zbp tp z j)) 160 p) n → (zwt tp p (zrn (fun j => zlt (zbp tp z j)) 160 p) n = 1 ∨ M1 18 5 = zwv tp p (zrn (fun j => zlt (zbp tp z j)) 160 p) n) → M1 18 3 = p → zFr zAF M M1 → zV g xX3_takeWord (zPn 75 (fun M1 => M1 18 2 = zrn (fun j => zlt (zbp tp z j)) 160 p ∧ M1 18 4 = zwt tp p (zrn (fun j => zlt (zbp tp z j)) 160 p) 12 ∧ (zwt tp p (zrn (fun j => zlt (zbp tp z j)) 160 p) 12 = 1 ∨ M1 18 5 = zwv tp p (zrn (fun j => zlt (zbp tp z j)) 160 p) 12) ∧ M1 18 3 = p ∧ zFr zAF M M1)) 50 [zr 18, zi (n : Int)] [] 75 M1 0 0 := by
  intro k
  induction k with
  | zero =>
    intro n M1 h0 h1 h2 h3 h4 h5
    obtain ⟨hS, h187, h181, hb⟩ := id hC
    have hz := hT.1
    have hC1 := hC.fr ht (h5.mono (fun a j q => zAF_R q))
    have hE := zrn_z (q := fun j => zlt (zbp tp z j)) (z := z) zlt_z 160 p hp.2
    have hE2 := zrn_r (fun j => zlt (zbp tp z j)) 160 p
    refine zV_iload_n (pc := 50) (i := 1) dX3_takeWord_50 rfl rfl ?_
    refine zV_bipush (pc := 51) dX3_takeWord_51 (by decide) ?_
    refine zV_icmp_ge (pc := 53) (tgt := 93) dX3_takeWord_53 (by decide) (by omega) (fun c_53 => ?_) (fun c_53 => absurd (by omega) c_53)
    refine zV_vret (pc := 93) dX3_takeWord_93 trivial ⟨Nat.zero_le _, Nat.zero_le _⟩ ?_
    have en : n = 12 := by omega
    subst en
    exact ⟨rfl, rfl, h1, h2, h3, h4, h5⟩
  | succ k ih =>
    intro n M1 h0 h1 h2 h3 h4 h5
    obtain ⟨hS, h187, h181, hb⟩ := id hC
    have hz := hT.1
    have hC1 := hC.fr ht (h5.mono (fun a j q => zAF_R q))
    have hE := zrn_z (q := fun j => zlt (zbp tp z j)) (z := z) zlt_z 160 p hp.2
    have hE2 := zrn_r (fun j => zlt (zbp tp z j)) 160 p
    refine zV_iload_n (pc := 50) (i := 1) dX3_takeWord_50 rfl rfl ?_
    refine zV_bipush (pc := 51) dX3_takeWord_51 (by decide) ?_
    refine zV_icmp_ge (pc := 53) (tgt := 93) dX3_takeWord_53 (by decide) (by omega) (fun c_53 => absurd c_53 (by omega)) (fun c_53 => ?_)
    refine zV_aload_n (pc := 56) (i := 0) dX3_takeWord_56 rfl rfl ?_
    refine zV_iload_n (pc := 57) (i := 1) dX3_takeWord_57 rfl rfl ?_
    refine zV_isp (pc := 58) dX3_takeWord_58 klX3_105 mX3_spelling rfl ⟨Nat.zero_le _, Nat.zero_le _⟩ (kX3_spelling (by omega)) rfl rfl (Nat.le_of_ble_eq_true rfl) ?_
    refine zV_ivp (pc := 61) (ci := 3) dX3_takeWord_61 klX3_109 mX3_stands ⟨by decide, rfl⟩ rfl ⟨Nat.zero_le _, Nat.zero_le _⟩ (kX3_stands ht hC1 hT (i := n + 1) (by omega) (p := p) (e := zrn (fun j => zlt (zbp tp z j)) 160 p) (by omega) h4 h1) (zOb_of rfl) rfl rfl (Nat.le_of_ble_eq_true rfl) ?_
    refine zV_if_eqb (pc := 64) (tgt := 87) dX3_takeWord_64 (by decide) (fun c_64 => ?_) (fun c_64 => ?_)
    · refine zV_iinc (pc := 87) dX3_takeWord_87 rfl rfl ?_
      try dsimp only [List.set_cons_succ, List.set_cons_zero]
      refine zV_goto (pc := 90) (tgt := 50) dX3_takeWord_90 (by decide) ?_
      first
        | (have f1 : ¬ zwm tp p (zrn (fun j => zlt (zbp tp z j)) 160 p) n := c_64
           exact ih (n + 1) M1 (by omega) h1 (h2.trans (zif_f f1).symm) (h3.imp (fun q => (zif_f f1).trans q) (fun q => q.trans (zif_f f1).symm)) h4 h5)
        | (have f1 : zwm tp p (zrn (fun j => zlt (zbp tp z j)) 160 p) n := c_64
           refine ih (n + 1) _ (by omega) ((zU_j _ _ _ _ (by decide)).trans ((zU_j _ _ _ _ (by decide)).trans h1)) ((zU_j _ _ _ _ (by decide)).trans ((zU_s _ _ _ _).trans (Eq.trans ?_ (zif_t f1).symm))) (Or.inr ((zU_s _ _ _ _).trans (zif_t f1).symm)) ((zU_j _ _ _ _ (by decide)).trans ((zU_j _ _ _ _ (by decide)).trans h4)) ((h5.up (a := 18) (j := 4) ⟨rfl, by decide, by decide⟩).up (a := 18) (j := 5) ⟨rfl, by decide, by decide⟩)
           first
             | exact (if_pos (by omega)).symm
             | exact (if_neg (by omega)).symm)
    · refine zV_aload_n (pc := 67) (i := 0) dX3_takeWord_67 rfl rfl ?_
      refine zV_iload_n (pc := 68) (i := 1) dX3_takeWord_68 rfl rfl ?_
      refine zV_bipush (pc := 69) dX3_takeWord_69 (by decide) ?_
      refine zV_icmp_ge (pc := 71) (tgt := 78) dX3_takeWord_71 (by decide) (by omega) (fun c_71 => ?_) (fun c_71 => ?_)
      · refine zV_iload_n (pc := 78) (i := 1) dX3_takeWord_78 rfl rfl ?_
        refine zV_put (pc := 79) (j := 4) dX3_takeWord_79 flX3_47 rfl (zOb_of rfl) rfl trivial ?_
        refine zV_aload_n (pc := 82) (i := 0) dX3_takeWord_82 rfl rfl ?_
        refine zV_iload_n (pc := 83) (i := 1) dX3_takeWord_83 rfl rfl ?_
        refine zV_put (pc := 84) (j := 5) dX3_takeWord_84 flX3_77 rfl (zOb_of rfl) rfl trivial ?_
        refine zV_iinc (pc := 87) dX3_takeWord_87 rfl rfl ?_
        try dsimp only [List.set_cons_succ, List.set_cons_zero]
        refine zV_goto (pc := 90) (tgt := 50) dX3_takeWord_90 (by decide) ?_
        first
          | (have f1 : ¬ zwm tp p (zrn (fun j => zlt (zbp tp z j)) 160 p) n := c_64
             exact ih (n + 1) M1 (by omega) h1 (h2.trans (zif_f f1).symm) (h3.imp (fun q => (zif_f f1).trans q) (fun q => q.trans (zif_f f1).symm)) h4 h5)
          | (have f1 : zwm tp p (zrn (fun j => zlt (zbp tp z j)) 160 p) n := c_64
             refine ih (n + 1) _ (by omega) ((zU_j _ _ _ _ (by decide)).trans ((zU_j _ _ _ _ (by decide)).trans h1)) ((zU_j _ _ _ _ (by decide)).trans ((zU_s _ _ _ _).trans (Eq.trans ?_ (zif_t f1).symm))) (Or.inr ((zU_s _ _ _ _).trans (zif_t f1).symm)) ((zU_j _ _ _ _ (by decide)).trans ((zU_j _ _ _ _ (by decide)).trans h4)) ((h5.up (a := 18) (j := 4) ⟨rfl, by decide, by decide⟩).up (a := 18) (j := 5) ⟨rfl, by decide, by decide⟩)
             first
               | exact (if_pos (by omega)).symm
               | exact (if_neg (by omega)).symm)
      · refine zV_iconst (pc := 74) dX3_takeWord_74 ?_
        refine zV_goto (pc := 75) (tgt := 79) dX3_takeWord_75 (by decide) ?_
        refine zV_put (pc := 79) (j := 4) dX3_takeWord_79 flX3_47 rfl (zOb_of rfl) rfl trivial ?_
        refine zV_aload_n (pc := 82) (i := 0) dX3_takeWord_82 rfl rfl ?_
        refine zV_iload_n (pc := 83) (i := 1) dX3_takeWord_83 rfl rfl ?_
        refine zV_put (pc := 84) (j := 5) dX3_takeWord_84 flX3_77 rfl (zOb_of rfl) rfl trivial ?_
        refine zV_iinc (pc := 87) dX3_takeWord_87 rfl rfl ?_
        try dsimp only [List.set_cons_succ, List.set_cons_zero]
        refine zV_goto (pc := 90) (tgt := 50) dX3_takeWord_90 (by decide) ?_
        first
          | (have f1 : ¬ zwm tp p (zrn (fun j => zlt (zbp tp z j)) 160 p) n := c_64
             exact ih (n + 1) M1 (by omega) h1 (h2.trans (zif_f f1).symm) (h3.imp (fun q => (zif_f f1).trans q) (fun q => q.trans (zif_f f1).symm)) h4 h5)
          | (have f1 : zwm tp p (zrn (fun j => zlt (zbp tp z j)) 160 p) n := c_64
             refine ih (n + 1) _ (by omega) ((zU_j _ _ _ _ (by decide)).trans ((zU_j _ _ _ _ (by decide)).trans h1)) ((zU_j _ _ _ _ (by decide)).trans ((zU_s _ _ _ _).trans (Eq.trans ?_ (zif_t f1).symm))) (Or.inr ((zU_s _ _ _ _).trans (zif_t f1).symm)) ((zU_j _ _ _ _ (by decide)).trans ((zU_j _ _ _ _ (by decide)).trans h4)) ((h5.up (a := 18) (j := 4) ⟨rfl, by decide, by decide⟩).up (a := 18) (j := 5) ⟨rfl, by decide, by decide⟩)
             first
               | exact (if_pos (by omega)).symm
               | exact (if_neg (by omega)).symm)
set_option maxRecDepth 20000 in
set_option maxHeartbeats 2000000 in
theorem kX3_twL0 {t z : Int} {tp : Int → Int} (ht : 0 ≤ t ∧ t < 6) (hC : zRC M t tp z) (hT : ztp tp z) {p : Int} (hp : 0 ≤ p ∧ p ≤ z) (h183 : M 18 3 = p) : ∀ (k : Nat) (i x : Int) (M1 : zM), i + k = 160 → 0 ≤ i → M1 18 2 = x → zrn (fun j => zlt (zbp tp z j)) k x = zrn (fun j => zlt (zbp tp z j)) 160 p → M1 18 3 = M 18 3 → zFr zAF M M1 → p ≤ x ∧ x ≤ z → zV g xX3_takeWord (zPn 75 (fun M1 => M1 18 2 = zrn (fun j => zlt (zbp tp z j)) 160 p ∧ M1 18 4 = zwt tp p (zrn (fun j => zlt (zbp tp z j)) 160 p) 12 ∧ (zwt tp p (zrn (fun j => zlt (zbp tp z j)) 160 p) 12 = 1 ∨ M1 18 5 = zwv tp p (zrn (fun j => zlt (zbp tp z j)) 160 p) 12) ∧ M1 18 3 = p ∧ zFr zAF M M1)) 2 [zr 18, zi i] [] 75 M1 0 0 := by
  intro k
  induction k with
  | zero =>
    intro i x M1 h0 h1 h2 h3 h4 h5 h6
    obtain ⟨hS, h187, h181, hb⟩ := id hC
    have hz := hT.1
    have hC1 := hC.fr ht (h5.mono (fun a j q => zAF_R q))
    have hb1 := zbp_r (p := x) hT
    have eX := h3
    refine zV_iload_n (pc := 2) (i := 1) dX3_takeWord_2 rfl rfl ?_
    refine zV_sipush (pc := 3) dX3_takeWord_3 (by decide) ?_
    refine zV_icmp_ge (pc := 6) (tgt := 43) dX3_takeWord_6 (by decide) (by omega) (fun c_6 => ?_) (fun c_6 => absurd (by omega) c_6)
    refine zV_aload_n (pc := 43) (i := 0) dX3_takeWord_43 rfl rfl ?_
    refine zV_iconst (pc := 44) dX3_takeWord_44 ?_
    refine zV_put (pc := 45) (j := 4) dX3_takeWord_45 flX3_47 rfl (zOb_of rfl) rfl trivial ?_
    refine zV_iconst (pc := 48) dX3_takeWord_48 ?_
    refine zV_istore_n (pc := 49) (i := 1) dX3_takeWord_49 rfl rfl ?_
    try dsimp only [List.set_cons_succ, List.set_cons_zero]
    exact kX3_twL ht hC hT hp h183 12 0 _ rfl ((zU_j _ _ _ _ (by decide)).trans (h2.trans eX)) (zU_s _ _ _ _) (Or.inl rfl) ((zU_j _ _ _ _ (by decide)).trans (h4.trans h183)) (h5.up (a := 18) (j := 4) ⟨rfl, by decide, by decide⟩)
  | succ k ih =>
    intro i x M1 h0 h1 h2 h3 h4 h5 h6
    obtain ⟨hS, h187, h181, hb⟩ := id hC
    have hz := hT.1
    have hC1 := hC.fr ht (h5.mono (fun a j q => zAF_R q))
    have hb1 := zbp_r (p := x) hT
    refine zV_iload_n (pc := 2) (i := 1) dX3_takeWord_2 rfl rfl ?_
    refine zV_sipush (pc := 3) dX3_takeWord_3 (by decide) ?_
    refine zV_icmp_ge (pc := 6) (tgt := 43) dX3_takeWord_6 (by decide) (by omega) (fun c_6 => absurd c_6 (by omega)) (fun c_6 => ?_)
    refine zV_aload_n (pc := 9) (i := 0) dX3_takeWord_9 rfl rfl ?_
    refine zV_aload_n (pc := 10) (i := 0) dX3_takeWord_10 rfl rfl ?_
    refine zV_get (pc := 11) (j := 2) dX3_takeWord_11 flX3_28 (zOb_of rfl) rfl h2 ?_
    refine zV_ivp (pc := 14) (ci := 3) dX3_takeWord_14 klX3_80 mX3_byteAt ⟨by decide, rfl⟩ rfl ⟨Nat.zero_le _, Nat.zero_le _⟩ (kX3_byteAt ht hC1 hT (by omega)) (zOb_of rfl) rfl rfl (Nat.le_of_ble_eq_true rfl) ?_
    refine zV_bipush (pc := 17) dX3_takeWord_17 (by decide) ?_
    refine zV_bipush (pc := 19) dX3_takeWord_19 (by decide) ?_
    refine zV_isNp (pc := 21) dX3_takeWord_21 klX3_88 mX9_within rfl ⟨Nat.zero_le _, Nat.zero_le _⟩ (kX9_within (by omega) (by omega) (by omega)) rfl rfl (Nat.le_of_ble_eq_true rfl) ?_
    refine zV_if_eqb (pc := 24) (tgt := 43) dX3_takeWord_24 (by decide) (fun c_24 => ?_) (fun c_24 => ?_)
    · refine zV_aload_n (pc := 43) (i := 0) dX3_takeWord_43 rfl rfl ?_
      refine zV_iconst (pc := 44) dX3_takeWord_44 ?_
      refine zV_put (pc := 45) (j := 4) dX3_takeWord_45 flX3_47 rfl (zOb_of rfl) rfl trivial ?_
      refine zV_iconst (pc := 48) dX3_takeWord_48 ?_
      refine zV_istore_n (pc := 49) (i := 1) dX3_takeWord_49 rfl rfl ?_
      try dsimp only [List.set_cons_succ, List.set_cons_zero]
      have eX := (zrn_0 (q := fun j => zlt (zbp tp z j)) (k := k + 1) c_24).symm.trans h3
      exact kX3_twL ht hC hT hp h183 12 0 _ rfl ((zU_j _ _ _ _ (by decide)).trans (h2.trans eX)) (zU_s _ _ _ _) (Or.inl rfl) ((zU_j _ _ _ _ (by decide)).trans (h4.trans h183)) (h5.up (a := 18) (j := 4) ⟨rfl, by decide, by decide⟩)
    · refine zV_aload_n (pc := 27) (i := 0) dX3_takeWord_27 rfl rfl ?_
      refine zV_dup (pc := 28) dX3_takeWord_28 (by simp) ?_
      refine zV_get (pc := 29) (j := 2) dX3_takeWord_29 flX3_28 (zOb_of rfl) rfl h2 ?_
      refine zV_iconst (pc := 32) dX3_takeWord_32 ?_
      refine zV_iadd (pc := 33) dX3_takeWord_33 ?_
      refine zV_put (pc := 34) (j := 2) dX3_takeWord_34 flX3_28 rfl (zOb_of rfl) rfl trivial ?_
      refine zV_iinc (pc := 37) dX3_takeWord_37 rfl rfl ?_
      try dsimp only [List.set_cons_succ, List.set_cons_zero]
      refine zV_goto (pc := 40) (tgt := 2) dX3_takeWord_40 (by decide) ?_
      have c2 : zlt (zbp tp z x) := c_24
      refine ih (i + 1) (x + 1) _ (by omega) (by omega) (zU_s _ _ _ _) ((zrn_1 (q := fun j => zlt (zbp tp z j)) c2).symm.trans h3) ((zU_j _ _ _ _ (by decide)).trans h4) (h5.up (a := 18) (j := 2) ⟨rfl, by decide, by decide⟩) ⟨by omega, ?_⟩
      by_cases q : z ≤ x
      · exact absurd c2 (zlt_z x q)
      · omega
set_option maxRecDepth 20000 in
set_option maxHeartbeats 2000000 in
theorem kX3_takeWord {t z : Int} {tp : Int → Int} (ht : 0 ≤ t ∧ t < 6) (hC : zRC M t tp z) (hT : ztp tp z) {p : Int} (hp : 0 ≤ p ∧ p ≤ z) (h183 : M 18 3 = p) (h182 : M 18 2 = p) : zK g yX3_takeWord xX3_takeWord [zr 18] 75 M (zPn 75 (fun M1 => M1 18 2 = zrn (fun j => zlt (zbp tp z j)) 160 p ∧ M1 18 4 = zwt tp p (zrn (fun j => zlt (zbp tp z j)) 160 p) 12 ∧ (zwt tp p (zrn (fun j => zlt (zbp tp z j)) 160 p) 12 = 1 ∨ M1 18 5 = zwv tp p (zrn (fun j => zlt (zbp tp z j)) 160 p) 12) ∧ M1 18 3 = p ∧ zFr zAF M M1)) := by
  refine zK_of (ls0 := [zr 18, (3, 0)]) (by decide) rfl (by decide) rfl (Nat.le_of_ble_eq_true rfl) ?_
  refine zV_iconst (pc := 0) dX3_takeWord_0 ?_
  refine zV_istore_n (pc := 1) (i := 1) dX3_takeWord_1 rfl rfl ?_
  try dsimp only [List.set_cons_succ, List.set_cons_zero]
  exact kX3_twL0 ht hC hT hp h183 160 0 p _ (by omega) (by omega) h182 rfl rfl zFr.rf ⟨by omega, hp.2⟩
end
