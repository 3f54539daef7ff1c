/-! THE READER once more, when 52 places are made (printed by wip/whole/p65.py out of parts 40-44) -/
theorem zOb_to {a : Int} {c N : Nat} (h : zOb 75 a c) (h2 : a < N) : zOb N a c := ⟨h.1, h2, h.2.2⟩
theorem zAr_to {a : Int} {t n N : Nat} (h : zAr 75 a t n) (h2 : a < N) : zAr N a t n := ⟨h.1, h2, h.2.2⟩
theorem zOb_txw {i : Int} (h : 0 ≤ i ∧ i < 6) : zOb 52 (26 + 3 * i) 7 := zOb_to (zOb_tx h) (by omega)
theorem zAr_tsw {i : Int} (h : 0 ≤ i ∧ i < 6) : zAr 52 (27 + 3 * i) 0 160 := zAr_to (zAr_ts h) (by omega)
theorem zAr_tew {i : Int} (h : 0 ≤ i ∧ i < 6) : zAr 52 (28 + 3 * i) 0 3 := zAr_to (zAr_te h) (by omega)
/-- what stands when the almanac is not yet made -/
def zSw (M : zM) : Prop := zSt (zU M 0 6 52)
theorem zSw.e18_0 {M : zM} (h : zSw M) : M 18 0 = 19 := (zU_a M 0 6 52 (by decide)).symm.trans (zSt.e18_0 h)
theorem zSw.tss {M : zM} (h : zSw M) {i : Int} (hi : 0 ≤ i ∧ i < 6) : M (26 + 3 * i) 0 = 27 + 3 * i := (zU_a M 0 6 52 (by omega)).symm.trans (zSt.tss h hi)
theorem zSw.tse {M : zM} (h : zSw M) {i : Int} (hi : 0 ≤ i ∧ i < 6) : M (26 + 3 * i) 1 = 28 + 3 * i := (zU_a M 0 6 52 (by omega)).symm.trans (zSt.tse h hi)
theorem zSw.fr {C : Int → Int → Prop} {M M1 : zM} (h : zSw M) (h1 : zFr C M M1) (hC : ∀ q ∈ zstL, ¬ C q.1 q.2.1) : zSw M1 := by
  refine zSt.fr (C := C) h (fun a j c => ?_) hC
  unfold zU
  by_cases ha : a = 0
  · by_cases hj : j = 6
    · rw [if_pos ha, if_pos ha, if_pos hj, if_pos hj]
    · rw [if_pos ha, if_pos ha, if_neg hj, if_neg hj]
      exact h1 a j c
  · rw [if_neg ha, if_neg ha]
    exact h1 a j c
section
variable {g : zG} {N : Nat} {M : zM}
set_option maxRecDepth 20000 in
set_option maxHeartbeats 2000000 in
theorem kW3_add (hS : zSw M) (hz : 0 ≤ M 18 1 ∧ M 18 1 ≤ 160) {x : Int} : zK g yX3_add xX3_add [zr 18, zi x] 52 M (fun w N' M1 => N' = 52 ∧ ((M 18 1 = 160 ∧ w = some (zi (-4)) ∧ M1 = M) ∨ (M 18 1 < 160 ∧ w = some (zi (M 18 1 + 1)) ∧ M1 = zU (zU M 19 (M 18 1) x) 18 1 (M 18 1 + 1)))) := by
  refine zK_of (ls0 := [zr 18, zi x]) (by decide) rfl (by decide) rfl (Nat.le_of_ble_eq_true rfl) ?_
  refine zV_aload_n (pc := 0) (i := 0) dX3_add_0 rfl rfl ?_
  refine zV_get (pc := 1) (j := 1) dX3_add_1 flX3_15 (zOb_of rfl) rfl rfl ?_
  refine zV_aload_n (pc := 4) (i := 0) dX3_add_4 rfl rfl ?_
  refine zV_get (pc := 5) (j := 0) dX3_add_5 flX3_9 (zOb_of rfl) rfl hS.e18_0 ?_
  refine zV_alen (pc := 8) dX3_add_8 (zAr_of rfl : zAr 52 19 0 160) ?_
  refine zV_icmp_lt (pc := 9) (tgt := 15) dX3_add_9 (by decide) (by omega) (fun c_9 => ?_) (fun c_9 => ?_)
  · refine zV_aload_n (pc := 15) (i := 0) dX3_add_15 rfl rfl ?_
    refine zV_get (pc := 16) (j := 0) dX3_add_16 flX3_9 (zOb_of rfl) rfl hS.e18_0 ?_
    refine zV_aload_n (pc := 19) (i := 0) dX3_add_19 rfl rfl ?_
    refine zV_get (pc := 20) (j := 1) dX3_add_20 flX3_15 (zOb_of rfl) rfl rfl ?_
    refine zV_iload_n (pc := 23) (i := 1) dX3_add_23 rfl rfl ?_
    refine zV_iast (pc := 24) dX3_add_24 (zAr_of rfl : zAr 52 19 0 160) (by omega) ?_
    refine zV_aload_n (pc := 25) (i := 0) dX3_add_25 rfl rfl ?_
    refine zV_dup (pc := 26) dX3_add_26 (by simp) ?_
    refine zV_get (pc := 27) (j := 1) dX3_add_27 flX3_15 (zOb_of rfl) rfl (zU_a _ _ _ _ (by decide)) ?_
    refine zV_iconst (pc := 30) dX3_add_30 ?_
    refine zV_iadd (pc := 31) dX3_add_31 ?_
    refine zV_put (pc := 32) (j := 1) dX3_add_32 flX3_15 rfl (zOb_of rfl) rfl trivial ?_
    refine zV_aload_n (pc := 35) (i := 0) dX3_add_35 rfl rfl ?_
    refine zV_get (pc := 36) (j := 1) dX3_add_36 flX3_15 (zOb_of rfl) rfl (zU_s _ _ _ _) ?_
    refine zV_iret (pc := 39) dX3_add_39 trivial ⟨Nat.zero_le _, Nat.zero_le _⟩ ?_
    exact ⟨rfl, Or.inr ⟨by omega, rfl, rfl⟩⟩
  · refine zV_bipush (pc := 12) dX3_add_12 (by decide) ?_
    refine zV_iret (pc := 14) dX3_add_14 trivial ⟨Nat.zero_le _, Nat.zero_le _⟩ ?_
    exact ⟨rfl, Or.inl ⟨by omega, rfl, rfl⟩⟩
end

def zRCw (M : zM) (t : Int) (tp : Int → Int) (z : Int) : Prop := zSw M ∧ M 18 7 = 26 + 3 * t ∧ M 18 1 = z ∧ ∀ j : Int, 0 ≤ j → j < z → M 19 j = tp j
theorem zRCw.fr {M M1 : zM} {t z : Int} {tp : Int → Int} (h : zRCw M t tp z) (ht : 0 ≤ t ∧ t < 6) (f : zFr (zRF t) M M1) : zRCw M1 t tp z :=
  ⟨h.1.fr f (zRF_st ht), (f _ _ (by unfold zRF; omega)).trans h.2.1, (f _ _ (by unfold zRF; omega)).trans h.2.2.1, fun j j0 j1 => (f _ _ (by unfold zRF; omega)).trans (h.2.2.2 j j0 j1)⟩
section
variable {g : zG} {N : Nat} {M : zM}
set_option maxRecDepth 20000 in
set_option maxHeartbeats 2000000 in
theorem kW3_byteAt {t z : Int} {tp : Int → Int} (ht : 0 ≤ t ∧ t < 6) (hC : zRCw M t tp z) (hT : ztp tp z) {p : Int} (hp : 0 ≤ p ∧ p ≤ 1000) : zK g yX3_byteAt xX3_byteAt [zr 18, zi p] 52 M (zPp (zi (zbp tp z p)) 52 M) := by
  refine zK_of (ls0 := [zr 18, zi p]) (by decide) rfl (by decide) rfl (Nat.le_of_ble_eq_true rfl) ?_
  obtain ⟨hS, h187, h181, hb⟩ := id hC
  have hz := hT.1
  refine zV_iload_n (pc := 0) (i := 1) dX3_byteAt_0 rfl rfl ?_
  refine zV_if_lt (pc := 1) (tgt := 30) dX3_byteAt_1 (by decide) (by omega) (fun c_1 => absurd c_1 (by omega)) (fun c_1 => ?_)
  refine zV_iload_n (pc := 4) (i := 1) dX3_byteAt_4 rfl rfl ?_
  refine zV_aload_n (pc := 5) (i := 0) dX3_byteAt_5 rfl rfl ?_
  refine zV_get (pc := 6) (j := 1) dX3_byteAt_6 flX3_15 (zOb_of rfl) rfl h181 ?_
  refine zV_icmp_ge (pc := 9) (tgt := 30) dX3_byteAt_9 (by decide) (by omega) (fun c_9 => ?_) (fun c_9 => ?_)
  · refine zV_iconst (pc := 30) dX3_byteAt_30 ?_
    refine zV_iret (pc := 31) dX3_byteAt_31 trivial ⟨Nat.zero_le _, Nat.zero_le _⟩ ?_
    first
      | exact zPe (zbp_z (by omega)).symm
      | exact zPe ((if_pos (by omega)).symm)
  · refine zV_iload_n (pc := 12) (i := 1) dX3_byteAt_12 rfl rfl ?_
    refine zV_aload_n (pc := 13) (i := 0) dX3_byteAt_13 rfl rfl ?_
    refine zV_get (pc := 14) (j := 0) dX3_byteAt_14 flX3_9 (zOb_of rfl) rfl hS.e18_0 ?_
    refine zV_alen (pc := 17) dX3_byteAt_17 (zAr_of rfl : zAr 52 19 0 160) ?_
    refine zV_icmp_ge (pc := 18) (tgt := 30) dX3_byteAt_18 (by decide) (by omega) (fun c_18 => absurd c_18 (by omega)) (fun c_18 => ?_)
    refine zV_aload_n (pc := 21) (i := 0) dX3_byteAt_21 rfl rfl ?_
    refine zV_get (pc := 22) (j := 0) dX3_byteAt_22 flX3_9 (zOb_of rfl) rfl hS.e18_0 ?_
    refine zV_iload_n (pc := 25) (i := 1) dX3_byteAt_25 rfl rfl ?_
    refine zV_iald (pc := 26) dX3_byteAt_26 (zAr_of rfl : zAr 52 19 0 160) (by omega) (hb _ (by omega) (by omega)) ?_
    refine zV_goto (pc := 27) (tgt := 31) dX3_byteAt_27 (by decide) ?_
    refine zV_iret (pc := 31) dX3_byteAt_31 trivial ⟨Nat.zero_le _, Nat.zero_le _⟩ ?_
    first
      | exact zPe (zbp_z (by omega)).symm
      | exact zPe ((if_pos (by omega)).symm)
set_option maxRecDepth 20000 in
set_option maxHeartbeats 2000000 in
theorem kW3_tnL {t z : Int} {tp : Int → Int} (ht : 0 ≤ t ∧ t < 6) (hC : zRCw M t tp z) (hT : ztp tp z) {p : Int} (hp : 0 ≤ p ∧ p ≤ z) (h183 : M 18 3 = p) : ∀ (k : Nat) (i x v : Int) (M1 : zM), i + k = 160 → 0 ≤ i → M1 18 2 = x → M1 18 5 = v → zrn (fun j => zdg (zbp tp z j)) k x = zrn (fun j => zdg (zbp tp z j)) 160 p → zdv tp z k x v = zdv tp z 160 p 0 → M1 18 3 = M 18 3 → zFr zAF M M1 → p ≤ x ∧ x ≤ z → zV g xX3_takeNumeral (zPn 52 (fun M1 => M1 18 2 = zrn (fun j => zdg (zbp tp z j)) 160 p ∧ M1 18 5 = zdv tp z 160 p 0 ∧ M1 18 4 = (if zrn (fun j => zdg (zbp tp z j)) 160 p - p ≤ 4 then 2 else 1) ∧ M1 18 3 = p ∧ zFr zAF M M1)) 7 [zr 18, zi i] [] 52 M1 0 0 := by
  intro k
  induction k with
  | zero =>
    intro i x v M1 h0 h1 h2 h3 h4 h5 h6 h7 h8
    obtain ⟨hS, h187, h181, hb⟩ := id hC
    have hz := hT.1
    have hC1 := hC.fr ht (h7.mono (fun a j q => zAF_R q))
    have hb1 := zbp_r (p := x) hT
    have e3 : M1 18 3 = p := (h6).trans h183
    have hE := zrn_z (q := fun j => zdg (zbp tp z j)) (z := z) zdg_z 160 p hp.2
    have hE2 := zrn_r (fun j => zdg (zbp tp z j)) 160 p
    have eX : x = zrn (fun j => zdg (zbp tp z j)) 160 p := h4
    have eV := h5
    refine zV_iload_n (pc := 7) (i := 1) dX3_takeNumeral_7 rfl rfl ?_
    refine zV_sipush (pc := 8) dX3_takeNumeral_8 (by decide) ?_
    refine zV_icmp_ge (pc := 11) (tgt := 71) dX3_takeNumeral_11 (by decide) (by omega) (fun c_11 => ?_) (fun c_11 => absurd (by omega) c_11)
    refine zV_aload_n (pc := 71) (i := 0) dX3_takeNumeral_71 rfl rfl ?_
    refine zV_aload_n (pc := 72) (i := 0) dX3_takeNumeral_72 rfl rfl ?_
    refine zV_get (pc := 73) (j := 2) dX3_takeNumeral_73 flX3_28 (zOb_of rfl) rfl h2 ?_
    refine zV_aload_n (pc := 76) (i := 0) dX3_takeNumeral_76 rfl rfl ?_
    refine zV_get (pc := 77) (j := 3) dX3_takeNumeral_77 flX3_53 (zOb_of rfl) rfl e3 ?_
    refine zV_isub (pc := 80) dX3_takeNumeral_80 ?_
    refine zV_iconst (pc := 81) dX3_takeNumeral_81 ?_
    refine zV_icmp_gt (pc := 82) (tgt := 89) dX3_takeNumeral_82 (by decide) (by omega) (fun c_82 => ?_) (fun c_82 => ?_)
    · refine zV_iconst (pc := 89) dX3_takeNumeral_89 ?_
      refine zV_put (pc := 90) (j := 4) dX3_takeNumeral_90 flX3_47 rfl (zOb_of rfl) rfl trivial ?_
      refine zV_vret (pc := 93) dX3_takeNumeral_93 trivial ⟨Nat.zero_le _, Nat.zero_le _⟩ ?_
      refine ⟨rfl, rfl, (zU_j _ _ _ _ (by decide)).trans (h2.trans eX), (zU_j _ _ _ _ (by decide)).trans (h3.trans eV), (zU_s _ _ _ _).trans ?_, (zU_j _ _ _ _ (by decide)).trans e3, (h7.up (a := 18) (j := 4) ⟨rfl, by decide, by decide⟩)⟩
      first
        | exact (if_pos (by omega)).symm
        | exact (if_neg (by omega)).symm
    · refine zV_iconst (pc := 85) dX3_takeNumeral_85 ?_
      refine zV_goto (pc := 86) (tgt := 90) dX3_takeNumeral_86 (by decide) ?_
      refine zV_put (pc := 90) (j := 4) dX3_takeNumeral_90 flX3_47 rfl (zOb_of rfl) rfl trivial ?_
      refine zV_vret (pc := 93) dX3_takeNumeral_93 trivial ⟨Nat.zero_le _, Nat.zero_le _⟩ ?_
      refine ⟨rfl, rfl, (zU_j _ _ _ _ (by decide)).trans (h2.trans eX), (zU_j _ _ _ _ (by decide)).trans (h3.trans eV), (zU_s _ _ _ _).trans ?_, (zU_j _ _ _ _ (by decide)).trans e3, (h7.up (a := 18) (j := 4) ⟨rfl, by decide, by decide⟩)⟩
      first
        | exact (if_pos (by omega)).symm
        | exact (if_neg (by omega)).symm
  | succ k ih =>
    intro i x v M1 h0 h1 h2 h3 h4 h5 h6 h7 h8
    obtain ⟨hS, h187, h181, hb⟩ := id hC
    have hz := hT.1
    have hC1 := hC.fr ht (h7.mono (fun a j q => zAF_R q))
    have hb1 := zbp_r (p := x) hT
    have e3 : M1 18 3 = p := (h6).trans h183
    have hE := zrn_z (q := fun j => zdg (zbp tp z j)) (z := z) zdg_z 160 p hp.2
    have hE2 := zrn_r (fun j => zdg (zbp tp z j)) 160 p
    refine zV_iload_n (pc := 7) (i := 1) dX3_takeNumeral_7 rfl rfl ?_
    refine zV_sipush (pc := 8) dX3_takeNumeral_8 (by decide) ?_
    refine zV_icmp_ge (pc := 11) (tgt := 71) dX3_takeNumeral_11 (by decide) (by omega) (fun c_11 => absurd c_11 (by omega)) (fun c_11 => ?_)
    refine zV_aload_n (pc := 14) (i := 0) dX3_takeNumeral_14 rfl rfl ?_
    refine zV_aload_n (pc := 15) (i := 0) dX3_takeNumeral_15 rfl rfl ?_
    refine zV_get (pc := 16) (j := 2) dX3_takeNumeral_16 flX3_28 (zOb_of rfl) rfl h2 ?_
    refine zV_ivp (pc := 19) (ci := 3) dX3_takeNumeral_19 klX3_80 mX3_byteAt ⟨by decide, rfl⟩ rfl ⟨Nat.zero_le _, Nat.zero_le _⟩ (kW3_byteAt ht hC1 hT (by omega)) (zOb_of rfl) rfl rfl (Nat.le_of_ble_eq_true rfl) ?_
    refine zV_bipush (pc := 22) dX3_takeNumeral_22 (by decide) ?_
    refine zV_bipush (pc := 24) dX3_takeNumeral_24 (by decide) ?_
    refine zV_isNp (pc := 26) dX3_takeNumeral_26 klX3_88 mX9_within rfl ⟨Nat.zero_le _, Nat.zero_le _⟩ (kX9_within (by omega) (by omega) (by omega)) rfl rfl (Nat.le_of_ble_eq_true rfl) ?_
    refine zV_if_eqb (pc := 29) (tgt := 71) dX3_takeNumeral_29 (by decide) (fun c_29 => ?_) (fun c_29 => ?_)
    · have eX : x = zrn (fun j => zdg (zbp tp z j)) 160 p := (zrn_0 (q := fun j => zdg (zbp tp z j)) (k := k + 1) c_29).symm.trans h4
      have eV := (zif_f (a := zdv tp z k (x + 1) (v * 10 + zbp tp z x - 48)) (b := v) c_29).symm.trans h5
      refine zV_aload_n (pc := 71) (i := 0) dX3_takeNumeral_71 rfl rfl ?_
      refine zV_aload_n (pc := 72) (i := 0) dX3_takeNumeral_72 rfl rfl ?_
      refine zV_get (pc := 73) (j := 2) dX3_takeNumeral_73 flX3_28 (zOb_of rfl) rfl h2 ?_
      refine zV_aload_n (pc := 76) (i := 0) dX3_takeNumeral_76 rfl rfl ?_
      refine zV_get (pc := 77) (j := 3) dX3_takeNumeral_77 flX3_53 (zOb_of rfl) rfl e3 ?_
      refine zV_isub (pc := 80) dX3_takeNumeral_80 ?_
      refine zV_iconst (pc := 81) dX3_takeNumeral_81 ?_
      refine zV_icmp_gt (pc := 82) (tgt := 89) dX3_takeNumeral_82 (by decide) (by omega) (fun c_82 => ?_) (fun c_82 => ?_)
      · refine zV_iconst (pc := 89) dX3_takeNumeral_89 ?_
        refine zV_put (pc := 90) (j := 4) dX3_takeNumeral_90 flX3_47 rfl (zOb_of rfl) rfl trivial ?_
        refine zV_vret (pc := 93) dX3_takeNumeral_93 trivial ⟨Nat.zero_le _, Nat.zero_le _⟩ ?_
        refine ⟨rfl, rfl, (zU_j _ _ _ _ (by decide)).trans (h2.trans eX), (zU_j _ _ _ _ (by decide)).trans (h3.trans eV), (zU_s _ _ _ _).trans ?_, (zU_j _ _ _ _ (by decide)).trans e3, (h7.up (a := 18) (j := 4) ⟨rfl, by decide, by decide⟩)⟩
        first
          | exact (if_pos (by omega)).symm
          | exact (if_neg (by omega)).symm
      · refine zV_iconst (pc := 85) dX3_takeNumeral_85 ?_
        refine zV_goto (pc := 86) (tgt := 90) dX3_takeNumeral_86 (by decide) ?_
        refine zV_put (pc := 90) (j := 4) dX3_takeNumeral_90 flX3_47 rfl (zOb_of rfl) rfl trivial ?_
        refine zV_vret (pc := 93) dX3_takeNumeral_93 trivial ⟨Nat.zero_le _, Nat.zero_le _⟩ ?_
        refine ⟨rfl, rfl, (zU_j _ _ _ _ (by decide)).trans (h2.trans eX), (zU_j _ _ _ _ (by decide)).trans (h3.trans eV), (zU_s _ _ _ _).trans ?_, (zU_j _ _ _ _ (by decide)).trans e3, (h7.up (a := 18) (j := 4) ⟨rfl, by decide, by decide⟩)⟩
        first
          | exact (if_pos (by omega)).symm
          | exact (if_neg (by omega)).symm
    · refine zV_aload_n (pc := 32) (i := 0) dX3_takeNumeral_32 rfl rfl ?_
      refine zV_aload_n (pc := 33) (i := 0) dX3_takeNumeral_33 rfl rfl ?_
      refine zV_get (pc := 34) (j := 5) dX3_takeNumeral_34 flX3_77 (zOb_of rfl) rfl h3 ?_
      refine zV_bipush (pc := 37) dX3_takeNumeral_37 (by decide) ?_
      refine zV_imul (pc := 39) dX3_takeNumeral_39 ?_
      refine zV_aload_n (pc := 40) (i := 0) dX3_takeNumeral_40 rfl rfl ?_
      refine zV_aload_n (pc := 41) (i := 0) dX3_takeNumeral_41 rfl rfl ?_
      refine zV_get (pc := 42) (j := 2) dX3_takeNumeral_42 flX3_28 (zOb_of rfl) rfl h2 ?_
      refine zV_ivp (pc := 45) (ci := 3) dX3_takeNumeral_45 klX3_80 mX3_byteAt ⟨by decide, rfl⟩ rfl ⟨Nat.zero_le _, Nat.zero_le _⟩ (kW3_byteAt ht hC1 hT (by omega)) (zOb_of rfl) rfl rfl (Nat.le_of_ble_eq_true rfl) ?_
      refine zV_iadd (pc := 48) dX3_takeNumeral_48 ?_
      refine zV_bipush (pc := 49) dX3_takeNumeral_49 (by decide) ?_
      refine zV_isub (pc := 51) dX3_takeNumeral_51 ?_
      refine zV_put (pc := 52) (j := 5) dX3_takeNumeral_52 flX3_77 rfl (zOb_of rfl) rfl trivial ?_
      refine zV_aload_n (pc := 55) (i := 0) dX3_takeNumeral_55 rfl rfl ?_
      refine zV_dup (pc := 56) dX3_takeNumeral_56 (by simp) ?_
      refine zV_get (pc := 57) (j := 2) dX3_takeNumeral_57 flX3_28 (zOb_of rfl) rfl ((zU_j _ _ _ _ (by decide)).trans h2) ?_
      refine zV_iconst (pc := 60) dX3_takeNumeral_60 ?_
      refine zV_iadd (pc := 61) dX3_takeNumeral_61 ?_
      refine zV_put (pc := 62) (j := 2) dX3_takeNumeral_62 flX3_28 rfl (zOb_of rfl) rfl trivial ?_
      refine zV_iinc (pc := 65) dX3_takeNumeral_65 rfl rfl ?_
      try dsimp only [List.set_cons_succ, List.set_cons_zero]
      refine zV_goto (pc := 68) (tgt := 7) dX3_takeNumeral_68 (by decide) ?_
      have c2 : zdg (zbp tp z x) := c_29
      refine ih (i + 1) (x + 1) (v * 10 + zbp tp z x - 48) _ (by omega) (by omega) (zU_s _ _ _ _) ((zU_j _ _ _ _ (by decide)).trans (zU_s _ _ _ _)) ((zrn_1 (q := fun j => zdg (zbp tp z j)) c2).symm.trans h4) ((zif_t (a := zdv tp z k (x + 1) (v * 10 + zbp tp z x - 48)) (b := v) c2).symm.trans h5) ((zU_j _ _ _ _ (by decide)).trans ((zU_j _ _ _ _ (by decide)).trans h6)) ((h7.up (a := 18) (j := 5) ⟨rfl, by decide, by decide⟩).up (a := 18) (j := 2) ⟨rfl, by decide, by decide⟩) ⟨by omega, ?_⟩
      by_cases q : z ≤ x
      · exact absurd c2 (zdg_z x q)
      · omega
set_option maxRecDepth 20000 in
set_option maxHeartbeats 2000000 in
theorem kW3_takeNumeral {t z : Int} {tp : Int → Int} (ht : 0 ≤ t ∧ t < 6) (hC : zRCw M t tp z) (hT : ztp tp z) {p : Int} (hp : 0 ≤ p ∧ p ≤ z) (h183 : M 18 3 = p) (h182 : M 18 2 = p) : zK g yX3_takeNumeral xX3_takeNumeral [zr 18] 52 M (zPn 52 (fun M1 => M1 18 2 = zrn (fun j => zdg (zbp tp z j)) 160 p ∧ M1 18 5 = zdv tp z 160 p 0 ∧ M1 18 4 = (if zrn (fun j => zdg (zbp tp z j)) 160 p - p ≤ 4 then 2 else 1) ∧ M1 18 3 = p ∧ zFr zAF M M1)) := by
  refine zK_of (ls0 := [zr 18, (3, 0)]) (by decide) rfl (by decide) rfl (Nat.le_of_ble_eq_true rfl) ?_
  refine zV_aload_n (pc := 0) (i := 0) dX3_takeNumeral_0 rfl rfl ?_
  refine zV_iconst (pc := 1) dX3_takeNumeral_1 ?_
  refine zV_put (pc := 2) (j := 5) dX3_takeNumeral_2 flX3_77 rfl (zOb_of rfl) rfl trivial ?_
  refine zV_iconst (pc := 5) dX3_takeNumeral_5 ?_
  refine zV_istore_n (pc := 6) (i := 1) dX3_takeNumeral_6 rfl rfl ?_
  try dsimp only [List.set_cons_succ, List.set_cons_zero]
  exact kW3_tnL ht hC hT hp h183 160 0 p 0 _ (by omega) (by omega) ((zU_j _ _ _ _ (by decide)).trans h182) (zU_s _ _ _ _) rfl rfl (zU_j _ _ _ _ (by decide)) (zFr.rf.up (a := 18) (j := 5) ⟨rfl, by decide, by decide⟩) ⟨by omega, hp.2⟩
set_option maxRecDepth 20000 in
set_option maxHeartbeats 2000000 in
theorem kW3_spelling {n : Nat} (hn : n < 12) : zK g yX3_spelling xX3_spelling [zi (n : Int)] N M (zPp (zr (1000000 + ((n + 1 : Nat) : Int))) N M) := by
  refine zK_of (ls0 := [zi (n : Int)]) (by decide) rfl (by decide) rfl (Nat.le_of_ble_eq_true rfl) ?_
  refine zV_iload_n (pc := 0) (i := 0) dX3_spelling_0 rfl rfl ?_
  rcases (show n = 0 ∨ n = 1 ∨ n = 2 ∨ n = 3 ∨ n = 4 ∨ n = 5 ∨ n = 6 ∨ n = 7 ∨ n = 8 ∨ n = 9 ∨ n = 10 ∨ n = 11  by omega) with c_1 | c_1 | c_1 | c_1 | c_1 | c_1 | c_1 | c_1 | c_1 | c_1 | c_1 | c_1
  · refine zV_tin (pc := 1) (tgt := 60) 0 dX3_spelling_1 (by omega) (by decide) (by decide) rfl (by decide) ?_
    refine zV_ldcS (pc := 60) 1 dX3_spelling_60 (by decide) rfl rfl ?_
    refine zV_aret (pc := 62) dX3_spelling_62 (show (0 : Int) ≤ _ by decide) ⟨Nat.zero_le _, Nat.zero_le _⟩ ?_
    exact ⟨by subst c_1; rfl, rfl, rfl⟩
  · refine zV_tin (pc := 1) (tgt := 63) 1 dX3_spelling_1 (by omega) (by decide) (by decide) rfl (by decide) ?_
    refine zV_ldcS (pc := 63) 2 dX3_spelling_63 (by decide) rfl rfl ?_
    refine zV_aret (pc := 65) dX3_spelling_65 (show (0 : Int) ≤ _ by decide) ⟨Nat.zero_le _, Nat.zero_le _⟩ ?_
    exact ⟨by subst c_1; rfl, rfl, rfl⟩
  · refine zV_tin (pc := 1) (tgt := 66) 2 dX3_spelling_1 (by omega) (by decide) (by decide) rfl (by decide) ?_
    refine zV_ldcS (pc := 66) 3 dX3_spelling_66 (by decide) rfl rfl ?_
    refine zV_aret (pc := 68) dX3_spelling_68 (show (0 : Int) ≤ _ by decide) ⟨Nat.zero_le _, Nat.zero_le _⟩ ?_
    exact ⟨by subst c_1; rfl, rfl, rfl⟩
  · refine zV_tin (pc := 1) (tgt := 69) 3 dX3_spelling_1 (by omega) (by decide) (by decide) rfl (by decide) ?_
    refine zV_ldcS (pc := 69) 4 dX3_spelling_69 (by decide) rfl rfl ?_
    refine zV_aret (pc := 71) dX3_spelling_71 (show (0 : Int) ≤ _ by decide) ⟨Nat.zero_le _, Nat.zero_le _⟩ ?_
    exact ⟨by subst c_1; rfl, rfl, rfl⟩
  · refine zV_tin (pc := 1) (tgt := 72) 4 dX3_spelling_1 (by omega) (by decide) (by decide) rfl (by decide) ?_
    refine zV_ldcS (pc := 72) 5 dX3_spelling_72 (by decide) rfl rfl ?_
    refine zV_aret (pc := 74) dX3_spelling_74 (show (0 : Int) ≤ _ by decide) ⟨Nat.zero_le _, Nat.zero_le _⟩ ?_
    exact ⟨by subst c_1; rfl, rfl, rfl⟩
  · refine zV_tin (pc := 1) (tgt := 75) 5 dX3_spelling_1 (by omega) (by decide) (by decide) rfl (by decide) ?_
    refine zV_ldcS (pc := 75) 6 dX3_spelling_75 (by decide) rfl rfl ?_
    refine zV_aret (pc := 77) dX3_spelling_77 (show (0 : Int) ≤ _ by decide) ⟨Nat.zero_le _, Nat.zero_le _⟩ ?_
    exact ⟨by subst c_1; rfl, rfl, rfl⟩
  · refine zV_tin (pc := 1) (tgt := 78) 6 dX3_spelling_1 (by omega) (by decide) (by decide) rfl (by decide) ?_
    refine zV_ldcS (pc := 78) 7 dX3_spelling_78 (by decide) rfl rfl ?_
    refine zV_aret (pc := 80) dX3_spelling_80 (show (0 : Int) ≤ _ by decide) ⟨Nat.zero_le _, Nat.zero_le _⟩ ?_
    exact ⟨by subst c_1; rfl, rfl, rfl⟩
  · refine zV_tin (pc := 1) (tgt := 81) 7 dX3_spelling_1 (by omega) (by decide) (by decide) rfl (by decide) ?_
    refine zV_ldcS (pc := 81) 8 dX3_spelling_81 (by decide) rfl rfl ?_
    refine zV_aret (pc := 83) dX3_spelling_83 (show (0 : Int) ≤ _ by decide) ⟨Nat.zero_le _, Nat.zero_le _⟩ ?_
    exact ⟨by subst c_1; rfl, rfl, rfl⟩
  · refine zV_tin (pc := 1) (tgt := 84) 8 dX3_spelling_1 (by omega) (by decide) (by decide) rfl (by decide) ?_
    refine zV_ldcS (pc := 84) 9 dX3_spelling_84 (by decide) rfl rfl ?_
    refine zV_aret (pc := 86) dX3_spelling_86 (show (0 : Int) ≤ _ by decide) ⟨Nat.zero_le _, Nat.zero_le _⟩ ?_
    exact ⟨by subst c_1; rfl, rfl, rfl⟩
  · refine zV_tin (pc := 1) (tgt := 87) 9 dX3_spelling_1 (by omega) (by decide) (by decide) rfl (by decide) ?_
    refine zV_ldcS (pc := 87) 10 dX3_spelling_87 (by decide) rfl rfl ?_
    refine zV_aret (pc := 89) dX3_spelling_89 (show (0 : Int) ≤ _ by decide) ⟨Nat.zero_le _, Nat.zero_le _⟩ ?_
    exact ⟨by subst c_1; rfl, rfl, rfl⟩
  · refine zV_tin (pc := 1) (tgt := 90) 10 dX3_spelling_1 (by omega) (by decide) (by decide) rfl (by decide) ?_
    refine zV_ldcS (pc := 90) 11 dX3_spelling_90 (by decide) rfl rfl ?_
    refine zV_aret (pc := 92) dX3_spelling_92 (show (0 : Int) ≤ _ by decide) ⟨Nat.zero_le _, Nat.zero_le _⟩ ?_
    exact ⟨by subst c_1; rfl, rfl, rfl⟩
  · refine zV_tout (pc := 1) (tgt := 93) dX3_spelling_1 (by omega) (by omega) (by decide) ?_
    refine zV_ldcS (pc := 93) 12 dX3_spelling_93 (by decide) rfl rfl ?_
    refine zV_aret (pc := 95) dX3_spelling_95 (show (0 : Int) ≤ _ by decide) ⟨Nat.zero_le _, Nat.zero_le _⟩ ?_
    exact ⟨by subst c_1; rfl, rfl, rfl⟩
set_option maxRecDepth 20000 in
set_option maxHeartbeats 2000000 in
theorem kW3_stL {t z : Int} {tp : Int → Int} (ht : 0 ≤ t ∧ t < 6) (hC : zRCw M t tp z) (hT : ztp tp z) {i : Nat} (hi : i < 14) {p e : Int} (hp : 0 ≤ p ∧ p ≤ e ∧ e ≤ z) (h183 : M 18 3 = p) (h182 : M 18 2 = e) (he : e - p = zln i) : ∀ (k : Nat) (j : Nat), j + k = lenJS.getD i 0 → (∀ m : Nat, m < j → zby i m = tp (p + m)) → zV g xX3_stands (zPp (zi (zb (e - p = zln i ∧ ∀ j : Nat, j < lenJS.getD i 0 → zby i j = tp (p + j)))) 52 M) 39 [zr 18, zr (1000000 + (i : Int)), zi (j : Int)] [] 52 M 0 0 := by
  intro k
  induction k with
  | zero =>
    intro j h0 h1
    obtain ⟨hS, h187, h181, hb⟩ := id hC
    have hz := hT.1
    have hl := zln_r i hi
    have hln : zln i = (lenJS.getD i 0 : Nat) := rfl
    refine zV_iload_n (pc := 39) (i := 2) dX3_stands_39 rfl rfl ?_
    refine zV_aload_n (pc := 40) (i := 1) dX3_stands_40 rfl rfl ?_
    refine zV_ivS (pc := 41) dX3_stands_41 klX3_113 mJ0_length_8abf5 rfl rfl ⟨Nat.zero_le _, Nat.zero_le _⟩ (kJ0_length hi) hi rfl rfl (Nat.le_of_ble_eq_true rfl) ?_
    refine zV_icmp_ge (pc := 44) (tgt := 74) dX3_stands_44 (by decide) (by omega) (fun c_44 => ?_) (fun c_44 => absurd (by omega) c_44)
    refine zV_iconst (pc := 74) dX3_stands_74 ?_
    refine zV_iret (pc := 75) dX3_stands_75 (by first | exact zok_b1 | exact zok_b0 | exact zok_b) ⟨Nat.zero_le _, Nat.zero_le _⟩ ?_
    exact zPt ⟨he, fun m hm => h1 m (by omega)⟩
  | succ k ih =>
    intro j h0 h1
    obtain ⟨hS, h187, h181, hb⟩ := id hC
    have hz := hT.1
    have hl := zln_r i hi
    have hln : zln i = (lenJS.getD i 0 : Nat) := rfl
    refine zV_iload_n (pc := 39) (i := 2) dX3_stands_39 rfl rfl ?_
    refine zV_aload_n (pc := 40) (i := 1) dX3_stands_40 rfl rfl ?_
    refine zV_ivS (pc := 41) dX3_stands_41 klX3_113 mJ0_length_8abf5 rfl rfl ⟨Nat.zero_le _, Nat.zero_le _⟩ (kJ0_length hi) hi rfl rfl (Nat.le_of_ble_eq_true rfl) ?_
    refine zV_icmp_ge (pc := 44) (tgt := 74) dX3_stands_44 (by decide) (by omega) (fun c_44 => absurd c_44 (by omega)) (fun c_44 => ?_)
    refine zV_aload_n (pc := 47) (i := 1) dX3_stands_47 rfl rfl ?_
    refine zV_iload_n (pc := 48) (i := 2) dX3_stands_48 rfl rfl ?_
    refine zV_ivS (pc := 49) dX3_stands_49 klX3_117 mJ0_charAt_5068e rfl rfl ⟨Nat.zero_le _, Nat.zero_le _⟩ (kJ0_charAt hi (by omega)) hi rfl rfl (Nat.le_of_ble_eq_true rfl) ?_
    refine zV_aload_n (pc := 52) (i := 0) dX3_stands_52 rfl rfl ?_
    refine zV_get (pc := 53) (j := 0) dX3_stands_53 flX3_9 (zOb_of rfl) rfl hS.e18_0 ?_
    refine zV_aload_n (pc := 56) (i := 0) dX3_stands_56 rfl rfl ?_
    refine zV_get (pc := 57) (j := 3) dX3_stands_57 flX3_53 (zOb_of rfl) rfl h183 ?_
    refine zV_iload_n (pc := 60) (i := 2) dX3_stands_60 rfl rfl ?_
    refine zV_iadd (pc := 61) dX3_stands_61 ?_
    refine zV_iald (pc := 62) dX3_stands_62 (zAr_of rfl : zAr 52 19 0 160) (by omega) (hb _ (by omega) (by omega)) ?_
    have hy := zby_r i hi j (by omega)
    have hx := hT.2 (p + j) (by omega) (by omega)
    refine zV_icmp_eq (pc := 63) (tgt := 68) dX3_stands_63 (by decide) (by omega) (fun c_63 => ?_) (fun c_63 => ?_)
    · refine zV_iinc (pc := 68) dX3_stands_68 rfl rfl ?_
      try dsimp only [List.set_cons_succ, List.set_cons_zero]
      refine zV_goto (pc := 71) (tgt := 39) dX3_stands_71 (by decide) ?_
      refine ih (j + 1) (by omega) (fun m hm => ?_)
      by_cases em : m = j
      · subst em
        exact c_63
      · exact h1 m (by omega)
    · refine zV_iconst (pc := 66) dX3_stands_66 ?_
      refine zV_iret (pc := 67) dX3_stands_67 (by first | exact zok_b1 | exact zok_b0 | exact zok_b) ⟨Nat.zero_le _, Nat.zero_le _⟩ ?_
      exact zPf (fun q => c_63 (q.2 j (by omega)))
set_option maxRecDepth 20000 in
set_option maxHeartbeats 2000000 in
theorem kW3_stands {t z : Int} {tp : Int → Int} (ht : 0 ≤ t ∧ t < 6) (hC : zRCw M t tp z) (hT : ztp tp z) {i : Nat} (hi : i < 14) {p e : Int} (hp : 0 ≤ p ∧ p ≤ e ∧ e ≤ z) (h183 : M 18 3 = p) (h182 : M 18 2 = e) : zK g yX3_stands xX3_stands [zr 18, zr (1000000 + (i : Int))] 52 M (zPp (zi (zb (e - p = zln i ∧ ∀ j : Nat, j < lenJS.getD i 0 → zby i j = tp (p + j)))) 52 M) := by
  refine zK_of (ls0 := [zr 18, zr (1000000 + (i : Int)), (3, 0)]) (by decide) rfl (by decide) rfl (Nat.le_of_ble_eq_true rfl) ?_
  obtain ⟨hS, h187, h181, hb⟩ := id hC
  have hz := hT.1
  have hl := zln_r i hi
  have hln : zln i = (lenJS.getD i 0 : Nat) := rfl
  refine zV_aload_n (pc := 0) (i := 1) dX3_stands_0 rfl rfl ?_
  refine zV_ivS (pc := 1) dX3_stands_1 klX3_113 mJ0_length_8abf5 rfl rfl ⟨Nat.zero_le _, Nat.zero_le _⟩ (kJ0_length hi) hi rfl rfl (Nat.le_of_ble_eq_true rfl) ?_
  refine zV_aload_n (pc := 4) (i := 0) dX3_stands_4 rfl rfl ?_
  refine zV_get (pc := 5) (j := 2) dX3_stands_5 flX3_28 (zOb_of rfl) rfl h182 ?_
  refine zV_aload_n (pc := 8) (i := 0) dX3_stands_8 rfl rfl ?_
  refine zV_get (pc := 9) (j := 3) dX3_stands_9 flX3_53 (zOb_of rfl) rfl h183 ?_
  refine zV_isub (pc := 12) dX3_stands_12 ?_
  refine zV_icmp_ne (pc := 13) (tgt := 35) dX3_stands_13 (by decide) (by omega) (fun c_13 => ?_) (fun c_13 => ?_)
  · refine zV_iconst (pc := 35) dX3_stands_35 ?_
    refine zV_iret (pc := 36) dX3_stands_36 (by first | exact zok_b1 | exact zok_b0 | exact zok_b) ⟨Nat.zero_le _, Nat.zero_le _⟩ ?_
    exact zPf (fun q => c_13 q.1.symm)
  · refine zV_aload_n (pc := 16) (i := 0) dX3_stands_16 rfl rfl ?_
    refine zV_get (pc := 17) (j := 3) dX3_stands_17 flX3_53 (zOb_of rfl) rfl h183 ?_
    refine zV_if_lt (pc := 20) (tgt := 35) dX3_stands_20 (by decide) (by omega) (fun c_20 => absurd c_20 (by omega)) (fun c_20 => ?_)
    refine zV_aload_n (pc := 23) (i := 0) dX3_stands_23 rfl rfl ?_
    refine zV_get (pc := 24) (j := 2) dX3_stands_24 flX3_28 (zOb_of rfl) rfl h182 ?_
    refine zV_aload_n (pc := 27) (i := 0) dX3_stands_27 rfl rfl ?_
    refine zV_get (pc := 28) (j := 0) dX3_stands_28 flX3_9 (zOb_of rfl) rfl hS.e18_0 ?_
    refine zV_alen (pc := 31) dX3_stands_31 (zAr_of rfl : zAr 52 19 0 160) ?_
    refine zV_icmp_le (pc := 32) (tgt := 37) dX3_stands_32 (by decide) (by omega) (fun c_32 => ?_) (fun c_32 => absurd (by omega) c_32)
    refine zV_iconst (pc := 37) dX3_stands_37 ?_
    refine zV_istore_n (pc := 38) (i := 2) dX3_stands_38 rfl rfl ?_
    try dsimp only [List.set_cons_succ, List.set_cons_zero]
    exact kW3_stL ht hC hT hi hp h183 h182 (by omega) (lenJS.getD i 0) 0 (by omega) (fun m hm => absurd hm (by omega))
set_option maxRecDepth 20000 in
set_option maxHeartbeats 2000000 in
theorem kW3_twL {t z : Int} {tp : Int → Int} (ht : 0 ≤ t ∧ t < 6) (hC : zRCw M t tp z) (hT : ztp tp z) {p : Int} (hp : 0 ≤ p ∧ p ≤ z) (h183 : M 18 3 = p) : ∀ (k : Nat) (n : Nat) (M1 : zM), n + k = 12 → M1 18 2 = zrn (fun j => zlt (zbp tp z j)) 160 p → M1 18 4 = zwt tp p (zrn (fun j => zlt (zbp tp z j)) 160 p) n → (zwt tp p (zrn (fun j => zlt (zbp tp z j)) 160 p) n = 1 ∨ M1 18 5 = zwv tp p (zrn (fun j => zlt (zbp tp z j)) 160 p) n) → M1 18 3 = p → zFr zAF M M1 → zV g xX3_takeWord (zPn 52 (fun M1 => M1 18 2 = zrn (fun j => zlt (zbp tp z j)) 160 p ∧ M1 18 4 = zwt tp p (zrn (fun j => zlt (zbp tp z j)) 160 p) 12 ∧ (zwt tp p (zrn (fun j => zlt (zbp tp z j)) 160 p) 12 = 1 ∨ M1 18 5 = zwv tp p (zrn (fun j => zlt (zbp tp z j)) 160 p) 12) ∧ M1 18 3 = p ∧ zFr zAF M M1)) 50 [zr 18, zi (n : Int)] [] 52 M1 0 0 := by
  intro k
  induction k with
  | zero =>
    intro n M1 h0 h1 h2 h3 h4 h5
    obtain ⟨hS, h187, h181, hb⟩ := id hC
    have hz := hT.1
    have hC1 := hC.fr ht (h5.mono (fun a j q => zAF_R q))
    have hE := zrn_z (q := fun j => zlt (zbp tp z j)) (z := z) zlt_z 160 p hp.2
    have hE2 := zrn_r (fun j => zlt (zbp tp z j)) 160 p
    refine zV_iload_n (pc := 50) (i := 1) dX3_takeWord_50 rfl rfl ?_
    refine zV_bipush (pc := 51) dX3_takeWord_51 (by decide) ?_
    refine zV_icmp_ge (pc := 53) (tgt := 93) dX3_takeWord_53 (by decide) (by omega) (fun c_53 => ?_) (fun c_53 => absurd (by omega) c_53)
    refine zV_vret (pc := 93) dX3_takeWord_93 trivial ⟨Nat.zero_le _, Nat.zero_le _⟩ ?_
    have en : n = 12 := by omega
    subst en
    exact ⟨rfl, rfl, h1, h2, h3, h4, h5⟩
  | succ k ih =>
    intro n M1 h0 h1 h2 h3 h4 h5
    obtain ⟨hS, h187, h181, hb⟩ := id hC
    have hz := hT.1
    have hC1 := hC.fr ht (h5.mono (fun a j q => zAF_R q))
    have hE := zrn_z (q := fun j => zlt (zbp tp z j)) (z := z) zlt_z 160 p hp.2
    have hE2 := zrn_r (fun j => zlt (zbp tp z j)) 160 p
    refine zV_iload_n (pc := 50) (i := 1) dX3_takeWord_50 rfl rfl ?_
    refine zV_bipush (pc := 51) dX3_takeWord_51 (by decide) ?_
    refine zV_icmp_ge (pc := 53) (tgt := 93) dX3_takeWord_53 (by decide) (by omega) (fun c_53 => absurd c_53 (by omega)) (fun c_53 => ?_)
    refine zV_aload_n (pc := 56) (i := 0) dX3_takeWord_56 rfl rfl ?_
    refine zV_iload_n (pc := 57) (i := 1) dX3_takeWord_57 rfl rfl ?_
    refine zV_isp (pc := 58) dX3_takeWord_58 klX3_105 mX3_spelling rfl ⟨Nat.zero_le _, Nat.zero_le _⟩ (kW3_spelling (by omega)) rfl rfl (Nat.le_of_ble_eq_true rfl) ?_
    refine zV_ivp (pc := 61) (ci := 3) dX3_takeWord_61 klX3_109 mX3_stands ⟨by decide, rfl⟩ rfl ⟨Nat.zero_le _, Nat.zero_le _⟩ (kW3_stands ht hC1 hT (i := n + 1) (by omega) (p := p) (e := zrn (fun j => zlt (zbp tp z j)) 160 p) (by omega) h4 h1) (zOb_of rfl) rfl rfl (Nat.le_of_ble_eq_true rfl) ?_
    refine zV_if_eqb (pc := 64) (tgt := 87) dX3_takeWord_64 (by decide) (fun c_64 => ?_) (fun c_64 => ?_)
    · refine zV_iinc (pc := 87) dX3_takeWord_87 rfl rfl ?_
      try dsimp only [List.set_cons_succ, List.set_cons_zero]
      refine zV_goto (pc := 90) (tgt := 50) dX3_takeWord_90 (by decide) ?_
      first
        | (have f1 : ¬ zwm tp p (zrn (fun j => zlt (zbp tp z j)) 160 p) n := c_64
           exact ih (n + 1) M1 (by omega) h1 (h2.trans (zif_f f1).symm) (h3.imp (fun q => (zif_f f1).trans q) (fun q => q.trans (zif_f f1).symm)) h4 h5)
        | (have f1 : zwm tp p (zrn (fun j => zlt (zbp tp z j)) 160 p) n := c_64
           refine ih (n + 1) _ (by omega) ((zU_j _ _ _ _ (by decide)).trans ((zU_j _ _ _ _ (by decide)).trans h1)) ((zU_j _ _ _ _ (by decide)).trans ((zU_s _ _ _ _).trans (Eq.trans ?_ (zif_t f1).symm))) (Or.inr ((zU_s _ _ _ _).trans (zif_t f1).symm)) ((zU_j _ _ _ _ (by decide)).trans ((zU_j _ _ _ _ (by decide)).trans h4)) ((h5.up (a := 18) (j := 4) ⟨rfl, by decide, by decide⟩).up (a := 18) (j := 5) ⟨rfl, by decide, by decide⟩)
           first
             | exact (if_pos (by omega)).symm
             | exact (if_neg (by omega)).symm)
    · refine zV_aload_n (pc := 67) (i := 0) dX3_takeWord_67 rfl rfl ?_
      refine zV_iload_n (pc := 68) (i := 1) dX3_takeWord_68 rfl rfl ?_
      refine zV_bipush (pc := 69) dX3_takeWord_69 (by decide) ?_
      refine zV_icmp_ge (pc := 71) (tgt := 78) dX3_takeWord_71 (by decide) (by omega) (fun c_71 => ?_) (fun c_71 => ?_)
      · refine zV_iload_n (pc := 78) (i := 1) dX3_takeWord_78 rfl rfl ?_
        refine zV_put (pc := 79) (j := 4) dX3_takeWord_79 flX3_47 rfl (zOb_of rfl) rfl trivial ?_
        refine zV_aload_n (pc := 82) (i := 0) dX3_takeWord_82 rfl rfl ?_
        refine zV_iload_n (pc := 83) (i := 1) dX3_takeWord_83 rfl rfl ?_
        refine zV_put (pc := 84) (j := 5) dX3_takeWord_84 flX3_77 rfl (zOb_of rfl) rfl trivial ?_
        refine zV_iinc (pc := 87) dX3_takeWord_87 rfl rfl ?_
        try dsimp only [List.set_cons_succ, List.set_cons_zero]
        refine zV_goto (pc := 90) (tgt := 50) dX3_takeWord_90 (by decide) ?_
        first
          | (have f1 : ¬ zwm tp p (zrn (fun j => zlt (zbp tp z j)) 160 p) n := c_64
             exact ih (n + 1) M1 (by omega) h1 (h2.trans (zif_f f1).symm) (h3.imp (fun q => (zif_f f1).trans q) (fun q => q.trans (zif_f f1).symm)) h4 h5)
          | (have f1 : zwm tp p (zrn (fun j => zlt (zbp tp z j)) 160 p) n := c_64
             refine ih (n + 1) _ (by omega) ((zU_j _ _ _ _ (by decide)).trans ((zU_j _ _ _ _ (by decide)).trans h1)) ((zU_j _ _ _ _ (by decide)).trans ((zU_s _ _ _ _).trans (Eq.trans ?_ (zif_t f1).symm))) (Or.inr ((zU_s _ _ _ _).trans (zif_t f1).symm)) ((zU_j _ _ _ _ (by decide)).trans ((zU_j _ _ _ _ (by decide)).trans h4)) ((h5.up (a := 18) (j := 4) ⟨rfl, by decide, by decide⟩).up (a := 18) (j := 5) ⟨rfl, by decide, by decide⟩)
             first
               | exact (if_pos (by omega)).symm
               | exact (if_neg (by omega)).symm)
      · refine zV_iconst (pc := 74) dX3_takeWord_74 ?_
        refine zV_goto (pc := 75) (tgt := 79) dX3_takeWord_75 (by decide) ?_
        refine zV_put (pc := 79) (j := 4) dX3_takeWord_79 flX3_47 rfl (zOb_of rfl) rfl trivial ?_
        refine zV_aload_n (pc := 82) (i := 0) dX3_takeWord_82 rfl rfl ?_
        refine zV_iload_n (pc := 83) (i := 1) dX3_takeWord_83 rfl rfl ?_
        refine zV_put (pc := 84) (j := 5) dX3_takeWord_84 flX3_77 rfl (zOb_of rfl) rfl trivial ?_
        refine zV_iinc (pc := 87) dX3_takeWord_87 rfl rfl ?_
        try dsimp only [List.set_cons_succ, List.set_cons_zero]
        refine zV_goto (pc := 90) (tgt := 50) dX3_takeWord_90 (by decide) ?_
        first
          | (have f1 : ¬ zwm tp p (zrn (fun j => zlt (zbp tp z j)) 160 p) n := c_64
             exact ih (n + 1) M1 (by omega) h1 (h2.trans (zif_f f1).symm) (h3.imp (fun q => (zif_f f1).trans q) (fun q => q.trans (zif_f f1).symm)) h4 h5)
          | (have f1 : zwm tp p (zrn (fun j => zlt (zbp tp z j)) 160 p) n := c_64
             refine ih (n + 1) _ (by omega) ((zU_j _ _ _ _ (by decide)).trans ((zU_j _ _ _ _ (by decide)).trans h1)) ((zU_j _ _ _ _ (by decide)).trans ((zU_s _ _ _ _).trans (Eq.trans ?_ (zif_t f1).symm))) (Or.inr ((zU_s _ _ _ _).trans (zif_t f1).symm)) ((zU_j _ _ _ _ (by decide)).trans ((zU_j _ _ _ _ (by decide)).trans h4)) ((h5.up (a := 18) (j := 4) ⟨rfl, by decide, by decide⟩).up (a := 18) (j := 5) ⟨rfl, by decide, by decide⟩)
             first
               | exact (if_pos (by omega)).symm
               | exact (if_neg (by omega)).symm)
set_option maxRecDepth 20000 in
set_option maxHeartbeats 2000000 in
theorem kW3_twL0 {t z : Int} {tp : Int → Int} (ht : 0 ≤ t ∧ t < 6) (hC : zRCw M t tp z) (hT : ztp tp z) {p : Int} (hp : 0 ≤ p ∧ p ≤ z) (h183 : M 18 3 = p) : ∀ (k : Nat) (i x : Int) (M1 : zM), i + k = 160 → 0 ≤ i → M1 18 2 = x → zrn (fun j => zlt (zbp tp z j)) k x = zrn (fun j => zlt (zbp tp z j)) 160 p → M1 18 3 = M 18 3 → zFr zAF M M1 → p ≤ x ∧ x ≤ z → zV g xX3_takeWord (zPn 52 (fun M1 => M1 18 2 = zrn (fun j => zlt (zbp tp z j)) 160 p ∧ M1 18 4 = zwt tp p (zrn (fun j => zlt (zbp tp z j)) 160 p) 12 ∧ (zwt tp p (zrn (fun j => zlt (zbp tp z j)) 160 p) 12 = 1 ∨ M1 18 5 = zwv tp p (zrn (fun j => zlt (zbp tp z j)) 160 p) 12) ∧ M1 18 3 = p ∧ zFr zAF M M1)) 2 [zr 18, zi i] [] 52 M1 0 0 := by
  intro k
  induction k with
  | zero =>
    intro i x M1 h0 h1 h2 h3 h4 h5 h6
    obtain ⟨hS, h187, h181, hb⟩ := id hC
    have hz := hT.1
    have hC1 := hC.fr ht (h5.mono (fun a j q => zAF_R q))
    have hb1 := zbp_r (p := x) hT
    have eX := h3
    refine zV_iload_n (pc := 2) (i := 1) dX3_takeWord_2 rfl rfl ?_
    refine zV_sipush (pc := 3) dX3_takeWord_3 (by decide) ?_
    refine zV_icmp_ge (pc := 6) (tgt := 43) dX3_takeWord_6 (by decide) (by omega) (fun c_6 => ?_) (fun c_6 => absurd (by omega) c_6)
    refine zV_aload_n (pc := 43) (i := 0) dX3_takeWord_43 rfl rfl ?_
    refine zV_iconst (pc := 44) dX3_takeWord_44 ?_
    refine zV_put (pc := 45) (j := 4) dX3_takeWord_45 flX3_47 rfl (zOb_of rfl) rfl trivial ?_
    refine zV_iconst (pc := 48) dX3_takeWord_48 ?_
    refine zV_istore_n (pc := 49) (i := 1) dX3_takeWord_49 rfl rfl ?_
    try dsimp only [List.set_cons_succ, List.set_cons_zero]
    exact kW3_twL ht hC hT hp h183 12 0 _ rfl ((zU_j _ _ _ _ (by decide)).trans (h2.trans eX)) (zU_s _ _ _ _) (Or.inl rfl) ((zU_j _ _ _ _ (by decide)).trans (h4.trans h183)) (h5.up (a := 18) (j := 4) ⟨rfl, by decide, by decide⟩)
  | succ k ih =>
    intro i x M1 h0 h1 h2 h3 h4 h5 h6
    obtain ⟨hS, h187, h181, hb⟩ := id hC
    have hz := hT.1
    have hC1 := hC.fr ht (h5.mono (fun a j q => zAF_R q))
    have hb1 := zbp_r (p := x) hT
    refine zV_iload_n (pc := 2) (i := 1) dX3_takeWord_2 rfl rfl ?_
    refine zV_sipush (pc := 3) dX3_takeWord_3 (by decide) ?_
    refine zV_icmp_ge (pc := 6) (tgt := 43) dX3_takeWord_6 (by decide) (by omega) (fun c_6 => absurd c_6 (by omega)) (fun c_6 => ?_)
    refine zV_aload_n (pc := 9) (i := 0) dX3_takeWord_9 rfl rfl ?_
    refine zV_aload_n (pc := 10) (i := 0) dX3_takeWord_10 rfl rfl ?_
    refine zV_get (pc := 11) (j := 2) dX3_takeWord_11 flX3_28 (zOb_of rfl) rfl h2 ?_
    refine zV_ivp (pc := 14) (ci := 3) dX3_takeWord_14 klX3_80 mX3_byteAt ⟨by decide, rfl⟩ rfl ⟨Nat.zero_le _, Nat.zero_le _⟩ (kW3_byteAt ht hC1 hT (by omega)) (zOb_of rfl) rfl rfl (Nat.le_of_ble_eq_true rfl) ?_
    refine zV_bipush (pc := 17) dX3_takeWord_17 (by decide) ?_
    refine zV_bipush (pc := 19) dX3_takeWord_19 (by decide) ?_
    refine zV_isNp (pc := 21) dX3_takeWord_21 klX3_88 mX9_within rfl ⟨Nat.zero_le _, Nat.zero_le _⟩ (kX9_within (by omega) (by omega) (by omega)) rfl rfl (Nat.le_of_ble_eq_true rfl) ?_
    refine zV_if_eqb (pc := 24) (tgt := 43) dX3_takeWord_24 (by decide) (fun c_24 => ?_) (fun c_24 => ?_)
    · refine zV_aload_n (pc := 43) (i := 0) dX3_takeWord_43 rfl rfl ?_
      refine zV_iconst (pc := 44) dX3_takeWord_44 ?_
      refine zV_put (pc := 45) (j := 4) dX3_takeWord_45 flX3_47 rfl (zOb_of rfl) rfl trivial ?_
      refine zV_iconst (pc := 48) dX3_takeWord_48 ?_
      refine zV_istore_n (pc := 49) (i := 1) dX3_takeWord_49 rfl rfl ?_
      try dsimp only [List.set_cons_succ, List.set_cons_zero]
      have eX := (zrn_0 (q := fun j => zlt (zbp tp z j)) (k := k + 1) c_24).symm.trans h3
      exact kW3_twL ht hC hT hp h183 12 0 _ rfl ((zU_j _ _ _ _ (by decide)).trans (h2.trans eX)) (zU_s _ _ _ _) (Or.inl rfl) ((zU_j _ _ _ _ (by decide)).trans (h4.trans h183)) (h5.up (a := 18) (j := 4) ⟨rfl, by decide, by decide⟩)
    · refine zV_aload_n (pc := 27) (i := 0) dX3_takeWord_27 rfl rfl ?_
      refine zV_dup (pc := 28) dX3_takeWord_28 (by simp) ?_
      refine zV_get (pc := 29) (j := 2) dX3_takeWord_29 flX3_28 (zOb_of rfl) rfl h2 ?_
      refine zV_iconst (pc := 32) dX3_takeWord_32 ?_
      refine zV_iadd (pc := 33) dX3_takeWord_33 ?_
      refine zV_put (pc := 34) (j := 2) dX3_takeWord_34 flX3_28 rfl (zOb_of rfl) rfl trivial ?_
      refine zV_iinc (pc := 37) dX3_takeWord_37 rfl rfl ?_
      try dsimp only [List.set_cons_succ, List.set_cons_zero]
      refine zV_goto (pc := 40) (tgt := 2) dX3_takeWord_40 (by decide) ?_
      have c2 : zlt (zbp tp z x) := c_24
      refine ih (i + 1) (x + 1) _ (by omega) (by omega) (zU_s _ _ _ _) ((zrn_1 (q := fun j => zlt (zbp tp z j)) c2).symm.trans h3) ((zU_j _ _ _ _ (by decide)).trans h4) (h5.up (a := 18) (j := 2) ⟨rfl, by decide, by decide⟩) ⟨by omega, ?_⟩
      by_cases q : z ≤ x
      · exact absurd c2 (zlt_z x q)
      · omega
set_option maxRecDepth 20000 in
set_option maxHeartbeats 2000000 in
theorem kW3_takeWord {t z : Int} {tp : Int → Int} (ht : 0 ≤ t ∧ t < 6) (hC : zRCw M t tp z) (hT : ztp tp z) {p : Int} (hp : 0 ≤ p ∧ p ≤ z) (h183 : M 18 3 = p) (h182 : M 18 2 = p) : zK g yX3_takeWord xX3_takeWord [zr 18] 52 M (zPn 52 (fun M1 => M1 18 2 = zrn (fun j => zlt (zbp tp z j)) 160 p ∧ M1 18 4 = zwt tp p (zrn (fun j => zlt (zbp tp z j)) 160 p) 12 ∧ (zwt tp p (zrn (fun j => zlt (zbp tp z j)) 160 p) 12 = 1 ∨ M1 18 5 = zwv tp p (zrn (fun j => zlt (zbp tp z j)) 160 p) 12) ∧ M1 18 3 = p ∧ zFr zAF M M1)) := by
  refine zK_of (ls0 := [zr 18, (3, 0)]) (by decide) rfl (by decide) rfl (Nat.le_of_ble_eq_true rfl) ?_
  refine zV_iconst (pc := 0) dX3_takeWord_0 ?_
  refine zV_istore_n (pc := 1) (i := 1) dX3_takeWord_1 rfl rfl ?_
  try dsimp only [List.set_cons_succ, List.set_cons_zero]
  exact kW3_twL0 ht hC hT hp h183 160 0 p _ (by omega) (by omega) h182 rfl rfl zFr.rf ⟨by omega, hp.2⟩
end

section
variable {g : zG} {N : Nat} {M : zM}
set_option maxRecDepth 20000 in
set_option maxHeartbeats 2000000 in
theorem kW3_adT {t z : Int} {tp : Int → Int} (ht : 0 ≤ t ∧ t < 6) (hC : zRCw M t tp z) (hT : ztp tp z) {s : zσ} (hat : 0 ≤ s.at ∧ s.at ≤ z) (h182 : M 18 2 = s.at) (h186 : M 18 6 = s.ft) {p i : Int} (hp : zrn (fun j => zbk (zbp tp z j)) 160 s.at = p) (hpz : 0 ≤ p ∧ p ≤ z) {M1 : zM} (h2 : M1 18 2 = p) (hf : zFr zAF M M1) : zV g xX3_advance (zPn 52 (fun M1 => zRd M1 (zadv tp z s) ∧ zFr zAF M M1)) 39 [zr 18, zi i] [] 52 M1 0 0 := by
  obtain ⟨hS, h187, h181, hb⟩ := id (hC.fr ht (hf.mono (fun a j q => zAF_R q)))
  have hC1 := hC.fr ht (hf.mono (fun a j q => zAF_R q))
  have hC2 := hC.fr ht ((hf.up (a := 18) (j := 3) (z := p) ⟨rfl, by decide, by decide⟩).mono (fun a j q => zAF_R q))
  have hz := hT.1
  have hb1 := zbp_r (p := p) hT
  have e6 : M1 18 6 = s.ft := (hf _ _ (by unfold zAF; omega)).trans h186
  have eA : zadv tp z s = ztk tp z p s.ft := by unfold zadv; rw [hp]
  rw [eA]
  refine zV_aload_n (pc := 39) (i := 0) dX3_advance_39 rfl rfl ?_
  refine zV_aload_n (pc := 40) (i := 0) dX3_advance_40 rfl rfl ?_
  refine zV_get (pc := 41) (j := 2) dX3_advance_41 flX3_28 (zOb_of rfl) rfl h2 ?_
  refine zV_put (pc := 44) (j := 3) dX3_advance_44 flX3_53 rfl (zOb_of rfl) rfl trivial ?_
  refine zV_aload_n (pc := 47) (i := 0) dX3_advance_47 rfl rfl ?_
  refine zV_aload_n (pc := 48) (i := 0) dX3_advance_48 rfl rfl ?_
  refine zV_get (pc := 49) (j := 2) dX3_advance_49 flX3_28 (zOb_of rfl) rfl ((zU_j _ _ _ _ (by decide)).trans h2) ?_
  refine zV_ivp (pc := 52) (ci := 3) dX3_advance_52 klX3_80 mX3_byteAt ⟨by decide, rfl⟩ rfl ⟨Nat.zero_le _, Nat.zero_le _⟩ (kW3_byteAt ht hC2 hT (by omega)) (zOb_of rfl) rfl rfl (Nat.le_of_ble_eq_true rfl) ?_
  refine zV_istore_n (pc := 55) (i := 1) dX3_advance_55 rfl rfl ?_
  try dsimp only [List.set_cons_succ, List.set_cons_zero]
  refine zV_iload_n (pc := 56) (i := 1) dX3_advance_56 rfl rfl ?_
  refine zV_iconst (pc := 57) dX3_advance_57 ?_
  refine zV_icmp_ne (pc := 58) (tgt := 69) dX3_advance_58 (by decide) (by omega) (fun c_58 => ?_) (fun c_58 => ?_)
  · refine zV_iload_n (pc := 69) (i := 1) dX3_advance_69 rfl rfl ?_
    refine zV_bipush (pc := 70) dX3_advance_70 (by decide) ?_
    refine zV_bipush (pc := 72) dX3_advance_72 (by decide) ?_
    refine zV_isNp (pc := 74) dX3_advance_74 klX3_88 mX9_within rfl ⟨Nat.zero_le _, Nat.zero_le _⟩ (kX9_within (by omega) (by omega) (by omega)) rfl rfl (Nat.le_of_ble_eq_true rfl) ?_
    refine zV_if_eqb (pc := 77) (tgt := 87) dX3_advance_77 (by decide) (fun c_77 => ?_) (fun c_77 => ?_)
    · refine zV_iload_n (pc := 87) (i := 1) dX3_advance_87 rfl rfl ?_
      refine zV_bipush (pc := 88) dX3_advance_88 (by decide) ?_
      refine zV_bipush (pc := 90) dX3_advance_90 (by decide) ?_
      refine zV_isNp (pc := 92) dX3_advance_92 klX3_88 mX9_within rfl ⟨Nat.zero_le _, Nat.zero_le _⟩ (kX9_within (by omega) (by omega) (by omega)) rfl rfl (Nat.le_of_ble_eq_true rfl) ?_
      refine zV_if_eqb (pc := 95) (tgt := 105) dX3_advance_95 (by decide) (fun c_95 => ?_) (fun c_95 => ?_)
      · refine zV_aload_n (pc := 105) (i := 0) dX3_advance_105 rfl rfl ?_
        refine zV_dup (pc := 106) dX3_advance_106 (by simp) ?_
        refine zV_get (pc := 107) (j := 2) dX3_advance_107 flX3_28 (zOb_of rfl) rfl ((zU_j _ _ _ _ (by decide)).trans h2) ?_
        refine zV_iconst (pc := 110) dX3_advance_110 ?_
        refine zV_iadd (pc := 111) dX3_advance_111 ?_
        refine zV_put (pc := 112) (j := 2) dX3_advance_112 flX3_28 rfl (zOb_of rfl) rfl trivial ?_
        refine zV_aload_n (pc := 115) (i := 0) dX3_advance_115 rfl rfl ?_
        refine zV_ldcS (pc := 116) 13 dX3_advance_116 (by decide) rfl rfl ?_
        refine zV_iload_n (pc := 118) (i := 1) dX3_advance_118 rfl rfl ?_
        refine zV_i2c (pc := 119) dX3_advance_119 (zi2c (by omega)) ?_
        refine zV_ivS (i := 13) (pc := 120) dX3_advance_120 klX3_100 mJ0_indexOf_0f7a4 rfl rfl ⟨Nat.zero_le _, Nat.zero_le _⟩ (kJ0_indexOf (by decide) (by omega)) (by decide) rfl rfl (Nat.le_of_ble_eq_true rfl) ?_
        have hix := zix2_b (i := 13) (x := zbp tp z p) (lenJS.getD 13 0) 0 (by decide)
        have hl8 : lenJS.getD 13 0 = 8 := rfl
        refine zV_if_lt (pc := 123) (tgt := 130) dX3_advance_123 (by decide) (by omega) (fun c_123 => ?_) (fun c_123 => ?_)
        · refine zV_iconst (pc := 130) dX3_advance_130 ?_
          refine zV_put (pc := 131) (j := 4) dX3_advance_131 flX3_47 rfl (zOb_of rfl) rfl trivial ?_
          refine zV_vret (pc := 134) dX3_advance_134 trivial ⟨Nat.zero_le _, Nat.zero_le _⟩ ?_
          unfold ztk
          first
            | (rw [zit_t c_58]
               exact ⟨rfl, rfl, ⟨zU_s _ _ _ _, zno (a := 0) ⟨by decide, by decide⟩, (zU_j _ _ _ _ (by decide)).trans (zU_s _ _ _ _), (zU_j _ _ _ _ (by decide)).trans ((zU_j _ _ _ _ (by decide)).trans h2), (zU_j _ _ _ _ (by decide)).trans ((zU_j _ _ _ _ (by decide)).trans e6)⟩, ((hf.up (a := 18) (j := 3) ⟨rfl, by decide, by decide⟩).up (a := 18) (j := 4) ⟨rfl, by decide, by decide⟩)⟩)
            | (have c1 : zlt (zbp tp z p) := c_77
               rw [zit_f c_58, zit_t c1]
               exact ⟨rfl, rfl, ⟨r2, fun q => r3.resolve_left (fun y => by have q2 : zwt tp p (zrn (fun j => zlt (zbp tp z j)) 160 p) 12 = 2 ∨ zwt tp p (zrn (fun j => zlt (zbp tp z j)) 160 p) 12 = 3 := q; omega), r4, r1, (r5 _ _ (by unfold zAF; omega)).trans ((zU_j _ _ _ _ (by decide)).trans e6)⟩, (hf.up (a := 18) (j := 3) ⟨rfl, by decide, by decide⟩).tr r5⟩)
            | (have c1 : ¬ zlt (zbp tp z p) := c_77
               have c2 : zdg (zbp tp z p) := c_95
               rw [zit_f c_58, zit_f c1, zit_t c2]
               exact ⟨rfl, rfl, ⟨r3, fun _ => r2, r5, r1, (r4 _ _ (by unfold zAF; omega)).trans ((zU_j _ _ _ _ (by decide)).trans e6)⟩, (hf.up (a := 18) (j := 3) ⟨rfl, by decide, by decide⟩).tr r4⟩)
            | (have c1 : ¬ zlt (zbp tp z p) := c_77
               have c2 : ¬ zdg (zbp tp z p) := c_95
               rw [zit_f c_58, zit_f c1, zit_f c2]
               rw [hl8] at c_123 hix
               refine ⟨rfl, rfl, ⟨(zU_s _ _ _ _).trans ?_, fun q => ?_, (zU_j _ _ _ _ (by decide)).trans ((zU_j _ _ _ _ (by decide)).trans (zU_s _ _ _ _)), (zU_j _ _ _ _ (by decide)).trans (zU_s _ _ _ _), (zU_j _ _ _ _ (by decide)).trans ((zU_j _ _ _ _ (by decide)).trans ((zU_j _ _ _ _ (by decide)).trans e6))⟩, (((hf.up (a := 18) (j := 3) ⟨rfl, by decide, by decide⟩).up (a := 18) (j := 2) ⟨rfl, by decide, by decide⟩).up (a := 18) (j := 4) ⟨rfl, by decide, by decide⟩)⟩
               · first
                   | exact (if_pos (by omega)).symm
                   | exact (if_neg (by omega)).symm
               · exfalso
                 have q2 : (if 0 ≤ zix2 13 (zbp tp z p) 0 8 then zbp tp z p else 1) = 2 ∨ (if 0 ≤ zix2 13 (zbp tp z p) 0 8 then zbp tp z p else 1) = 3 := q
                 by_cases d : 0 ≤ zix2 13 (zbp tp z p) 0 8
                 · rw [if_pos d] at q2
                   have := zix2_0 d
                   omega
                 · rw [if_neg d] at q2
                   omega)
        · refine zV_iload_n (pc := 126) (i := 1) dX3_advance_126 rfl rfl ?_
          refine zV_goto (pc := 127) (tgt := 131) dX3_advance_127 (by decide) ?_
          refine zV_put (pc := 131) (j := 4) dX3_advance_131 flX3_47 rfl (zOb_of rfl) rfl trivial ?_
          refine zV_vret (pc := 134) dX3_advance_134 trivial ⟨Nat.zero_le _, Nat.zero_le _⟩ ?_
          unfold ztk
          first
            | (rw [zit_t c_58]
               exact ⟨rfl, rfl, ⟨zU_s _ _ _ _, zno (a := 0) ⟨by decide, by decide⟩, (zU_j _ _ _ _ (by decide)).trans (zU_s _ _ _ _), (zU_j _ _ _ _ (by decide)).trans ((zU_j _ _ _ _ (by decide)).trans h2), (zU_j _ _ _ _ (by decide)).trans ((zU_j _ _ _ _ (by decide)).trans e6)⟩, ((hf.up (a := 18) (j := 3) ⟨rfl, by decide, by decide⟩).up (a := 18) (j := 4) ⟨rfl, by decide, by decide⟩)⟩)
            | (have c1 : zlt (zbp tp z p) := c_77
               rw [zit_f c_58, zit_t c1]
               exact ⟨rfl, rfl, ⟨r2, fun q => r3.resolve_left (fun y => by have q2 : zwt tp p (zrn (fun j => zlt (zbp tp z j)) 160 p) 12 = 2 ∨ zwt tp p (zrn (fun j => zlt (zbp tp z j)) 160 p) 12 = 3 := q; omega), r4, r1, (r5 _ _ (by unfold zAF; omega)).trans ((zU_j _ _ _ _ (by decide)).trans e6)⟩, (hf.up (a := 18) (j := 3) ⟨rfl, by decide, by decide⟩).tr r5⟩)
            | (have c1 : ¬ zlt (zbp tp z p) := c_77
               have c2 : zdg (zbp tp z p) := c_95
               rw [zit_f c_58, zit_f c1, zit_t c2]
               exact ⟨rfl, rfl, ⟨r3, fun _ => r2, r5, r1, (r4 _ _ (by unfold zAF; omega)).trans ((zU_j _ _ _ _ (by decide)).trans e6)⟩, (hf.up (a := 18) (j := 3) ⟨rfl, by decide, by decide⟩).tr r4⟩)
            | (have c1 : ¬ zlt (zbp tp z p) := c_77
               have c2 : ¬ zdg (zbp tp z p) := c_95
               rw [zit_f c_58, zit_f c1, zit_f c2]
               rw [hl8] at c_123 hix
               refine ⟨rfl, rfl, ⟨(zU_s _ _ _ _).trans ?_, fun q => ?_, (zU_j _ _ _ _ (by decide)).trans ((zU_j _ _ _ _ (by decide)).trans (zU_s _ _ _ _)), (zU_j _ _ _ _ (by decide)).trans (zU_s _ _ _ _), (zU_j _ _ _ _ (by decide)).trans ((zU_j _ _ _ _ (by decide)).trans ((zU_j _ _ _ _ (by decide)).trans e6))⟩, (((hf.up (a := 18) (j := 3) ⟨rfl, by decide, by decide⟩).up (a := 18) (j := 2) ⟨rfl, by decide, by decide⟩).up (a := 18) (j := 4) ⟨rfl, by decide, by decide⟩)⟩
               · first
                   | exact (if_pos (by omega)).symm
                   | exact (if_neg (by omega)).symm
               · exfalso
                 have q2 : (if 0 ≤ zix2 13 (zbp tp z p) 0 8 then zbp tp z p else 1) = 2 ∨ (if 0 ≤ zix2 13 (zbp tp z p) 0 8 then zbp tp z p else 1) = 3 := q
                 by_cases d : 0 ≤ zix2 13 (zbp tp z p) 0 8
                 · rw [if_pos d] at q2
                   have := zix2_0 d
                   omega
                 · rw [if_neg d] at q2
                   omega)
      · refine zV_aload_n (pc := 98) (i := 0) dX3_advance_98 rfl rfl ?_
        refine zV_ivn (pc := 99) (ci := 3) dX3_advance_99 klX3_95 mX3_takeNumeral ⟨by decide, rfl⟩ rfl ⟨Nat.zero_le _, Nat.zero_le _⟩ (kW3_takeNumeral ht hC2 hT (p := p) (by omega) (zU_s _ _ _ _) ((zU_j _ _ _ _ (by decide)).trans h2)) (zOb_of rfl) rfl rfl (Nat.le_of_ble_eq_true rfl) (fun M2 q2 => ?_)
        obtain ⟨r1, r2, r3, r5, r4⟩ := q2
        refine zV_goto (pc := 102) (tgt := 134) dX3_advance_102 (by decide) ?_
        refine zV_vret (pc := 134) dX3_advance_134 trivial ⟨Nat.zero_le _, Nat.zero_le _⟩ ?_
        unfold ztk
        first
          | (rw [zit_t c_58]
             exact ⟨rfl, rfl, ⟨zU_s _ _ _ _, zno (a := 0) ⟨by decide, by decide⟩, (zU_j _ _ _ _ (by decide)).trans (zU_s _ _ _ _), (zU_j _ _ _ _ (by decide)).trans ((zU_j _ _ _ _ (by decide)).trans h2), (zU_j _ _ _ _ (by decide)).trans ((zU_j _ _ _ _ (by decide)).trans e6)⟩, ((hf.up (a := 18) (j := 3) ⟨rfl, by decide, by decide⟩).up (a := 18) (j := 4) ⟨rfl, by decide, by decide⟩)⟩)
          | (have c1 : zlt (zbp tp z p) := c_77
             rw [zit_f c_58, zit_t c1]
             exact ⟨rfl, rfl, ⟨r2, fun q => r3.resolve_left (fun y => by have q2 : zwt tp p (zrn (fun j => zlt (zbp tp z j)) 160 p) 12 = 2 ∨ zwt tp p (zrn (fun j => zlt (zbp tp z j)) 160 p) 12 = 3 := q; omega), r4, r1, (r5 _ _ (by unfold zAF; omega)).trans ((zU_j _ _ _ _ (by decide)).trans e6)⟩, (hf.up (a := 18) (j := 3) ⟨rfl, by decide, by decide⟩).tr r5⟩)
          | (have c1 : ¬ zlt (zbp tp z p) := c_77
             have c2 : zdg (zbp tp z p) := c_95
             rw [zit_f c_58, zit_f c1, zit_t c2]
             exact ⟨rfl, rfl, ⟨r3, fun _ => r2, r5, r1, (r4 _ _ (by unfold zAF; omega)).trans ((zU_j _ _ _ _ (by decide)).trans e6)⟩, (hf.up (a := 18) (j := 3) ⟨rfl, by decide, by decide⟩).tr r4⟩)
          | (have c1 : ¬ zlt (zbp tp z p) := c_77
             have c2 : ¬ zdg (zbp tp z p) := c_95
             rw [zit_f c_58, zit_f c1, zit_f c2]
             rw [hl8] at c_123 hix
             refine ⟨rfl, rfl, ⟨(zU_s _ _ _ _).trans ?_, fun q => ?_, (zU_j _ _ _ _ (by decide)).trans ((zU_j _ _ _ _ (by decide)).trans (zU_s _ _ _ _)), (zU_j _ _ _ _ (by decide)).trans (zU_s _ _ _ _), (zU_j _ _ _ _ (by decide)).trans ((zU_j _ _ _ _ (by decide)).trans ((zU_j _ _ _ _ (by decide)).trans e6))⟩, (((hf.up (a := 18) (j := 3) ⟨rfl, by decide, by decide⟩).up (a := 18) (j := 2) ⟨rfl, by decide, by decide⟩).up (a := 18) (j := 4) ⟨rfl, by decide, by decide⟩)⟩
             · first
                 | exact (if_pos (by omega)).symm
                 | exact (if_neg (by omega)).symm
             · exfalso
               have q2 : (if 0 ≤ zix2 13 (zbp tp z p) 0 8 then zbp tp z p else 1) = 2 ∨ (if 0 ≤ zix2 13 (zbp tp z p) 0 8 then zbp tp z p else 1) = 3 := q
               by_cases d : 0 ≤ zix2 13 (zbp tp z p) 0 8
               · rw [if_pos d] at q2
                 have := zix2_0 d
                 omega
               · rw [if_neg d] at q2
                 omega)
    · refine zV_aload_n (pc := 80) (i := 0) dX3_advance_80 rfl rfl ?_
      refine zV_ivn (pc := 81) (ci := 3) dX3_advance_81 klX3_92 mX3_takeWord ⟨by decide, rfl⟩ rfl ⟨Nat.zero_le _, Nat.zero_le _⟩ (kW3_takeWord ht hC2 hT (p := p) (by omega) (zU_s _ _ _ _) ((zU_j _ _ _ _ (by decide)).trans h2)) (zOb_of rfl) rfl rfl (Nat.le_of_ble_eq_true rfl) (fun M2 q2 => ?_)
      obtain ⟨r1, r2, r3, r4, r5⟩ := q2
      refine zV_goto (pc := 84) (tgt := 134) dX3_advance_84 (by decide) ?_
      refine zV_vret (pc := 134) dX3_advance_134 trivial ⟨Nat.zero_le _, Nat.zero_le _⟩ ?_
      unfold ztk
      first
        | (rw [zit_t c_58]
           exact ⟨rfl, rfl, ⟨zU_s _ _ _ _, zno (a := 0) ⟨by decide, by decide⟩, (zU_j _ _ _ _ (by decide)).trans (zU_s _ _ _ _), (zU_j _ _ _ _ (by decide)).trans ((zU_j _ _ _ _ (by decide)).trans h2), (zU_j _ _ _ _ (by decide)).trans ((zU_j _ _ _ _ (by decide)).trans e6)⟩, ((hf.up (a := 18) (j := 3) ⟨rfl, by decide, by decide⟩).up (a := 18) (j := 4) ⟨rfl, by decide, by decide⟩)⟩)
        | (have c1 : zlt (zbp tp z p) := c_77
           rw [zit_f c_58, zit_t c1]
           exact ⟨rfl, rfl, ⟨r2, fun q => r3.resolve_left (fun y => by have q2 : zwt tp p (zrn (fun j => zlt (zbp tp z j)) 160 p) 12 = 2 ∨ zwt tp p (zrn (fun j => zlt (zbp tp z j)) 160 p) 12 = 3 := q; omega), r4, r1, (r5 _ _ (by unfold zAF; omega)).trans ((zU_j _ _ _ _ (by decide)).trans e6)⟩, (hf.up (a := 18) (j := 3) ⟨rfl, by decide, by decide⟩).tr r5⟩)
        | (have c1 : ¬ zlt (zbp tp z p) := c_77
           have c2 : zdg (zbp tp z p) := c_95
           rw [zit_f c_58, zit_f c1, zit_t c2]
           exact ⟨rfl, rfl, ⟨r3, fun _ => r2, r5, r1, (r4 _ _ (by unfold zAF; omega)).trans ((zU_j _ _ _ _ (by decide)).trans e6)⟩, (hf.up (a := 18) (j := 3) ⟨rfl, by decide, by decide⟩).tr r4⟩)
        | (have c1 : ¬ zlt (zbp tp z p) := c_77
           have c2 : ¬ zdg (zbp tp z p) := c_95
           rw [zit_f c_58, zit_f c1, zit_f c2]
           rw [hl8] at c_123 hix
           refine ⟨rfl, rfl, ⟨(zU_s _ _ _ _).trans ?_, fun q => ?_, (zU_j _ _ _ _ (by decide)).trans ((zU_j _ _ _ _ (by decide)).trans (zU_s _ _ _ _)), (zU_j _ _ _ _ (by decide)).trans (zU_s _ _ _ _), (zU_j _ _ _ _ (by decide)).trans ((zU_j _ _ _ _ (by decide)).trans ((zU_j _ _ _ _ (by decide)).trans e6))⟩, (((hf.up (a := 18) (j := 3) ⟨rfl, by decide, by decide⟩).up (a := 18) (j := 2) ⟨rfl, by decide, by decide⟩).up (a := 18) (j := 4) ⟨rfl, by decide, by decide⟩)⟩
           · first
               | exact (if_pos (by omega)).symm
               | exact (if_neg (by omega)).symm
           · exfalso
             have q2 : (if 0 ≤ zix2 13 (zbp tp z p) 0 8 then zbp tp z p else 1) = 2 ∨ (if 0 ≤ zix2 13 (zbp tp z p) 0 8 then zbp tp z p else 1) = 3 := q
             by_cases d : 0 ≤ zix2 13 (zbp tp z p) 0 8
             · rw [if_pos d] at q2
               have := zix2_0 d
               omega
             · rw [if_neg d] at q2
               omega)
  · refine zV_aload_n (pc := 61) (i := 0) dX3_advance_61 rfl rfl ?_
    refine zV_iconst (pc := 62) dX3_advance_62 ?_
    refine zV_put (pc := 63) (j := 4) dX3_advance_63 flX3_47 rfl (zOb_of rfl) rfl trivial ?_
    refine zV_goto (pc := 66) (tgt := 134) dX3_advance_66 (by decide) ?_
    refine zV_vret (pc := 134) dX3_advance_134 trivial ⟨Nat.zero_le _, Nat.zero_le _⟩ ?_
    unfold ztk
    first
      | (rw [zit_t c_58]
         exact ⟨rfl, rfl, ⟨zU_s _ _ _ _, zno (a := 0) ⟨by decide, by decide⟩, (zU_j _ _ _ _ (by decide)).trans (zU_s _ _ _ _), (zU_j _ _ _ _ (by decide)).trans ((zU_j _ _ _ _ (by decide)).trans h2), (zU_j _ _ _ _ (by decide)).trans ((zU_j _ _ _ _ (by decide)).trans e6)⟩, ((hf.up (a := 18) (j := 3) ⟨rfl, by decide, by decide⟩).up (a := 18) (j := 4) ⟨rfl, by decide, by decide⟩)⟩)
      | (have c1 : zlt (zbp tp z p) := c_77
         rw [zit_f c_58, zit_t c1]
         exact ⟨rfl, rfl, ⟨r2, fun q => r3.resolve_left (fun y => by have q2 : zwt tp p (zrn (fun j => zlt (zbp tp z j)) 160 p) 12 = 2 ∨ zwt tp p (zrn (fun j => zlt (zbp tp z j)) 160 p) 12 = 3 := q; omega), r4, r1, (r5 _ _ (by unfold zAF; omega)).trans ((zU_j _ _ _ _ (by decide)).trans e6)⟩, (hf.up (a := 18) (j := 3) ⟨rfl, by decide, by decide⟩).tr r5⟩)
      | (have c1 : ¬ zlt (zbp tp z p) := c_77
         have c2 : zdg (zbp tp z p) := c_95
         rw [zit_f c_58, zit_f c1, zit_t c2]
         exact ⟨rfl, rfl, ⟨r3, fun _ => r2, r5, r1, (r4 _ _ (by unfold zAF; omega)).trans ((zU_j _ _ _ _ (by decide)).trans e6)⟩, (hf.up (a := 18) (j := 3) ⟨rfl, by decide, by decide⟩).tr r4⟩)
      | (have c1 : ¬ zlt (zbp tp z p) := c_77
         have c2 : ¬ zdg (zbp tp z p) := c_95
         rw [zit_f c_58, zit_f c1, zit_f c2]
         rw [hl8] at c_123 hix
         refine ⟨rfl, rfl, ⟨(zU_s _ _ _ _).trans ?_, fun q => ?_, (zU_j _ _ _ _ (by decide)).trans ((zU_j _ _ _ _ (by decide)).trans (zU_s _ _ _ _)), (zU_j _ _ _ _ (by decide)).trans (zU_s _ _ _ _), (zU_j _ _ _ _ (by decide)).trans ((zU_j _ _ _ _ (by decide)).trans ((zU_j _ _ _ _ (by decide)).trans e6))⟩, (((hf.up (a := 18) (j := 3) ⟨rfl, by decide, by decide⟩).up (a := 18) (j := 2) ⟨rfl, by decide, by decide⟩).up (a := 18) (j := 4) ⟨rfl, by decide, by decide⟩)⟩
         · first
             | exact (if_pos (by omega)).symm
             | exact (if_neg (by omega)).symm
         · exfalso
           have q2 : (if 0 ≤ zix2 13 (zbp tp z p) 0 8 then zbp tp z p else 1) = 2 ∨ (if 0 ≤ zix2 13 (zbp tp z p) 0 8 then zbp tp z p else 1) = 3 := q
           by_cases d : 0 ≤ zix2 13 (zbp tp z p) 0 8
           · rw [if_pos d] at q2
             have := zix2_0 d
             omega
           · rw [if_neg d] at q2
             omega)
set_option maxRecDepth 20000 in
set_option maxHeartbeats 2000000 in
theorem kW3_adL {t z : Int} {tp : Int → Int} (ht : 0 ≤ t ∧ t < 6) (hC : zRCw M t tp z) (hT : ztp tp z) {s : zσ} (hat : 0 ≤ s.at ∧ s.at ≤ z) (h182 : M 18 2 = s.at) (h186 : M 18 6 = s.ft) : ∀ (k : Nat) (i x : Int) (M1 : zM), i + k = 160 → 0 ≤ i → M1 18 2 = x → zrn (fun j => zbk (zbp tp z j)) k x = zrn (fun j => zbk (zbp tp z j)) 160 s.at → zFr zAF M M1 → 0 ≤ x ∧ x ≤ z → zV g xX3_advance (zPn 52 (fun M1 => zRd M1 (zadv tp z s) ∧ zFr zAF M M1)) 2 [zr 18, zi i] [] 52 M1 0 0 := by
  intro k
  induction k with
  | zero =>
    intro i x M1 h0 h1 h2 h3 h4 h5
    obtain ⟨hS, h187, h181, hb⟩ := id hC
    have hz := hT.1
    have hC1 := hC.fr ht (h4.mono (fun a j q => zAF_R q))
    have hb1 := zbp_r (p := x) hT
    have eX : x = zrn (fun j => zbk (zbp tp z j)) 160 s.at := h3
    refine zV_iload_n (pc := 2) (i := 1) dX3_advance_2 rfl rfl ?_
    refine zV_sipush (pc := 3) dX3_advance_3 (by decide) ?_
    refine zV_icmp_ge (pc := 6) (tgt := 39) dX3_advance_6 (by decide) (by omega) (fun c_6 => ?_) (fun c_6 => absurd (by omega) c_6)
    exact kW3_adT ht hC hT hat h182 h186 eX.symm (by omega) h2 h4
  | succ k ih =>
    intro i x M1 h0 h1 h2 h3 h4 h5
    obtain ⟨hS, h187, h181, hb⟩ := id hC
    have hz := hT.1
    have hC1 := hC.fr ht (h4.mono (fun a j q => zAF_R q))
    have hb1 := zbp_r (p := x) hT
    refine zV_iload_n (pc := 2) (i := 1) dX3_advance_2 rfl rfl ?_
    refine zV_sipush (pc := 3) dX3_advance_3 (by decide) ?_
    refine zV_icmp_ge (pc := 6) (tgt := 39) dX3_advance_6 (by decide) (by omega) (fun c_6 => absurd c_6 (by omega)) (fun c_6 => ?_)
    refine zV_aload_n (pc := 9) (i := 0) dX3_advance_9 rfl rfl ?_
    refine zV_aload_n (pc := 10) (i := 0) dX3_advance_10 rfl rfl ?_
    refine zV_get (pc := 11) (j := 2) dX3_advance_11 flX3_28 (zOb_of rfl) rfl h2 ?_
    refine zV_ivp (pc := 14) (ci := 3) dX3_advance_14 klX3_80 mX3_byteAt ⟨by decide, rfl⟩ rfl ⟨Nat.zero_le _, Nat.zero_le _⟩ (kW3_byteAt ht hC1 hT (by omega)) (zOb_of rfl) rfl rfl (Nat.le_of_ble_eq_true rfl) ?_
    refine zV_isp (pc := 17) dX3_advance_17 klX3_84 mX3_isBlank rfl ⟨Nat.zero_le _, Nat.zero_le _⟩ (kX3_isBlank (by omega)) rfl rfl (Nat.le_of_ble_eq_true rfl) ?_
    refine zV_if_eqb (pc := 20) (tgt := 39) dX3_advance_20 (by decide) (fun c_20 => ?_) (fun c_20 => ?_)
    · have eX : x = zrn (fun j => zbk (zbp tp z j)) 160 s.at := (zrn_0 (q := fun j => zbk (zbp tp z j)) (k := k + 1) c_20).symm.trans h3
      exact kW3_adT ht hC hT hat h182 h186 eX.symm (by omega) h2 h4
    · refine zV_aload_n (pc := 23) (i := 0) dX3_advance_23 rfl rfl ?_
      refine zV_dup (pc := 24) dX3_advance_24 (by simp) ?_
      refine zV_get (pc := 25) (j := 2) dX3_advance_25 flX3_28 (zOb_of rfl) rfl h2 ?_
      refine zV_iconst (pc := 28) dX3_advance_28 ?_
      refine zV_iadd (pc := 29) dX3_advance_29 ?_
      refine zV_put (pc := 30) (j := 2) dX3_advance_30 flX3_28 rfl (zOb_of rfl) rfl trivial ?_
      refine zV_iinc (pc := 33) dX3_advance_33 rfl rfl ?_
      try dsimp only [List.set_cons_succ, List.set_cons_zero]
      refine zV_goto (pc := 36) (tgt := 2) dX3_advance_36 (by decide) ?_
      have c2 : zbk (zbp tp z x) := c_20
      refine ih (i + 1) (x + 1) _ (by omega) (by omega) (zU_s _ _ _ _) ((zrn_1 (q := fun j => zbk (zbp tp z j)) c2).symm.trans h3) (h4.up (a := 18) (j := 2) ⟨rfl, by decide, by decide⟩) ⟨by omega, ?_⟩
      by_cases q : z ≤ x
      · exact absurd c2 (zbk_z x q)
      · omega
set_option maxRecDepth 20000 in
set_option maxHeartbeats 2000000 in
theorem kW3_advance {t z : Int} {tp : Int → Int} (ht : 0 ≤ t ∧ t < 6) (hC : zRCw M t tp z) (hT : ztp tp z) {s : zσ} (hat : 0 ≤ s.at ∧ s.at ≤ z) (h182 : M 18 2 = s.at) (h186 : M 18 6 = s.ft) : zK g yX3_advance xX3_advance [zr 18] 52 M (zPn 52 (fun M1 => zRd M1 (zadv tp z s) ∧ zFr zAF M M1)) := by
  refine zK_of (ls0 := [zr 18, (3, 0)]) (by decide) rfl (by decide) rfl (Nat.le_of_ble_eq_true rfl) ?_
  refine zV_iconst (pc := 0) dX3_advance_0 ?_
  refine zV_istore_n (pc := 1) (i := 1) dX3_advance_1 rfl rfl ?_
  try dsimp only [List.set_cons_succ, List.set_cons_zero]
  exact kW3_adL ht hC hT hat h182 h186 160 0 s.at _ (by omega) (by omega) h182 rfl zFr.rf hat
set_option maxRecDepth 20000 in
set_option maxHeartbeats 2000000 in
theorem kW3_fail {t z : Int} {tp : Int → Int} (ht : 0 ≤ t ∧ t < 6) (hC : zRCw M t tp z) (hT : ztp tp z) {s : zσ} (hr : zRd M s) (ho : zσo z s) : zK g yX3_fail xX3_fail [zr 18] 52 M (zPn 52 (fun M1 => zRd M1 (zfl s) ∧ zFr zBF M M1)) := by
  refine zK_of (ls0 := [zr 18]) (by decide) rfl (by decide) rfl (Nat.le_of_ble_eq_true rfl) ?_
  obtain ⟨hS, h187, h181, hb⟩ := id hC
  have hz := hT.1
  obtain ⟨e4, e5, e3, e2, e6⟩ := id hr
  have hs6 := ho.2.2.2.2.2
  refine zV_aload_n (pc := 0) (i := 0) dX3_fail_0 rfl rfl ?_
  refine zV_get (pc := 1) (j := 6) dX3_fail_1 flX3_31 (zOb_of rfl) rfl e6 ?_
  refine zV_iconst (pc := 4) dX3_fail_4 ?_
  refine zV_icmp_ne (pc := 5) (tgt := 16) dX3_fail_5 (by decide) (by omega) (fun c_5 => ?_) (fun c_5 => ?_)
  · refine zV_aload_n (pc := 16) (i := 0) dX3_fail_16 rfl rfl ?_
    refine zV_iconst (pc := 17) dX3_fail_17 ?_
    refine zV_put (pc := 18) (j := 4) dX3_fail_18 flX3_47 rfl (zOb_of rfl) rfl trivial ?_
    refine zV_vret (pc := 21) dX3_fail_21 trivial ⟨Nat.zero_le _, Nat.zero_le _⟩ ?_
    first
      | exact ⟨rfl, rfl, ⟨zU_s _ _ _ _, zno (a := 1) ⟨by decide, by decide⟩, (zU_j _ _ _ _ (by decide)).trans ((zU_j _ _ _ _ (by decide)).trans e3), (zU_j _ _ _ _ (by decide)).trans ((zU_j _ _ _ _ (by decide)).trans e2), (zU_j _ _ _ _ (by decide)).trans ((zU_s _ _ _ _).trans (if_pos c_5).symm)⟩, ((zFr.rf.up (a := 18) (j := 6) ⟨rfl, by decide, by decide⟩).up (a := 18) (j := 4) ⟨rfl, by decide, by decide⟩)⟩
      | exact ⟨rfl, rfl, ⟨zU_s _ _ _ _, zno (a := 1) ⟨by decide, by decide⟩, (zU_j _ _ _ _ (by decide)).trans e3, (zU_j _ _ _ _ (by decide)).trans e2, (zU_j _ _ _ _ (by decide)).trans (e6.trans (if_neg c_5).symm)⟩, (zFr.rf.up (a := 18) (j := 4) ⟨rfl, by decide, by decide⟩)⟩
  · refine zV_aload_n (pc := 8) (i := 0) dX3_fail_8 rfl rfl ?_
    refine zV_aload_n (pc := 9) (i := 0) dX3_fail_9 rfl rfl ?_
    refine zV_get (pc := 10) (j := 3) dX3_fail_10 flX3_53 (zOb_of rfl) rfl e3 ?_
    refine zV_put (pc := 13) (j := 6) dX3_fail_13 flX3_31 rfl (zOb_of rfl) rfl trivial ?_
    refine zV_aload_n (pc := 16) (i := 0) dX3_fail_16 rfl rfl ?_
    refine zV_iconst (pc := 17) dX3_fail_17 ?_
    refine zV_put (pc := 18) (j := 4) dX3_fail_18 flX3_47 rfl (zOb_of rfl) rfl trivial ?_
    refine zV_vret (pc := 21) dX3_fail_21 trivial ⟨Nat.zero_le _, Nat.zero_le _⟩ ?_
    first
      | exact ⟨rfl, rfl, ⟨zU_s _ _ _ _, zno (a := 1) ⟨by decide, by decide⟩, (zU_j _ _ _ _ (by decide)).trans ((zU_j _ _ _ _ (by decide)).trans e3), (zU_j _ _ _ _ (by decide)).trans ((zU_j _ _ _ _ (by decide)).trans e2), (zU_j _ _ _ _ (by decide)).trans ((zU_s _ _ _ _).trans (if_pos c_5).symm)⟩, ((zFr.rf.up (a := 18) (j := 6) ⟨rfl, by decide, by decide⟩).up (a := 18) (j := 4) ⟨rfl, by decide, by decide⟩)⟩
      | exact ⟨rfl, rfl, ⟨zU_s _ _ _ _, zno (a := 1) ⟨by decide, by decide⟩, (zU_j _ _ _ _ (by decide)).trans e3, (zU_j _ _ _ _ (by decide)).trans e2, (zU_j _ _ _ _ (by decide)).trans (e6.trans (if_neg c_5).symm)⟩, (zFr.rf.up (a := 18) (j := 4) ⟨rfl, by decide, by decide⟩)⟩
set_option maxRecDepth 20000 in
set_option maxHeartbeats 2000000 in
theorem kW3_need {t z : Int} {tp : Int → Int} (ht : 0 ≤ t ∧ t < 6) (hC : zRCw M t tp z) (hT : ztp tp z) {s : zσ} (hr : zRd M s) (ho : zσo z s) {k : Int} (hk : 0 ≤ k ∧ k ≤ 255) (hk1 : k ≠ 1) : zK g yX3_need xX3_need [zr 18, zi k] 52 M (zPn 52 (fun M1 => zRd M1 (znd tp z k s) ∧ zFr zBF M M1)) := by
  refine zK_of (ls0 := [zr 18, zi k]) (by decide) rfl (by decide) rfl (Nat.le_of_ble_eq_true rfl) ?_
  obtain ⟨hS, h187, h181, hb⟩ := id hC
  have hz := hT.1
  obtain ⟨e4, e5, e3, e2, e6⟩ := id hr
  have hs6 := ho.2.2.2.2.2
  refine zV_aload_n (pc := 0) (i := 0) dX3_need_0 rfl rfl ?_
  refine zV_get (pc := 1) (j := 4) dX3_need_1 flX3_47 (zOb_of rfl) rfl e4 ?_
  refine zV_iload_n (pc := 4) (i := 1) dX3_need_4 rfl rfl ?_
  refine zV_icmp_ne (pc := 5) (tgt := 15) dX3_need_5 (by decide) (by have := ho.2.2.2.2.1; omega) (fun c_5 => ?_) (fun c_5 => ?_)
  · refine zV_aload_n (pc := 15) (i := 0) dX3_need_15 rfl rfl ?_
    refine zV_ivn (pc := 16) (ci := 3) dX3_need_16 klX3_50 mX3_fail ⟨by decide, rfl⟩ rfl ⟨Nat.zero_le _, Nat.zero_le _⟩ (kW3_fail ht hC hT hr ho) (zOb_of rfl) rfl rfl (Nat.le_of_ble_eq_true rfl) (fun M1 q => ?_)
    refine zV_vret (pc := 19) dX3_need_19 trivial ⟨Nat.zero_le _, Nat.zero_le _⟩ ?_
    unfold znd
    first
      | (rw [if_pos c_5]; exact ⟨rfl, rfl, q.1, q.2.mono (fun a j y => zAF_B y)⟩)
      | (rw [if_neg c_5]; exact ⟨rfl, rfl, q⟩)
  · refine zV_aload_n (pc := 8) (i := 0) dX3_need_8 rfl rfl ?_
    refine zV_ivn (pc := 9) (ci := 3) dX3_need_9 klX3_34 mX3_advance ⟨by decide, rfl⟩ rfl ⟨Nat.zero_le _, Nat.zero_le _⟩ (kW3_advance ht hC hT (s := s) (by have := ho.1; omega) e2 e6) (zOb_of rfl) rfl rfl (Nat.le_of_ble_eq_true rfl) (fun M1 q => ?_)
    refine zV_goto (pc := 12) (tgt := 19) dX3_need_12 (by decide) ?_
    refine zV_vret (pc := 19) dX3_need_19 trivial ⟨Nat.zero_le _, Nat.zero_le _⟩ ?_
    unfold znd
    first
      | (rw [if_pos c_5]; exact ⟨rfl, rfl, q.1, q.2.mono (fun a j y => zAF_B y)⟩)
      | (rw [if_neg c_5]; exact ⟨rfl, rfl, q⟩)
set_option maxRecDepth 20000 in
set_option maxHeartbeats 2000000 in
theorem kW7_add {t : Int} (ht : 0 ≤ t ∧ t < 6) (hS : zSw M) {L : List Int} (hL : zTl M t L) (hl : L.length < 160) {x : Int} : zK g yX7_add xX7_add [zr (26 + 3 * t), zi x] 52 M (zPn 52 (fun M1 => zTl M1 t (L ++ [x]) ∧ zFr (zTF t) M M1)) := by
  refine zK_of (ls0 := [zr (26 + 3 * t), zi x]) (by decide) rfl (by decide) rfl (Nat.le_of_ble_eq_true rfl) ?_
  refine zV_aload_n (pc := 0) (i := 0) dX7_add_0 rfl rfl ?_
  refine zV_get (pc := 1) (j := 2) dX7_add_1 flX7_18 (zOb_txw ht) rfl hL.1 ?_
  refine zV_aload_n (pc := 4) (i := 0) dX7_add_4 rfl rfl ?_
  refine zV_get (pc := 5) (j := 0) dX7_add_5 flX7_9 (zOb_txw ht) rfl (hS.tss ht) ?_
  refine zV_alen (pc := 8) dX7_add_8 (zAr_tsw ht) ?_
  refine zV_icmp_ge (pc := 9) (tgt := 32) dX7_add_9 (by decide) (by omega) (fun c_9 => absurd c_9 (by omega)) (fun c_9 => ?_)
  refine zV_aload_n (pc := 12) (i := 0) dX7_add_12 rfl rfl ?_
  refine zV_get (pc := 13) (j := 0) dX7_add_13 flX7_9 (zOb_txw ht) rfl (hS.tss ht) ?_
  refine zV_aload_n (pc := 16) (i := 0) dX7_add_16 rfl rfl ?_
  refine zV_get (pc := 17) (j := 2) dX7_add_17 flX7_18 (zOb_txw ht) rfl hL.1 ?_
  refine zV_iload_n (pc := 20) (i := 1) dX7_add_20 rfl rfl ?_
  refine zV_iast (pc := 21) dX7_add_21 (zAr_tsw ht) (by omega) ?_
  refine zV_aload_n (pc := 22) (i := 0) dX7_add_22 rfl rfl ?_
  refine zV_dup (pc := 23) dX7_add_23 (by simp) ?_
  refine zV_get (pc := 24) (j := 2) dX7_add_24 flX7_18 (zOb_txw ht) rfl ((zU_a _ _ _ _ (by omega)).trans hL.1) ?_
  refine zV_iconst (pc := 27) dX7_add_27 ?_
  refine zV_iadd (pc := 28) dX7_add_28 ?_
  refine zV_put (pc := 29) (j := 2) dX7_add_29 flX7_18 rfl (zOb_txw ht) rfl trivial ?_
  refine zV_vret (pc := 32) dX7_add_32 trivial ⟨Nat.zero_le _, Nat.zero_le _⟩ ?_
  refine ⟨rfl, rfl, ⟨(zU_s _ _ _ _).trans (by simp), fun j y hy => ?_⟩, (zFr.rf.up (a := 27 + 3 * t) (Or.inr rfl)).up (a := 26 + 3 * t) (j := 2) (Or.inl ⟨rfl, rfl⟩)⟩
  refine (zU_a _ _ _ _ (by omega)).trans ?_
  by_cases ej : j = L.length
  · subst ej
    rw [List.getElem?_append_right (Nat.le_refl _), Nat.sub_self] at hy
    rw [← Option.some.inj hy]
    exact zU_s _ _ _ _
  · have hj : j < L.length := by
      have := (List.getElem?_eq_some_iff.mp hy).1
      rw [List.length_append, List.length_cons, List.length_nil] at this
      omega
    rw [List.getElem?_append_left hj] at hy
    exact (zU_j _ _ _ _ (by omega)).trans (hL.2 j y hy)
set_option maxRecDepth 20000 in
set_option maxHeartbeats 2000000 in
theorem kW7_endPart {t : Int} (ht : 0 ≤ t ∧ t < 6) (hS : zSw M) {k n : Int} (hk : 0 ≤ k ∧ k < 3) (hn : M (26 + 3 * t) 2 = n) : zK g yX7_endPart xX7_endPart [zr (26 + 3 * t), zi k] 52 M (zPn 52 (fun M1 => M1 = zU M (28 + 3 * t) k n)) := by
  refine zK_of (ls0 := [zr (26 + 3 * t), zi k]) (by decide) rfl (by decide) rfl (Nat.le_of_ble_eq_true rfl) ?_
  refine zV_iload_n (pc := 0) (i := 1) dX7_endPart_0 rfl rfl ?_
  refine zV_if_lt (pc := 1) (tgt := 23) dX7_endPart_1 (by decide) (by omega) (fun c_1 => absurd c_1 (by omega)) (fun c_1 => ?_)
  refine zV_iload_n (pc := 4) (i := 1) dX7_endPart_4 rfl rfl ?_
  refine zV_aload_n (pc := 5) (i := 0) dX7_endPart_5 rfl rfl ?_
  refine zV_get (pc := 6) (j := 1) dX7_endPart_6 flX7_15 (zOb_txw ht) rfl (hS.tse ht) ?_
  refine zV_alen (pc := 9) dX7_endPart_9 (zAr_tew ht) ?_
  refine zV_icmp_ge (pc := 10) (tgt := 23) dX7_endPart_10 (by decide) (by omega) (fun c_10 => absurd c_10 (by omega)) (fun c_10 => ?_)
  refine zV_aload_n (pc := 13) (i := 0) dX7_endPart_13 rfl rfl ?_
  refine zV_get (pc := 14) (j := 1) dX7_endPart_14 flX7_15 (zOb_txw ht) rfl (hS.tse ht) ?_
  refine zV_iload_n (pc := 17) (i := 1) dX7_endPart_17 rfl rfl ?_
  refine zV_aload_n (pc := 18) (i := 0) dX7_endPart_18 rfl rfl ?_
  refine zV_get (pc := 19) (j := 2) dX7_endPart_19 flX7_18 (zOb_txw ht) rfl hn ?_
  refine zV_iast (pc := 22) dX7_endPart_22 (zAr_tew ht) (by omega) ?_
  refine zV_vret (pc := 23) dX7_endPart_23 trivial ⟨Nat.zero_le _, Nat.zero_le _⟩ ?_
  exact ⟨rfl, rfl, rfl⟩
set_option maxRecDepth 20000 in
set_option maxHeartbeats 2000000 in
theorem kW7_clear {t : Int} (ht : 0 ≤ t ∧ t < 6) : zK g yX7_clear xX7_clear [zr (26 + 3 * t)] 52 M (zPn 52 (fun M1 => M1 = zU M (26 + 3 * t) 2 0)) := by
  refine zK_of (ls0 := [zr (26 + 3 * t)]) (by decide) rfl (by decide) rfl (Nat.le_of_ble_eq_true rfl) ?_
  refine zV_aload_n (pc := 0) (i := 0) dX7_clear_0 rfl rfl ?_
  refine zV_iconst (pc := 1) dX7_clear_1 ?_
  refine zV_put (pc := 2) (j := 2) dX7_clear_2 flX7_18 rfl (zOb_txw ht) rfl trivial ?_
  refine zV_vret (pc := 5) dX7_clear_5 trivial ⟨Nat.zero_le _, Nat.zero_le _⟩ ?_
  exact ⟨rfl, rfl, rfl⟩
set_option maxRecDepth 20000 in
set_option maxHeartbeats 2000000 in
theorem kW3_clear  : zK g yX3_clear xX3_clear [zr 18] 52 M (zPn 52 (fun M1 => M1 = zU M 18 1 0)) := by
  refine zK_of (ls0 := [zr 18]) (by decide) rfl (by decide) rfl (Nat.le_of_ble_eq_true rfl) ?_
  refine zV_aload_n (pc := 0) (i := 0) dX3_clear_0 rfl rfl ?_
  refine zV_iconst (pc := 1) dX3_clear_1 ?_
  refine zV_put (pc := 2) (j := 1) dX3_clear_2 flX3_15 rfl (zOb_of rfl) rfl trivial ?_
  refine zV_vret (pc := 5) dX3_clear_5 trivial ⟨Nat.zero_le _, Nat.zero_le _⟩ ?_
  exact ⟨rfl, rfl, rfl⟩
end

section
variable {g : zG} {N : Nat} {M : zM}
/-- what a method of the grammar does -/
def zKfw (g : zG) (y : MethodName) (X : zX) (t : Int) (tp : Int → Int) (z o : Int) (f : zσ → zρ) : Prop :=
  ∀ (M : zM) (s : zσ) (L : List Int), zRCw M t tp z → zRd M s → zσo z s → zTl M t L → L.length + (f s).1.length ≤ 160 → zK g y X [zr 18, zi o] 52 M (zPn 52 (fun M1 => zRd M1 (f s).2 ∧ zTl M1 t (L ++ (f s).1) ∧ zFr (zRF t) M M1))
set_option maxRecDepth 20000 in
set_option maxHeartbeats 2000000 in
theorem kW3_readTermL {t z o : Int} {tp : Int → Int} {d d1 : Nat} {f : zσ → zρ} (ht : 0 ≤ t ∧ t < 6) (hT : ztp tp z) (ho : 0 ≤ o ∧ o ≤ 5) (hd : d1 + 1 ≤ d ∧ 10 ≤ d) (hf : zgd z f) (hK1 : zKfw g yX3_readOne (xX3_readOne d1) t tp z o f) {V : zρ} {M0 : zM} {L0 : List Int} : ∀ (k : Nat) (i : Int) (x : zρ) (M1 : zM), i + k = 160 → 0 ≤ i → (0 : Int) ≤ 0 → zRCw M1 t tp z → zRd M1 x.2 → zσo z x.2 → zTl M1 t (L0 ++ x.1) → L0.length + V.1.length ≤ 160 → zlo tp z (fun t => t = 42) (fun t => (-18 : Int)) f k x = V → zFr (zRF t) M0 M1 → zV g (xX3_readTerm d) (zPn 52 (fun M1 => zRd M1 V.2 ∧ zTl M1 t (L0 ++ V.1) ∧ zFr (zRF t) M0 M1)) 7 [zr 18, zi o, zi i] [] 52 M1 0 0 := by
  intro k
  induction k with
  | zero =>
    intro i x M1 h0 h1 h2 h3 h4 h5 h6 h7 h8 h9
    have hS := h3.1
    have h187 := h3.2.1
    have hz := hT.1
    have er := h4
    obtain ⟨e4, e5, e3, e2, e6⟩ := er
    have hr := h5.2.2.2.2.1
    refine zV_iload_n (pc := 7) (i := 2) dX3_readTerm_7 rfl rfl ?_
    refine zV_sipush (pc := 8) dX3_readTerm_8 (by decide) ?_
    refine zV_icmp_ge (pc := 11) (tgt := 47) dX3_readTerm_11 (by decide) (by omega) (fun c_11 => ?_) (fun c_11 => absurd (by omega) c_11)
    refine zV_vret (pc := 47) dX3_readTerm_47 trivial ⟨Nat.zero_le _, Nat.zero_le _⟩ ?_
    subst h8
    exact ⟨rfl, rfl, h4, h6, h9⟩
  | succ k ih =>
    intro i x M1 h0 h1 h2 h3 h4 h5 h6 h7 h8 h9
    have hS := h3.1
    have h187 := h3.2.1
    have hz := hT.1
    have er := h4
    obtain ⟨e4, e5, e3, e2, e6⟩ := er
    have hr := h5.2.2.2.2.1
    refine zV_iload_n (pc := 7) (i := 2) dX3_readTerm_7 rfl rfl ?_
    refine zV_sipush (pc := 8) dX3_readTerm_8 (by decide) ?_
    refine zV_icmp_ge (pc := 11) (tgt := 47) dX3_readTerm_11 (by decide) (by omega) (fun c_11 => absurd c_11 (by omega)) (fun c_11 => ?_)
    refine zV_aload_n (pc := 14) (i := 0) dX3_readTerm_14 rfl rfl ?_
    refine zV_get (pc := 15) (j := 4) dX3_readTerm_15 flX3_47 (zOb_of rfl) rfl e4 ?_
    refine zV_bipush (pc := 18) dX3_readTerm_18 (by decide) ?_
    refine zV_icmp_ne (pc := 20) (tgt := 47) dX3_readTerm_20 (by decide) (by omega) (fun c_20 => ?_) (fun c_20 => ?_)
    · refine zV_vret (pc := 47) dX3_readTerm_47 trivial ⟨Nat.zero_le _, Nat.zero_le _⟩ ?_
      have e8 := (zlo_f (tp := tp) (z := z) (q := fun t => t = 42) (stp := fun t => (-18 : Int)) (f := f) (k := k + 1) (x := x) c_20).symm.trans h8
      rw [← e8]
      exact ⟨rfl, rfl, h4, h6, h9⟩
    · refine zV_aload_n (pc := 23) (i := 0) dX3_readTerm_23 rfl rfl ?_
      refine zV_ivn (pc := 24) (ci := 3) dX3_readTerm_24 klX3_34 mX3_advance ⟨by decide, rfl⟩ (zRm0_z rfl rfl (Nat.le_of_ble_eq_true rfl) (by omega)) ⟨Nat.zero_le _, Nat.zero_le _⟩ (kW3_advance ht h3 hT (s := x.2) (by have := h5.1; omega) e2 e6) (zOb_of rfl) rfl rfl (Nat.le_of_ble_eq_true rfl) (fun M2 q2 => ?_)
      have hq : (fun t : Int => t = 42) x.2.tk := c_20
      have hlv : zlive x.2 := ⟨by omega, by omega⟩
      have f2 : zFr (zRF t) M1 M2 := q2.2.mono (fun a j y => zAF_R y)
      have ga := (zgx_ad hT h5 hlv).1
      have e8 := (zlo_t (q := fun t => t = 42) (stp := fun t => (-18 : Int)) (f := f) (k := k) hq).symm.trans h8
      have l8 := zlo_l (tp := tp) (z := z) (q := fun t => t = 42) (stp := fun t => (-18 : Int)) (f := f) k (x.1 ++ (f (zadv tp z x.2)).1 ++ [(fun t => (-18 : Int)) x.2.tk], (f (zadv tp z x.2)).2)
      rw [e8] at l8
      simp only [List.length_append, List.length_cons, List.length_nil] at l8
      have gf := hf (zadv tp z x.2) ga.1
      have hC2 := h3.fr ht f2
      have hS2 := hC2.1
      have h187b := hC2.2.1
      refine zV_aload_n (pc := 27) (i := 0) dX3_readTerm_27 rfl rfl ?_
      refine zV_iload_n (pc := 28) (i := 1) dX3_readTerm_28 rfl rfl ?_
      refine zV_ivn (pc := 29) (ci := 3) dX3_readTerm_29 klX3_74 (mX3_readOne _) ⟨by decide, rfl⟩ (zRm0_z rfl rfl (Nat.le_of_ble_eq_true rfl) (by omega)) ⟨Nat.zero_le _, Nat.zero_le _⟩ (hK1 M2 (zadv tp z x.2) (L0 ++ x.1) hC2 q2.1 ga.1 (h6.bf ht (q2.2.mono (fun a j y => zAF_B y))) (by simp only [List.length_append]; omega)) (zOb_of rfl) rfl rfl (Nat.le_of_ble_eq_true rfl) (fun M3 q3 => ?_)
      have hC3 := hC2.fr ht q3.2.2
      have hS3 := hC3.1
      have h187c := hC3.2.1
      refine zV_aload_n (pc := 32) (i := 0) dX3_readTerm_32 rfl rfl ?_
      refine zV_get (pc := 33) (j := 7) dX3_readTerm_33 flX3_19 (zOb_of rfl) rfl h187c ?_
      refine zV_bipush (pc := 36) dX3_readTerm_36 (by decide) ?_
      refine zV_ivn (pc := 38) (ci := 7) dX3_readTerm_38 klX3_59 mX7_add ⟨by decide, rfl⟩ (zRm0_z rfl rfl (Nat.le_of_ble_eq_true rfl) (by omega)) ⟨Nat.zero_le _, Nat.zero_le _⟩ (kW7_add ht hS3 q3.2.1 (by simp only [List.length_append]; omega)) (zOb_txw ht) rfl rfl (Nat.le_of_ble_eq_true rfl) (fun M4 q4 => ?_)
      refine zV_iinc (pc := 41) dX3_readTerm_41 rfl rfl ?_
      try dsimp only [List.set_cons_succ, List.set_cons_zero]
      refine zV_goto (pc := 44) (tgt := 7) dX3_readTerm_44 (by decide) ?_
      refine ih (i + 1) (x.1 ++ (f (zadv tp z x.2)).1 ++ [(fun t => (-18 : Int)) x.2.tk], (f (zadv tp z x.2)).2) M4 (by omega) (by omega) (by decide) (hC3.fr ht (q4.2.mono (fun a j y => zTF_R y))) (q3.1.tf ht q4.2) gf.1.1 ?_ h7 e8 (((h9.tr f2).tr q3.2.2).tr (q4.2.mono (fun a j y => zTF_R y)))
      have q5 := q4.1
      rw [List.append_assoc, List.append_assoc] at q5
      rw [List.append_assoc]
      exact q5
set_option maxRecDepth 20000 in
set_option maxHeartbeats 2000000 in
theorem kW3_readTerm {t z o : Int} {tp : Int → Int} {d d1 : Nat} {f : zσ → zρ} (ht : 0 ≤ t ∧ t < 6) (hT : ztp tp z) (ho : 0 ≤ o ∧ o ≤ 5) (hd : d1 + 1 ≤ d ∧ 10 ≤ d) (hf : zgd z f) (hK1 : zKfw g yX3_readOne (xX3_readOne d1) t tp z o f) : zKfw g yX3_readTerm (xX3_readTerm d) t tp z o (zTerm tp z f) := by
  intro M s L hC hr hz hL hlen
  have hl0 := zlo_l (tp := tp) (z := z) (q := fun t => t = 42) (stp := fun t => (-18 : Int)) (f := f) 160 (f s)
  have hlen2 : L.length + (zlo tp z (fun t => t = 42) (fun t => (-18 : Int)) f 160 (f s)).1.length ≤ 160 := hlen
  refine zK_of (ls0 := [zr 18, zi o, (3, 0)]) (by decide) rfl (fun h => Bool.noConfusion (show false = true from h)) rfl (Nat.le_of_ble_eq_true rfl) ?_
  refine zV_aload_n (pc := 0) (i := 0) dX3_readTerm_0 rfl rfl ?_
  refine zV_iload_n (pc := 1) (i := 1) dX3_readTerm_1 rfl rfl ?_
  refine zV_ivn (pc := 2) (ci := 3) dX3_readTerm_2 klX3_74 (mX3_readOne _) ⟨by decide, rfl⟩ (zRm0_z rfl rfl (Nat.le_of_ble_eq_true rfl) (by omega)) ⟨Nat.zero_le _, Nat.zero_le _⟩ (hK1 M s L hC hr hz hL (by omega)) (zOb_of rfl) rfl rfl (Nat.le_of_ble_eq_true rfl) (fun M1 q1 => ?_)
  refine zV_iconst (pc := 5) dX3_readTerm_5 ?_
  refine zV_istore_n (pc := 6) (i := 2) dX3_readTerm_6 rfl rfl ?_
  try dsimp only [List.set_cons_succ, List.set_cons_zero]
  exact kW3_readTermL ht hT ho hd hf hK1 160 0 (f s) M1 (by omega) (by omega) (by decide) (hC.fr ht q1.2.2) q1.1 (hf s hz).1.1 q1.2.1 hlen rfl q1.2.2
set_option maxRecDepth 20000 in
set_option maxHeartbeats 2000000 in
theorem kW3_readSumL {t z o : Int} {tp : Int → Int} {d d1 : Nat} {f : zσ → zρ} (ht : 0 ≤ t ∧ t < 6) (hT : ztp tp z) (ho : 0 ≤ o ∧ o ≤ 5) (hd : d1 + 1 ≤ d ∧ 10 ≤ d) (hf : zgd z f) (hK1 : zKfw g yX3_readTerm (xX3_readTerm d1) t tp z o f) {V : zρ} {M0 : zM} {L0 : List Int} : ∀ (k : Nat) (i : Int) (x : zρ) (M1 : zM) (w3 : zv), i + k = 160 → 0 ≤ i → (0 : Int) ≤ 0 → zRCw M1 t tp z → zRd M1 x.2 → zσo z x.2 → zTl M1 t (L0 ++ x.1) → L0.length + V.1.length ≤ 160 → zlo tp z (fun t => t = 43 ∨ t = 45) (fun t => if t = 43 then (-16 : Int) else -17) f k x = V → zFr (zRF t) M0 M1 → zV g (xX3_readSum d) (zPn 52 (fun M1 => zRd M1 V.2 ∧ zTl M1 t (L0 ++ V.1) ∧ zFr (zRF t) M0 M1)) 7 [zr 18, zi o, zi i, w3] [] 52 M1 0 0 := by
  intro k
  induction k with
  | zero =>
    intro i x M1 w3 h0 h1 h2 h3 h4 h5 h6 h7 h8 h9
    have hS := h3.1
    have h187 := h3.2.1
    have hz := hT.1
    have er := h4
    obtain ⟨e4, e5, e3, e2, e6⟩ := er
    have hr := h5.2.2.2.2.1
    refine zV_iload_n (pc := 7) (i := 2) dX3_readSum_7 rfl rfl ?_
    refine zV_sipush (pc := 8) dX3_readSum_8 (by decide) ?_
    refine zV_icmp_ge (pc := 11) (tgt := 72) dX3_readSum_11 (by decide) (by omega) (fun c_11 => ?_) (fun c_11 => absurd (by omega) c_11)
    refine zV_vret (pc := 72) dX3_readSum_72 trivial ⟨Nat.zero_le _, Nat.zero_le _⟩ ?_
    subst h8
    exact ⟨rfl, rfl, h4, h6, h9⟩
  | succ k ih =>
    intro i x M1 w3 h0 h1 h2 h3 h4 h5 h6 h7 h8 h9
    have hS := h3.1
    have h187 := h3.2.1
    have hz := hT.1
    have er := h4
    obtain ⟨e4, e5, e3, e2, e6⟩ := er
    have hr := h5.2.2.2.2.1
    refine zV_iload_n (pc := 7) (i := 2) dX3_readSum_7 rfl rfl ?_
    refine zV_sipush (pc := 8) dX3_readSum_8 (by decide) ?_
    refine zV_icmp_ge (pc := 11) (tgt := 72) dX3_readSum_11 (by decide) (by omega) (fun c_11 => absurd c_11 (by omega)) (fun c_11 => ?_)
    refine zV_aload_n (pc := 14) (i := 0) dX3_readSum_14 rfl rfl ?_
    refine zV_get (pc := 15) (j := 4) dX3_readSum_15 flX3_47 (zOb_of rfl) rfl e4 ?_
    refine zV_bipush (pc := 18) dX3_readSum_18 (by decide) ?_
    refine zV_icmp_eq (pc := 20) (tgt := 32) dX3_readSum_20 (by decide) (by omega) (fun c_20 => ?_) (fun c_20 => ?_)
    · refine zV_aload_n (pc := 32) (i := 0) dX3_readSum_32 rfl rfl ?_
      refine zV_get (pc := 33) (j := 4) dX3_readSum_33 flX3_47 (zOb_of rfl) rfl e4 ?_
      refine zV_bipush (pc := 36) dX3_readSum_36 (by decide) ?_
      refine zV_icmp_ne (pc := 38) (tgt := 46) dX3_readSum_38 (by decide) (by omega) (fun c_38 => ?_) (fun c_38 => ?_)
      · refine zV_bipush (pc := 46) dX3_readSum_46 (by decide) ?_
        refine zV_istore_n (pc := 48) (i := 3) dX3_readSum_48 rfl rfl ?_
        try dsimp only [List.set_cons_succ, List.set_cons_zero]
        refine zV_aload_n (pc := 49) (i := 0) dX3_readSum_49 rfl rfl ?_
        refine zV_ivn (pc := 50) (ci := 3) dX3_readSum_50 klX3_34 mX3_advance ⟨by decide, rfl⟩ (zRm0_z rfl rfl (Nat.le_of_ble_eq_true rfl) (by omega)) ⟨Nat.zero_le _, Nat.zero_le _⟩ (kW3_advance ht h3 hT (s := x.2) (by have := h5.1; omega) e2 e6) (zOb_of rfl) rfl rfl (Nat.le_of_ble_eq_true rfl) (fun M2 q2 => ?_)
        have hq : (fun t : Int => t = 43 ∨ t = 45) x.2.tk := (by first | exact Or.inl c_20 | exact Or.inr c_29 | omega)
        have hlv : zlive x.2 := ⟨by omega, by omega⟩
        have f2 : zFr (zRF t) M1 M2 := q2.2.mono (fun a j y => zAF_R y)
        have ga := (zgx_ad hT h5 hlv).1
        have e8 := (zlo_t (q := fun t => t = 43 ∨ t = 45) (stp := fun t => if t = 43 then (-16 : Int) else -17) (f := f) (k := k) hq).symm.trans h8
        have l8 := zlo_l (tp := tp) (z := z) (q := fun t => t = 43 ∨ t = 45) (stp := fun t => if t = 43 then (-16 : Int) else -17) (f := f) k (x.1 ++ (f (zadv tp z x.2)).1 ++ [(fun t => if t = 43 then (-16 : Int) else -17) x.2.tk], (f (zadv tp z x.2)).2)
        rw [e8] at l8
        simp only [List.length_append, List.length_cons, List.length_nil] at l8
        have gf := hf (zadv tp z x.2) ga.1
        have hC2 := h3.fr ht f2
        have hS2 := hC2.1
        have h187b := hC2.2.1
        refine zV_aload_n (pc := 53) (i := 0) dX3_readSum_53 rfl rfl ?_
        refine zV_iload_n (pc := 54) (i := 1) dX3_readSum_54 rfl rfl ?_
        refine zV_ivn (pc := 55) (ci := 3) dX3_readSum_55 klX3_71 (mX3_readTerm _) ⟨by decide, rfl⟩ (zRm0_z rfl rfl (Nat.le_of_ble_eq_true rfl) (by omega)) ⟨Nat.zero_le _, Nat.zero_le _⟩ (hK1 M2 (zadv tp z x.2) (L0 ++ x.1) hC2 q2.1 ga.1 (h6.bf ht (q2.2.mono (fun a j y => zAF_B y))) (by simp only [List.length_append]; omega)) (zOb_of rfl) rfl rfl (Nat.le_of_ble_eq_true rfl) (fun M3 q3 => ?_)
        have hC3 := hC2.fr ht q3.2.2
        have hS3 := hC3.1
        have h187c := hC3.2.1
        refine zV_aload_n (pc := 58) (i := 0) dX3_readSum_58 rfl rfl ?_
        refine zV_get (pc := 59) (j := 7) dX3_readSum_59 flX3_19 (zOb_of rfl) rfl h187c ?_
        refine zV_iload_n (pc := 62) (i := 3) dX3_readSum_62 rfl rfl ?_
        refine zV_ivn (pc := 63) (ci := 7) dX3_readSum_63 klX3_59 mX7_add ⟨by decide, rfl⟩ (zRm0_z rfl rfl (Nat.le_of_ble_eq_true rfl) (by omega)) ⟨Nat.zero_le _, Nat.zero_le _⟩ (kW7_add ht hS3 q3.2.1 (by simp only [List.length_append]; omega)) (zOb_txw ht) rfl rfl (Nat.le_of_ble_eq_true rfl) (fun M4 q4 => ?_)
        refine zV_iinc (pc := 66) dX3_readSum_66 rfl rfl ?_
        try dsimp only [List.set_cons_succ, List.set_cons_zero]
        refine zV_goto (pc := 69) (tgt := 7) dX3_readSum_69 (by decide) ?_
        refine ih (i + 1) (x.1 ++ (f (zadv tp z x.2)).1 ++ [(fun t => if t = 43 then (-16 : Int) else -17) x.2.tk], (f (zadv tp z x.2)).2) M4 _ (by omega) (by omega) (by decide) (hC3.fr ht (q4.2.mono (fun a j y => zTF_R y))) (q3.1.tf ht q4.2) gf.1.1 ?_ h7 e8 (((h9.tr f2).tr q3.2.2).tr (q4.2.mono (fun a j y => zTF_R y)))
        have q5 := q4.1
        first
          | rw [← (if_pos (by omega) : (if x.2.tk = 43 then (-16 : Int) else -17) = -16)] at q5
          | rw [← (if_neg (by omega) : (if x.2.tk = 43 then (-16 : Int) else -17) = -17)] at q5
        rw [List.append_assoc, List.append_assoc] at q5
        rw [List.append_assoc]
        exact q5
      · refine zV_bipush (pc := 41) dX3_readSum_41 (by decide) ?_
        refine zV_goto (pc := 43) (tgt := 48) dX3_readSum_43 (by decide) ?_
        refine zV_istore_n (pc := 48) (i := 3) dX3_readSum_48 rfl rfl ?_
        try dsimp only [List.set_cons_succ, List.set_cons_zero]
        refine zV_aload_n (pc := 49) (i := 0) dX3_readSum_49 rfl rfl ?_
        refine zV_ivn (pc := 50) (ci := 3) dX3_readSum_50 klX3_34 mX3_advance ⟨by decide, rfl⟩ (zRm0_z rfl rfl (Nat.le_of_ble_eq_true rfl) (by omega)) ⟨Nat.zero_le _, Nat.zero_le _⟩ (kW3_advance ht h3 hT (s := x.2) (by have := h5.1; omega) e2 e6) (zOb_of rfl) rfl rfl (Nat.le_of_ble_eq_true rfl) (fun M2 q2 => ?_)
        have hq : (fun t : Int => t = 43 ∨ t = 45) x.2.tk := (by first | exact Or.inl c_20 | exact Or.inr c_29 | omega)
        have hlv : zlive x.2 := ⟨by omega, by omega⟩
        have f2 : zFr (zRF t) M1 M2 := q2.2.mono (fun a j y => zAF_R y)
        have ga := (zgx_ad hT h5 hlv).1
        have e8 := (zlo_t (q := fun t => t = 43 ∨ t = 45) (stp := fun t => if t = 43 then (-16 : Int) else -17) (f := f) (k := k) hq).symm.trans h8
        have l8 := zlo_l (tp := tp) (z := z) (q := fun t => t = 43 ∨ t = 45) (stp := fun t => if t = 43 then (-16 : Int) else -17) (f := f) k (x.1 ++ (f (zadv tp z x.2)).1 ++ [(fun t => if t = 43 then (-16 : Int) else -17) x.2.tk], (f (zadv tp z x.2)).2)
        rw [e8] at l8
        simp only [List.length_append, List.length_cons, List.length_nil] at l8
        have gf := hf (zadv tp z x.2) ga.1
        have hC2 := h3.fr ht f2
        have hS2 := hC2.1
        have h187b := hC2.2.1
        refine zV_aload_n (pc := 53) (i := 0) dX3_readSum_53 rfl rfl ?_
        refine zV_iload_n (pc := 54) (i := 1) dX3_readSum_54 rfl rfl ?_
        refine zV_ivn (pc := 55) (ci := 3) dX3_readSum_55 klX3_71 (mX3_readTerm _) ⟨by decide, rfl⟩ (zRm0_z rfl rfl (Nat.le_of_ble_eq_true rfl) (by omega)) ⟨Nat.zero_le _, Nat.zero_le _⟩ (hK1 M2 (zadv tp z x.2) (L0 ++ x.1) hC2 q2.1 ga.1 (h6.bf ht (q2.2.mono (fun a j y => zAF_B y))) (by simp only [List.length_append]; omega)) (zOb_of rfl) rfl rfl (Nat.le_of_ble_eq_true rfl) (fun M3 q3 => ?_)
        have hC3 := hC2.fr ht q3.2.2
        have hS3 := hC3.1
        have h187c := hC3.2.1
        refine zV_aload_n (pc := 58) (i := 0) dX3_readSum_58 rfl rfl ?_
        refine zV_get (pc := 59) (j := 7) dX3_readSum_59 flX3_19 (zOb_of rfl) rfl h187c ?_
        refine zV_iload_n (pc := 62) (i := 3) dX3_readSum_62 rfl rfl ?_
        refine zV_ivn (pc := 63) (ci := 7) dX3_readSum_63 klX3_59 mX7_add ⟨by decide, rfl⟩ (zRm0_z rfl rfl (Nat.le_of_ble_eq_true rfl) (by omega)) ⟨Nat.zero_le _, Nat.zero_le _⟩ (kW7_add ht hS3 q3.2.1 (by simp only [List.length_append]; omega)) (zOb_txw ht) rfl rfl (Nat.le_of_ble_eq_true rfl) (fun M4 q4 => ?_)
        refine zV_iinc (pc := 66) dX3_readSum_66 rfl rfl ?_
        try dsimp only [List.set_cons_succ, List.set_cons_zero]
        refine zV_goto (pc := 69) (tgt := 7) dX3_readSum_69 (by decide) ?_
        refine ih (i + 1) (x.1 ++ (f (zadv tp z x.2)).1 ++ [(fun t => if t = 43 then (-16 : Int) else -17) x.2.tk], (f (zadv tp z x.2)).2) M4 _ (by omega) (by omega) (by decide) (hC3.fr ht (q4.2.mono (fun a j y => zTF_R y))) (q3.1.tf ht q4.2) gf.1.1 ?_ h7 e8 (((h9.tr f2).tr q3.2.2).tr (q4.2.mono (fun a j y => zTF_R y)))
        have q5 := q4.1
        first
          | rw [← (if_pos (by omega) : (if x.2.tk = 43 then (-16 : Int) else -17) = -16)] at q5
          | rw [← (if_neg (by omega) : (if x.2.tk = 43 then (-16 : Int) else -17) = -17)] at q5
        rw [List.append_assoc, List.append_assoc] at q5
        rw [List.append_assoc]
        exact q5
    · refine zV_aload_n (pc := 23) (i := 0) dX3_readSum_23 rfl rfl ?_
      refine zV_get (pc := 24) (j := 4) dX3_readSum_24 flX3_47 (zOb_of rfl) rfl e4 ?_
      refine zV_bipush (pc := 27) dX3_readSum_27 (by decide) ?_
      refine zV_icmp_ne (pc := 29) (tgt := 72) dX3_readSum_29 (by decide) (by omega) (fun c_29 => ?_) (fun c_29 => ?_)
      · refine zV_vret (pc := 72) dX3_readSum_72 trivial ⟨Nat.zero_le _, Nat.zero_le _⟩ ?_
        have e8 := (zlo_f (tp := tp) (z := z) (q := fun t => t = 43 ∨ t = 45) (stp := fun t => if t = 43 then (-16 : Int) else -17) (f := f) (k := k + 1) (x := x) (by omega)).symm.trans h8
        rw [← e8]
        exact ⟨rfl, rfl, h4, h6, h9⟩
      · refine zV_aload_n (pc := 32) (i := 0) dX3_readSum_32 rfl rfl ?_
        refine zV_get (pc := 33) (j := 4) dX3_readSum_33 flX3_47 (zOb_of rfl) rfl e4 ?_
        refine zV_bipush (pc := 36) dX3_readSum_36 (by decide) ?_
        refine zV_icmp_ne (pc := 38) (tgt := 46) dX3_readSum_38 (by decide) (by omega) (fun c_38 => ?_) (fun c_38 => ?_)
        · refine zV_bipush (pc := 46) dX3_readSum_46 (by decide) ?_
          refine zV_istore_n (pc := 48) (i := 3) dX3_readSum_48 rfl rfl ?_
          try dsimp only [List.set_cons_succ, List.set_cons_zero]
          refine zV_aload_n (pc := 49) (i := 0) dX3_readSum_49 rfl rfl ?_
          refine zV_ivn (pc := 50) (ci := 3) dX3_readSum_50 klX3_34 mX3_advance ⟨by decide, rfl⟩ (zRm0_z rfl rfl (Nat.le_of_ble_eq_true rfl) (by omega)) ⟨Nat.zero_le _, Nat.zero_le _⟩ (kW3_advance ht h3 hT (s := x.2) (by have := h5.1; omega) e2 e6) (zOb_of rfl) rfl rfl (Nat.le_of_ble_eq_true rfl) (fun M2 q2 => ?_)
          have hq : (fun t : Int => t = 43 ∨ t = 45) x.2.tk := (by first | exact Or.inl c_20 | exact Or.inr c_29 | omega)
          have hlv : zlive x.2 := ⟨by omega, by omega⟩
          have f2 : zFr (zRF t) M1 M2 := q2.2.mono (fun a j y => zAF_R y)
          have ga := (zgx_ad hT h5 hlv).1
          have e8 := (zlo_t (q := fun t => t = 43 ∨ t = 45) (stp := fun t => if t = 43 then (-16 : Int) else -17) (f := f) (k := k) hq).symm.trans h8
          have l8 := zlo_l (tp := tp) (z := z) (q := fun t => t = 43 ∨ t = 45) (stp := fun t => if t = 43 then (-16 : Int) else -17) (f := f) k (x.1 ++ (f (zadv tp z x.2)).1 ++ [(fun t => if t = 43 then (-16 : Int) else -17) x.2.tk], (f (zadv tp z x.2)).2)
          rw [e8] at l8
          simp only [List.length_append, List.length_cons, List.length_nil] at l8
          have gf := hf (zadv tp z x.2) ga.1
          have hC2 := h3.fr ht f2
          have hS2 := hC2.1
          have h187b := hC2.2.1
          refine zV_aload_n (pc := 53) (i := 0) dX3_readSum_53 rfl rfl ?_
          refine zV_iload_n (pc := 54) (i := 1) dX3_readSum_54 rfl rfl ?_
          refine zV_ivn (pc := 55) (ci := 3) dX3_readSum_55 klX3_71 (mX3_readTerm _) ⟨by decide, rfl⟩ (zRm0_z rfl rfl (Nat.le_of_ble_eq_true rfl) (by omega)) ⟨Nat.zero_le _, Nat.zero_le _⟩ (hK1 M2 (zadv tp z x.2) (L0 ++ x.1) hC2 q2.1 ga.1 (h6.bf ht (q2.2.mono (fun a j y => zAF_B y))) (by simp only [List.length_append]; omega)) (zOb_of rfl) rfl rfl (Nat.le_of_ble_eq_true rfl) (fun M3 q3 => ?_)
          have hC3 := hC2.fr ht q3.2.2
          have hS3 := hC3.1
          have h187c := hC3.2.1
          refine zV_aload_n (pc := 58) (i := 0) dX3_readSum_58 rfl rfl ?_
          refine zV_get (pc := 59) (j := 7) dX3_readSum_59 flX3_19 (zOb_of rfl) rfl h187c ?_
          refine zV_iload_n (pc := 62) (i := 3) dX3_readSum_62 rfl rfl ?_
          refine zV_ivn (pc := 63) (ci := 7) dX3_readSum_63 klX3_59 mX7_add ⟨by decide, rfl⟩ (zRm0_z rfl rfl (Nat.le_of_ble_eq_true rfl) (by omega)) ⟨Nat.zero_le _, Nat.zero_le _⟩ (kW7_add ht hS3 q3.2.1 (by simp only [List.length_append]; omega)) (zOb_txw ht) rfl rfl (Nat.le_of_ble_eq_true rfl) (fun M4 q4 => ?_)
          refine zV_iinc (pc := 66) dX3_readSum_66 rfl rfl ?_
          try dsimp only [List.set_cons_succ, List.set_cons_zero]
          refine zV_goto (pc := 69) (tgt := 7) dX3_readSum_69 (by decide) ?_
          refine ih (i + 1) (x.1 ++ (f (zadv tp z x.2)).1 ++ [(fun t => if t = 43 then (-16 : Int) else -17) x.2.tk], (f (zadv tp z x.2)).2) M4 _ (by omega) (by omega) (by decide) (hC3.fr ht (q4.2.mono (fun a j y => zTF_R y))) (q3.1.tf ht q4.2) gf.1.1 ?_ h7 e8 (((h9.tr f2).tr q3.2.2).tr (q4.2.mono (fun a j y => zTF_R y)))
          have q5 := q4.1
          first
            | rw [← (if_pos (by omega) : (if x.2.tk = 43 then (-16 : Int) else -17) = -16)] at q5
            | rw [← (if_neg (by omega) : (if x.2.tk = 43 then (-16 : Int) else -17) = -17)] at q5
          rw [List.append_assoc, List.append_assoc] at q5
          rw [List.append_assoc]
          exact q5
        · refine zV_bipush (pc := 41) dX3_readSum_41 (by decide) ?_
          refine zV_goto (pc := 43) (tgt := 48) dX3_readSum_43 (by decide) ?_
          refine zV_istore_n (pc := 48) (i := 3) dX3_readSum_48 rfl rfl ?_
          try dsimp only [List.set_cons_succ, List.set_cons_zero]
          refine zV_aload_n (pc := 49) (i := 0) dX3_readSum_49 rfl rfl ?_
          refine zV_ivn (pc := 50) (ci := 3) dX3_readSum_50 klX3_34 mX3_advance ⟨by decide, rfl⟩ (zRm0_z rfl rfl (Nat.le_of_ble_eq_true rfl) (by omega)) ⟨Nat.zero_le _, Nat.zero_le _⟩ (kW3_advance ht h3 hT (s := x.2) (by have := h5.1; omega) e2 e6) (zOb_of rfl) rfl rfl (Nat.le_of_ble_eq_true rfl) (fun M2 q2 => ?_)
          have hq : (fun t : Int => t = 43 ∨ t = 45) x.2.tk := (by first | exact Or.inl c_20 | exact Or.inr c_29 | omega)
          have hlv : zlive x.2 := ⟨by omega, by omega⟩
          have f2 : zFr (zRF t) M1 M2 := q2.2.mono (fun a j y => zAF_R y)
          have ga := (zgx_ad hT h5 hlv).1
          have e8 := (zlo_t (q := fun t => t = 43 ∨ t = 45) (stp := fun t => if t = 43 then (-16 : Int) else -17) (f := f) (k := k) hq).symm.trans h8
          have l8 := zlo_l (tp := tp) (z := z) (q := fun t => t = 43 ∨ t = 45) (stp := fun t => if t = 43 then (-16 : Int) else -17) (f := f) k (x.1 ++ (f (zadv tp z x.2)).1 ++ [(fun t => if t = 43 then (-16 : Int) else -17) x.2.tk], (f (zadv tp z x.2)).2)
          rw [e8] at l8
          simp only [List.length_append, List.length_cons, List.length_nil] at l8
          have gf := hf (zadv tp z x.2) ga.1
          have hC2 := h3.fr ht f2
          have hS2 := hC2.1
          have h187b := hC2.2.1
          refine zV_aload_n (pc := 53) (i := 0) dX3_readSum_53 rfl rfl ?_
          refine zV_iload_n (pc := 54) (i := 1) dX3_readSum_54 rfl rfl ?_
          refine zV_ivn (pc := 55) (ci := 3) dX3_readSum_55 klX3_71 (mX3_readTerm _) ⟨by decide, rfl⟩ (zRm0_z rfl rfl (Nat.le_of_ble_eq_true rfl) (by omega)) ⟨Nat.zero_le _, Nat.zero_le _⟩ (hK1 M2 (zadv tp z x.2) (L0 ++ x.1) hC2 q2.1 ga.1 (h6.bf ht (q2.2.mono (fun a j y => zAF_B y))) (by simp only [List.length_append]; omega)) (zOb_of rfl) rfl rfl (Nat.le_of_ble_eq_true rfl) (fun M3 q3 => ?_)
          have hC3 := hC2.fr ht q3.2.2
          have hS3 := hC3.1
          have h187c := hC3.2.1
          refine zV_aload_n (pc := 58) (i := 0) dX3_readSum_58 rfl rfl ?_
          refine zV_get (pc := 59) (j := 7) dX3_readSum_59 flX3_19 (zOb_of rfl) rfl h187c ?_
          refine zV_iload_n (pc := 62) (i := 3) dX3_readSum_62 rfl rfl ?_
          refine zV_ivn (pc := 63) (ci := 7) dX3_readSum_63 klX3_59 mX7_add ⟨by decide, rfl⟩ (zRm0_z rfl rfl (Nat.le_of_ble_eq_true rfl) (by omega)) ⟨Nat.zero_le _, Nat.zero_le _⟩ (kW7_add ht hS3 q3.2.1 (by simp only [List.length_append]; omega)) (zOb_txw ht) rfl rfl (Nat.le_of_ble_eq_true rfl) (fun M4 q4 => ?_)
          refine zV_iinc (pc := 66) dX3_readSum_66 rfl rfl ?_
          try dsimp only [List.set_cons_succ, List.set_cons_zero]
          refine zV_goto (pc := 69) (tgt := 7) dX3_readSum_69 (by decide) ?_
          refine ih (i + 1) (x.1 ++ (f (zadv tp z x.2)).1 ++ [(fun t => if t = 43 then (-16 : Int) else -17) x.2.tk], (f (zadv tp z x.2)).2) M4 _ (by omega) (by omega) (by decide) (hC3.fr ht (q4.2.mono (fun a j y => zTF_R y))) (q3.1.tf ht q4.2) gf.1.1 ?_ h7 e8 (((h9.tr f2).tr q3.2.2).tr (q4.2.mono (fun a j y => zTF_R y)))
          have q5 := q4.1
          first
            | rw [← (if_pos (by omega) : (if x.2.tk = 43 then (-16 : Int) else -17) = -16)] at q5
            | rw [← (if_neg (by omega) : (if x.2.tk = 43 then (-16 : Int) else -17) = -17)] at q5
          rw [List.append_assoc, List.append_assoc] at q5
          rw [List.append_assoc]
          exact q5
set_option maxRecDepth 20000 in
set_option maxHeartbeats 2000000 in
theorem kW3_readSum {t z o : Int} {tp : Int → Int} {d d1 : Nat} {f : zσ → zρ} (ht : 0 ≤ t ∧ t < 6) (hT : ztp tp z) (ho : 0 ≤ o ∧ o ≤ 5) (hd : d1 + 1 ≤ d ∧ 10 ≤ d) (hf : zgd z f) (hK1 : zKfw g yX3_readTerm (xX3_readTerm d1) t tp z o f) : zKfw g yX3_readSum (xX3_readSum d) t tp z o (zSum tp z f) := by
  intro M s L hC hr hz hL hlen
  have hl0 := zlo_l (tp := tp) (z := z) (q := fun t => t = 43 ∨ t = 45) (stp := fun t => if t = 43 then (-16 : Int) else -17) (f := f) 160 (f s)
  have hlen2 : L.length + (zlo tp z (fun t => t = 43 ∨ t = 45) (fun t => if t = 43 then (-16 : Int) else -17) f 160 (f s)).1.length ≤ 160 := hlen
  refine zK_of (ls0 := [zr 18, zi o, (3, 0), (3, 0)]) (by decide) rfl (fun h => Bool.noConfusion (show false = true from h)) rfl (Nat.le_of_ble_eq_true rfl) ?_
  refine zV_aload_n (pc := 0) (i := 0) dX3_readSum_0 rfl rfl ?_
  refine zV_iload_n (pc := 1) (i := 1) dX3_readSum_1 rfl rfl ?_
  refine zV_ivn (pc := 2) (ci := 3) dX3_readSum_2 klX3_71 (mX3_readTerm _) ⟨by decide, rfl⟩ (zRm0_z rfl rfl (Nat.le_of_ble_eq_true rfl) (by omega)) ⟨Nat.zero_le _, Nat.zero_le _⟩ (hK1 M s L hC hr hz hL (by omega)) (zOb_of rfl) rfl rfl (Nat.le_of_ble_eq_true rfl) (fun M1 q1 => ?_)
  refine zV_iconst (pc := 5) dX3_readSum_5 ?_
  refine zV_istore_n (pc := 6) (i := 2) dX3_readSum_6 rfl rfl ?_
  try dsimp only [List.set_cons_succ, List.set_cons_zero]
  exact kW3_readSumL ht hT ho hd hf hK1 160 0 (f s) M1 _ (by omega) (by omega) (by decide) (hC.fr ht q1.2.2) q1.1 (hf s hz).1.1 q1.2.1 hlen rfl q1.2.2
set_option maxRecDepth 20000 in
set_option maxHeartbeats 2000000 in
theorem kW3_readAndsL {t z o : Int} {tp : Int → Int} {d d1 : Nat} {f : zσ → zρ} (ht : 0 ≤ t ∧ t < 6) (hT : ztp tp z) (ho : 0 ≤ o ∧ o ≤ 5) (hd : d1 + 1 ≤ d ∧ 10 ≤ d) (hf : zgd z f) (hK1 : zKfw g yX3_readNot (xX3_readNot d1) t tp z o f) {V : zρ} {M0 : zM} {L0 : List Int} : ∀ (k : Nat) (i : Int) (x : zρ) (M1 : zM), i + k = 160 → 0 ≤ i → (0 : Int) ≤ 0 → zRCw M1 t tp z → zRd M1 x.2 → zσo z x.2 → zTl M1 t (L0 ++ x.1) → L0.length + V.1.length ≤ 160 → zlo tp z (fun t => t = 10) (fun t => (-12 : Int)) f k x = V → zFr (zRF t) M0 M1 → zV g (xX3_readAnds d) (zPn 52 (fun M1 => zRd M1 V.2 ∧ zTl M1 t (L0 ++ V.1) ∧ zFr (zRF t) M0 M1)) 7 [zr 18, zi o, zi i] [] 52 M1 0 0 := by
  intro k
  induction k with
  | zero =>
    intro i x M1 h0 h1 h2 h3 h4 h5 h6 h7 h8 h9
    have hS := h3.1
    have h187 := h3.2.1
    have hz := hT.1
    have er := h4
    obtain ⟨e4, e5, e3, e2, e6⟩ := er
    have hr := h5.2.2.2.2.1
    refine zV_iload_n (pc := 7) (i := 2) dX3_readAnds_7 rfl rfl ?_
    refine zV_sipush (pc := 8) dX3_readAnds_8 (by decide) ?_
    refine zV_icmp_ge (pc := 11) (tgt := 47) dX3_readAnds_11 (by decide) (by omega) (fun c_11 => ?_) (fun c_11 => absurd (by omega) c_11)
    refine zV_vret (pc := 47) dX3_readAnds_47 trivial ⟨Nat.zero_le _, Nat.zero_le _⟩ ?_
    subst h8
    exact ⟨rfl, rfl, h4, h6, h9⟩
  | succ k ih =>
    intro i x M1 h0 h1 h2 h3 h4 h5 h6 h7 h8 h9
    have hS := h3.1
    have h187 := h3.2.1
    have hz := hT.1
    have er := h4
    obtain ⟨e4, e5, e3, e2, e6⟩ := er
    have hr := h5.2.2.2.2.1
    refine zV_iload_n (pc := 7) (i := 2) dX3_readAnds_7 rfl rfl ?_
    refine zV_sipush (pc := 8) dX3_readAnds_8 (by decide) ?_
    refine zV_icmp_ge (pc := 11) (tgt := 47) dX3_readAnds_11 (by decide) (by omega) (fun c_11 => absurd c_11 (by omega)) (fun c_11 => ?_)
    refine zV_aload_n (pc := 14) (i := 0) dX3_readAnds_14 rfl rfl ?_
    refine zV_get (pc := 15) (j := 4) dX3_readAnds_15 flX3_47 (zOb_of rfl) rfl e4 ?_
    refine zV_bipush (pc := 18) dX3_readAnds_18 (by decide) ?_
    refine zV_icmp_ne (pc := 20) (tgt := 47) dX3_readAnds_20 (by decide) (by omega) (fun c_20 => ?_) (fun c_20 => ?_)
    · refine zV_vret (pc := 47) dX3_readAnds_47 trivial ⟨Nat.zero_le _, Nat.zero_le _⟩ ?_
      have e8 := (zlo_f (tp := tp) (z := z) (q := fun t => t = 10) (stp := fun t => (-12 : Int)) (f := f) (k := k + 1) (x := x) c_20).symm.trans h8
      rw [← e8]
      exact ⟨rfl, rfl, h4, h6, h9⟩
    · refine zV_aload_n (pc := 23) (i := 0) dX3_readAnds_23 rfl rfl ?_
      refine zV_ivn (pc := 24) (ci := 3) dX3_readAnds_24 klX3_34 mX3_advance ⟨by decide, rfl⟩ (zRm0_z rfl rfl (Nat.le_of_ble_eq_true rfl) (by omega)) ⟨Nat.zero_le _, Nat.zero_le _⟩ (kW3_advance ht h3 hT (s := x.2) (by have := h5.1; omega) e2 e6) (zOb_of rfl) rfl rfl (Nat.le_of_ble_eq_true rfl) (fun M2 q2 => ?_)
      have hq : (fun t : Int => t = 10) x.2.tk := c_20
      have hlv : zlive x.2 := ⟨by omega, by omega⟩
      have f2 : zFr (zRF t) M1 M2 := q2.2.mono (fun a j y => zAF_R y)
      have ga := (zgx_ad hT h5 hlv).1
      have e8 := (zlo_t (q := fun t => t = 10) (stp := fun t => (-12 : Int)) (f := f) (k := k) hq).symm.trans h8
      have l8 := zlo_l (tp := tp) (z := z) (q := fun t => t = 10) (stp := fun t => (-12 : Int)) (f := f) k (x.1 ++ (f (zadv tp z x.2)).1 ++ [(fun t => (-12 : Int)) x.2.tk], (f (zadv tp z x.2)).2)
      rw [e8] at l8
      simp only [List.length_append, List.length_cons, List.length_nil] at l8
      have gf := hf (zadv tp z x.2) ga.1
      have hC2 := h3.fr ht f2
      have hS2 := hC2.1
      have h187b := hC2.2.1
      refine zV_aload_n (pc := 27) (i := 0) dX3_readAnds_27 rfl rfl ?_
      refine zV_iload_n (pc := 28) (i := 1) dX3_readAnds_28 rfl rfl ?_
      refine zV_ivn (pc := 29) (ci := 3) dX3_readAnds_29 klX3_62 (mX3_readNot _) ⟨by decide, rfl⟩ (zRm0_z rfl rfl (Nat.le_of_ble_eq_true rfl) (by omega)) ⟨Nat.zero_le _, Nat.zero_le _⟩ (hK1 M2 (zadv tp z x.2) (L0 ++ x.1) hC2 q2.1 ga.1 (h6.bf ht (q2.2.mono (fun a j y => zAF_B y))) (by simp only [List.length_append]; omega)) (zOb_of rfl) rfl rfl (Nat.le_of_ble_eq_true rfl) (fun M3 q3 => ?_)
      have hC3 := hC2.fr ht q3.2.2
      have hS3 := hC3.1
      have h187c := hC3.2.1
      refine zV_aload_n (pc := 32) (i := 0) dX3_readAnds_32 rfl rfl ?_
      refine zV_get (pc := 33) (j := 7) dX3_readAnds_33 flX3_19 (zOb_of rfl) rfl h187c ?_
      refine zV_bipush (pc := 36) dX3_readAnds_36 (by decide) ?_
      refine zV_ivn (pc := 38) (ci := 7) dX3_readAnds_38 klX3_59 mX7_add ⟨by decide, rfl⟩ (zRm0_z rfl rfl (Nat.le_of_ble_eq_true rfl) (by omega)) ⟨Nat.zero_le _, Nat.zero_le _⟩ (kW7_add ht hS3 q3.2.1 (by simp only [List.length_append]; omega)) (zOb_txw ht) rfl rfl (Nat.le_of_ble_eq_true rfl) (fun M4 q4 => ?_)
      refine zV_iinc (pc := 41) dX3_readAnds_41 rfl rfl ?_
      try dsimp only [List.set_cons_succ, List.set_cons_zero]
      refine zV_goto (pc := 44) (tgt := 7) dX3_readAnds_44 (by decide) ?_
      refine ih (i + 1) (x.1 ++ (f (zadv tp z x.2)).1 ++ [(fun t => (-12 : Int)) x.2.tk], (f (zadv tp z x.2)).2) M4 (by omega) (by omega) (by decide) (hC3.fr ht (q4.2.mono (fun a j y => zTF_R y))) (q3.1.tf ht q4.2) gf.1.1 ?_ h7 e8 (((h9.tr f2).tr q3.2.2).tr (q4.2.mono (fun a j y => zTF_R y)))
      have q5 := q4.1
      rw [List.append_assoc, List.append_assoc] at q5
      rw [List.append_assoc]
      exact q5
set_option maxRecDepth 20000 in
set_option maxHeartbeats 2000000 in
theorem kW3_readAnds {t z o : Int} {tp : Int → Int} {d d1 : Nat} {f : zσ → zρ} (ht : 0 ≤ t ∧ t < 6) (hT : ztp tp z) (ho : 0 ≤ o ∧ o ≤ 5) (hd : d1 + 1 ≤ d ∧ 10 ≤ d) (hf : zgd z f) (hK1 : zKfw g yX3_readNot (xX3_readNot d1) t tp z o f) : zKfw g yX3_readAnds (xX3_readAnds d) t tp z o (zAnd tp z f) := by
  intro M s L hC hr hz hL hlen
  have hl0 := zlo_l (tp := tp) (z := z) (q := fun t => t = 10) (stp := fun t => (-12 : Int)) (f := f) 160 (f s)
  have hlen2 : L.length + (zlo tp z (fun t => t = 10) (fun t => (-12 : Int)) f 160 (f s)).1.length ≤ 160 := hlen
  refine zK_of (ls0 := [zr 18, zi o, (3, 0)]) (by decide) rfl (fun h => Bool.noConfusion (show false = true from h)) rfl (Nat.le_of_ble_eq_true rfl) ?_
  refine zV_aload_n (pc := 0) (i := 0) dX3_readAnds_0 rfl rfl ?_
  refine zV_iload_n (pc := 1) (i := 1) dX3_readAnds_1 rfl rfl ?_
  refine zV_ivn (pc := 2) (ci := 3) dX3_readAnds_2 klX3_62 (mX3_readNot _) ⟨by decide, rfl⟩ (zRm0_z rfl rfl (Nat.le_of_ble_eq_true rfl) (by omega)) ⟨Nat.zero_le _, Nat.zero_le _⟩ (hK1 M s L hC hr hz hL (by omega)) (zOb_of rfl) rfl rfl (Nat.le_of_ble_eq_true rfl) (fun M1 q1 => ?_)
  refine zV_iconst (pc := 5) dX3_readAnds_5 ?_
  refine zV_istore_n (pc := 6) (i := 2) dX3_readAnds_6 rfl rfl ?_
  try dsimp only [List.set_cons_succ, List.set_cons_zero]
  exact kW3_readAndsL ht hT ho hd hf hK1 160 0 (f s) M1 (by omega) (by omega) (by decide) (hC.fr ht q1.2.2) q1.1 (hf s hz).1.1 q1.2.1 hlen rfl q1.2.2
set_option maxRecDepth 20000 in
set_option maxHeartbeats 2000000 in
theorem kW3_readOrsL {t z o : Int} {tp : Int → Int} {d d1 : Nat} {f : zσ → zρ} (ht : 0 ≤ t ∧ t < 6) (hT : ztp tp z) (ho : 0 ≤ o ∧ o ≤ 5) (hd : d1 + 1 ≤ d ∧ 10 ≤ d) (hf : zgd z f) (hK1 : zKfw g yX3_readAnds (xX3_readAnds d1) t tp z o f) {V : zρ} {M0 : zM} {L0 : List Int} : ∀ (k : Nat) (i : Int) (x : zρ) (M1 : zM), i + k = 160 → 0 ≤ i → (0 : Int) ≤ 0 → zRCw M1 t tp z → zRd M1 x.2 → zσo z x.2 → zTl M1 t (L0 ++ x.1) → L0.length + V.1.length ≤ 160 → zlo tp z (fun t => t = 9) (fun t => (-11 : Int)) f k x = V → zFr (zRF t) M0 M1 → zV g (xX3_readOrs d) (zPn 52 (fun M1 => zRd M1 V.2 ∧ zTl M1 t (L0 ++ V.1) ∧ zFr (zRF t) M0 M1)) 7 [zr 18, zi o, zi i] [] 52 M1 0 0 := by
  intro k
  induction k with
  | zero =>
    intro i x M1 h0 h1 h2 h3 h4 h5 h6 h7 h8 h9
    have hS := h3.1
    have h187 := h3.2.1
    have hz := hT.1
    have er := h4
    obtain ⟨e4, e5, e3, e2, e6⟩ := er
    have hr := h5.2.2.2.2.1
    refine zV_iload_n (pc := 7) (i := 2) dX3_readOrs_7 rfl rfl ?_
    refine zV_sipush (pc := 8) dX3_readOrs_8 (by decide) ?_
    refine zV_icmp_ge (pc := 11) (tgt := 47) dX3_readOrs_11 (by decide) (by omega) (fun c_11 => ?_) (fun c_11 => absurd (by omega) c_11)
    refine zV_vret (pc := 47) dX3_readOrs_47 trivial ⟨Nat.zero_le _, Nat.zero_le _⟩ ?_
    subst h8
    exact ⟨rfl, rfl, h4, h6, h9⟩
  | succ k ih =>
    intro i x M1 h0 h1 h2 h3 h4 h5 h6 h7 h8 h9
    have hS := h3.1
    have h187 := h3.2.1
    have hz := hT.1
    have er := h4
    obtain ⟨e4, e5, e3, e2, e6⟩ := er
    have hr := h5.2.2.2.2.1
    refine zV_iload_n (pc := 7) (i := 2) dX3_readOrs_7 rfl rfl ?_
    refine zV_sipush (pc := 8) dX3_readOrs_8 (by decide) ?_
    refine zV_icmp_ge (pc := 11) (tgt := 47) dX3_readOrs_11 (by decide) (by omega) (fun c_11 => absurd c_11 (by omega)) (fun c_11 => ?_)
    refine zV_aload_n (pc := 14) (i := 0) dX3_readOrs_14 rfl rfl ?_
    refine zV_get (pc := 15) (j := 4) dX3_readOrs_15 flX3_47 (zOb_of rfl) rfl e4 ?_
    refine zV_bipush (pc := 18) dX3_readOrs_18 (by decide) ?_
    refine zV_icmp_ne (pc := 20) (tgt := 47) dX3_readOrs_20 (by decide) (by omega) (fun c_20 => ?_) (fun c_20 => ?_)
    · refine zV_vret (pc := 47) dX3_readOrs_47 trivial ⟨Nat.zero_le _, Nat.zero_le _⟩ ?_
      have e8 := (zlo_f (tp := tp) (z := z) (q := fun t => t = 9) (stp := fun t => (-11 : Int)) (f := f) (k := k + 1) (x := x) c_20).symm.trans h8
      rw [← e8]
      exact ⟨rfl, rfl, h4, h6, h9⟩
    · refine zV_aload_n (pc := 23) (i := 0) dX3_readOrs_23 rfl rfl ?_
      refine zV_ivn (pc := 24) (ci := 3) dX3_readOrs_24 klX3_34 mX3_advance ⟨by decide, rfl⟩ (zRm0_z rfl rfl (Nat.le_of_ble_eq_true rfl) (by omega)) ⟨Nat.zero_le _, Nat.zero_le _⟩ (kW3_advance ht h3 hT (s := x.2) (by have := h5.1; omega) e2 e6) (zOb_of rfl) rfl rfl (Nat.le_of_ble_eq_true rfl) (fun M2 q2 => ?_)
      have hq : (fun t : Int => t = 9) x.2.tk := c_20
      have hlv : zlive x.2 := ⟨by omega, by omega⟩
      have f2 : zFr (zRF t) M1 M2 := q2.2.mono (fun a j y => zAF_R y)
      have ga := (zgx_ad hT h5 hlv).1
      have e8 := (zlo_t (q := fun t => t = 9) (stp := fun t => (-11 : Int)) (f := f) (k := k) hq).symm.trans h8
      have l8 := zlo_l (tp := tp) (z := z) (q := fun t => t = 9) (stp := fun t => (-11 : Int)) (f := f) k (x.1 ++ (f (zadv tp z x.2)).1 ++ [(fun t => (-11 : Int)) x.2.tk], (f (zadv tp z x.2)).2)
      rw [e8] at l8
      simp only [List.length_append, List.length_cons, List.length_nil] at l8
      have gf := hf (zadv tp z x.2) ga.1
      have hC2 := h3.fr ht f2
      have hS2 := hC2.1
      have h187b := hC2.2.1
      refine zV_aload_n (pc := 27) (i := 0) dX3_readOrs_27 rfl rfl ?_
      refine zV_iload_n (pc := 28) (i := 1) dX3_readOrs_28 rfl rfl ?_
      refine zV_ivn (pc := 29) (ci := 3) dX3_readOrs_29 klX3_56 (mX3_readAnds _) ⟨by decide, rfl⟩ (zRm0_z rfl rfl (Nat.le_of_ble_eq_true rfl) (by omega)) ⟨Nat.zero_le _, Nat.zero_le _⟩ (hK1 M2 (zadv tp z x.2) (L0 ++ x.1) hC2 q2.1 ga.1 (h6.bf ht (q2.2.mono (fun a j y => zAF_B y))) (by simp only [List.length_append]; omega)) (zOb_of rfl) rfl rfl (Nat.le_of_ble_eq_true rfl) (fun M3 q3 => ?_)
      have hC3 := hC2.fr ht q3.2.2
      have hS3 := hC3.1
      have h187c := hC3.2.1
      refine zV_aload_n (pc := 32) (i := 0) dX3_readOrs_32 rfl rfl ?_
      refine zV_get (pc := 33) (j := 7) dX3_readOrs_33 flX3_19 (zOb_of rfl) rfl h187c ?_
      refine zV_bipush (pc := 36) dX3_readOrs_36 (by decide) ?_
      refine zV_ivn (pc := 38) (ci := 7) dX3_readOrs_38 klX3_59 mX7_add ⟨by decide, rfl⟩ (zRm0_z rfl rfl (Nat.le_of_ble_eq_true rfl) (by omega)) ⟨Nat.zero_le _, Nat.zero_le _⟩ (kW7_add ht hS3 q3.2.1 (by simp only [List.length_append]; omega)) (zOb_txw ht) rfl rfl (Nat.le_of_ble_eq_true rfl) (fun M4 q4 => ?_)
      refine zV_iinc (pc := 41) dX3_readOrs_41 rfl rfl ?_
      try dsimp only [List.set_cons_succ, List.set_cons_zero]
      refine zV_goto (pc := 44) (tgt := 7) dX3_readOrs_44 (by decide) ?_
      refine ih (i + 1) (x.1 ++ (f (zadv tp z x.2)).1 ++ [(fun t => (-11 : Int)) x.2.tk], (f (zadv tp z x.2)).2) M4 (by omega) (by omega) (by decide) (hC3.fr ht (q4.2.mono (fun a j y => zTF_R y))) (q3.1.tf ht q4.2) gf.1.1 ?_ h7 e8 (((h9.tr f2).tr q3.2.2).tr (q4.2.mono (fun a j y => zTF_R y)))
      have q5 := q4.1
      rw [List.append_assoc, List.append_assoc] at q5
      rw [List.append_assoc]
      exact q5
set_option maxRecDepth 20000 in
set_option maxHeartbeats 2000000 in
theorem kW3_readOrs {t z o : Int} {tp : Int → Int} {d d1 : Nat} {f : zσ → zρ} (ht : 0 ≤ t ∧ t < 6) (hT : ztp tp z) (ho : 0 ≤ o ∧ o ≤ 5) (hd : d1 + 1 ≤ d ∧ 10 ≤ d) (hf : zgd z f) (hK1 : zKfw g yX3_readAnds (xX3_readAnds d1) t tp z o f) : zKfw g yX3_readOrs (xX3_readOrs d) t tp z o (zOr tp z f) := by
  intro M s L hC hr hz hL hlen
  have hl0 := zlo_l (tp := tp) (z := z) (q := fun t => t = 9) (stp := fun t => (-11 : Int)) (f := f) 160 (f s)
  have hlen2 : L.length + (zlo tp z (fun t => t = 9) (fun t => (-11 : Int)) f 160 (f s)).1.length ≤ 160 := hlen
  refine zK_of (ls0 := [zr 18, zi o, (3, 0)]) (by decide) rfl (fun h => Bool.noConfusion (show false = true from h)) rfl (Nat.le_of_ble_eq_true rfl) ?_
  refine zV_aload_n (pc := 0) (i := 0) dX3_readOrs_0 rfl rfl ?_
  refine zV_iload_n (pc := 1) (i := 1) dX3_readOrs_1 rfl rfl ?_
  refine zV_ivn (pc := 2) (ci := 3) dX3_readOrs_2 klX3_56 (mX3_readAnds _) ⟨by decide, rfl⟩ (zRm0_z rfl rfl (Nat.le_of_ble_eq_true rfl) (by omega)) ⟨Nat.zero_le _, Nat.zero_le _⟩ (hK1 M s L hC hr hz hL (by omega)) (zOb_of rfl) rfl rfl (Nat.le_of_ble_eq_true rfl) (fun M1 q1 => ?_)
  refine zV_iconst (pc := 5) dX3_readOrs_5 ?_
  refine zV_istore_n (pc := 6) (i := 2) dX3_readOrs_6 rfl rfl ?_
  try dsimp only [List.set_cons_succ, List.set_cons_zero]
  exact kW3_readOrsL ht hT ho hd hf hK1 160 0 (f s) M1 (by omega) (by omega) (by decide) (hC.fr ht q1.2.2) q1.1 (hf s hz).1.1 q1.2.1 hlen rfl q1.2.2
set_option maxRecDepth 20000 in
set_option maxHeartbeats 2000000 in
theorem kW3_readComparison {t z o : Int} {tp : Int → Int} {d d1 : Nat} {f : zσ → zρ} (ht : 0 ≤ t ∧ t < 6) (hT : ztp tp z) (ho : 0 ≤ o ∧ o ≤ 5) (hd : d1 + 1 ≤ d ∧ 10 ≤ d) (hf : zgd z f) (hK1 : zKfw g yX3_readSum (xX3_readSum d1) t tp z o f) : zKfw g yX3_readComparison (xX3_readComparison d) t tp z o (zCmp tp z f) := by
  intro M s L hC hr hz hL hlen
  have gf := hf s hz
  have hlen2 : L.length + (zit ((f s).2.tk = 60 ∨ (f s).2.tk = 61) ((f s).1 ++ (f (zadv tp z (f s).2)).1 ++ [if (f s).2.tk = 60 then -14 else -15], (f (zadv tp z (f s).2)).2) (f s)).1.length ≤ 160 := hlen
  have hlen4 : L.length + (f s).1.length ≤ 160 := by
    by_cases hq : (f s).2.tk = 60 ∨ (f s).2.tk = 61
    · rw [zit_t hq] at hlen2
      simp only [List.length_append, List.length_cons, List.length_nil] at hlen2
      omega
    · rw [zit_f hq] at hlen2
      exact hlen2
  refine zK_of (ls0 := [zr 18, zi o, (3, 0)]) (by decide) rfl (fun h => Bool.noConfusion (show false = true from h)) rfl (Nat.le_of_ble_eq_true rfl) ?_
  refine zV_aload_n (pc := 0) (i := 0) dX3_readComparison_0 rfl rfl ?_
  refine zV_iload_n (pc := 1) (i := 1) dX3_readComparison_1 rfl rfl ?_
  refine zV_ivn (pc := 2) (ci := 3) dX3_readComparison_2 klX3_68 (mX3_readSum _) ⟨by decide, rfl⟩ (zRm0_z rfl rfl (Nat.le_of_ble_eq_true rfl) (by omega)) ⟨Nat.zero_le _, Nat.zero_le _⟩ (hK1 M s L hC hr hz hL (by omega)) (zOb_of rfl) rfl rfl (Nat.le_of_ble_eq_true rfl) (fun M1 q1 => ?_)
  have e4 : M1 18 4 = (f s).2.tk := q1.1.1
  have hr1 := gf.1.1.2.2.2.2.1
  have hC1 := hC.fr ht q1.2.2
  have hS1 := hC1.1
  refine zV_aload_n (pc := 5) (i := 0) dX3_readComparison_5 rfl rfl ?_
  refine zV_get (pc := 6) (j := 4) dX3_readComparison_6 flX3_47 (zOb_of rfl) rfl rfl ?_
  refine zV_bipush (pc := 9) dX3_readComparison_9 (by decide) ?_
  refine zV_icmp_eq (pc := 11) (tgt := 23) dX3_readComparison_11 (by decide) (by omega) (fun c_11 => ?_) (fun c_11 => ?_)
  · refine zV_aload_n (pc := 23) (i := 0) dX3_readComparison_23 rfl rfl ?_
    refine zV_get (pc := 24) (j := 4) dX3_readComparison_24 flX3_47 (zOb_of rfl) rfl rfl ?_
    refine zV_bipush (pc := 27) dX3_readComparison_27 (by decide) ?_
    refine zV_icmp_ne (pc := 29) (tgt := 37) dX3_readComparison_29 (by decide) (by omega) (fun c_29 => ?_) (fun c_29 => ?_)
    · refine zV_bipush (pc := 37) dX3_readComparison_37 (by decide) ?_
      refine zV_istore_n (pc := 39) (i := 2) dX3_readComparison_39 rfl rfl ?_
      try dsimp only [List.set_cons_succ, List.set_cons_zero]
      refine zV_aload_n (pc := 40) (i := 0) dX3_readComparison_40 rfl rfl ?_
      refine zV_ivn (pc := 41) (ci := 3) dX3_readComparison_41 klX3_34 mX3_advance ⟨by decide, rfl⟩ (zRm0_z rfl rfl (Nat.le_of_ble_eq_true rfl) (by omega)) ⟨Nat.zero_le _, Nat.zero_le _⟩ (kW3_advance ht hC1 hT (s := (f s).2) (by have := gf.1.1.1; omega) q1.1.2.2.2.1 q1.1.2.2.2.2) (zOb_of rfl) rfl rfl (Nat.le_of_ble_eq_true rfl) (fun M2 q2 => ?_)
      have hq : (f s).2.tk = 60 ∨ (f s).2.tk = 61 := by omega
      have ga := (zgx_ad hT gf.1.1 (s := (f s).2) ⟨by omega, by omega⟩).1
      have f2 : zFr (zRF t) M1 M2 := q2.2.mono (fun a j y => zAF_R y)
      have hC2 := hC1.fr ht f2
      have hlen3 := hlen2
      rw [zit_t hq] at hlen3
      simp only [List.length_append, List.length_cons, List.length_nil] at hlen3
      refine zV_aload_n (pc := 44) (i := 0) dX3_readComparison_44 rfl rfl ?_
      refine zV_iload_n (pc := 45) (i := 1) dX3_readComparison_45 rfl rfl ?_
      refine zV_ivn (pc := 46) (ci := 3) dX3_readComparison_46 klX3_68 (mX3_readSum _) ⟨by decide, rfl⟩ (zRm0_z rfl rfl (Nat.le_of_ble_eq_true rfl) (by omega)) ⟨Nat.zero_le _, Nat.zero_le _⟩ (hK1 M2 (zadv tp z (f s).2) (L ++ (f s).1) hC2 q2.1 ga.1 (q1.2.1.bf ht (q2.2.mono (fun a j y => zAF_B y))) (by simp only [List.length_append]; omega)) (zOb_of rfl) rfl rfl (Nat.le_of_ble_eq_true rfl) (fun M3 q3 => ?_)
      have hC3 := hC2.fr ht q3.2.2
      have hS3 := hC3.1
      have h187c := hC3.2.1
      refine zV_aload_n (pc := 49) (i := 0) dX3_readComparison_49 rfl rfl ?_
      refine zV_get (pc := 50) (j := 7) dX3_readComparison_50 flX3_19 (zOb_of rfl) rfl h187c ?_
      refine zV_iload_n (pc := 53) (i := 2) dX3_readComparison_53 rfl rfl ?_
      refine zV_ivn (pc := 54) (ci := 7) dX3_readComparison_54 klX3_59 mX7_add ⟨by decide, rfl⟩ (zRm0_z rfl rfl (Nat.le_of_ble_eq_true rfl) (by omega)) ⟨Nat.zero_le _, Nat.zero_le _⟩ (kW7_add ht hS3 q3.2.1 (by simp only [List.length_append]; omega)) (zOb_txw ht) rfl rfl (Nat.le_of_ble_eq_true rfl) (fun M4 q4 => ?_)
      refine zV_vret (pc := 57) dX3_readComparison_57 trivial ⟨Nat.zero_le _, Nat.zero_le _⟩ ?_
      unfold zCmp
      first
        | (rw [zit_f (by omega)]; exact ⟨rfl, rfl, q1⟩)
        | (rw [zit_t hq]
           refine ⟨rfl, rfl, q3.1.tf ht q4.2, ?_, ((q1.2.2.tr f2).tr q3.2.2).tr (q4.2.mono (fun a j y => zTF_R y))⟩
           have q5 := q4.1
           first
             | rw [← (if_pos (by omega) : (if (f s).2.tk = 60 then (-14 : Int) else -15) = -14)] at q5
             | rw [← (if_neg (by omega) : (if (f s).2.tk = 60 then (-14 : Int) else -15) = -15)] at q5
           rw [List.append_assoc, List.append_assoc] at q5
           rw [List.append_assoc]
           exact q5)
    · refine zV_bipush (pc := 32) dX3_readComparison_32 (by decide) ?_
      refine zV_goto (pc := 34) (tgt := 39) dX3_readComparison_34 (by decide) ?_
      refine zV_istore_n (pc := 39) (i := 2) dX3_readComparison_39 rfl rfl ?_
      try dsimp only [List.set_cons_succ, List.set_cons_zero]
      refine zV_aload_n (pc := 40) (i := 0) dX3_readComparison_40 rfl rfl ?_
      refine zV_ivn (pc := 41) (ci := 3) dX3_readComparison_41 klX3_34 mX3_advance ⟨by decide, rfl⟩ (zRm0_z rfl rfl (Nat.le_of_ble_eq_true rfl) (by omega)) ⟨Nat.zero_le _, Nat.zero_le _⟩ (kW3_advance ht hC1 hT (s := (f s).2) (by have := gf.1.1.1; omega) q1.1.2.2.2.1 q1.1.2.2.2.2) (zOb_of rfl) rfl rfl (Nat.le_of_ble_eq_true rfl) (fun M2 q2 => ?_)
      have hq : (f s).2.tk = 60 ∨ (f s).2.tk = 61 := by omega
      have ga := (zgx_ad hT gf.1.1 (s := (f s).2) ⟨by omega, by omega⟩).1
      have f2 : zFr (zRF t) M1 M2 := q2.2.mono (fun a j y => zAF_R y)
      have hC2 := hC1.fr ht f2
      have hlen3 := hlen2
      rw [zit_t hq] at hlen3
      simp only [List.length_append, List.length_cons, List.length_nil] at hlen3
      refine zV_aload_n (pc := 44) (i := 0) dX3_readComparison_44 rfl rfl ?_
      refine zV_iload_n (pc := 45) (i := 1) dX3_readComparison_45 rfl rfl ?_
      refine zV_ivn (pc := 46) (ci := 3) dX3_readComparison_46 klX3_68 (mX3_readSum _) ⟨by decide, rfl⟩ (zRm0_z rfl rfl (Nat.le_of_ble_eq_true rfl) (by omega)) ⟨Nat.zero_le _, Nat.zero_le _⟩ (hK1 M2 (zadv tp z (f s).2) (L ++ (f s).1) hC2 q2.1 ga.1 (q1.2.1.bf ht (q2.2.mono (fun a j y => zAF_B y))) (by simp only [List.length_append]; omega)) (zOb_of rfl) rfl rfl (Nat.le_of_ble_eq_true rfl) (fun M3 q3 => ?_)
      have hC3 := hC2.fr ht q3.2.2
      have hS3 := hC3.1
      have h187c := hC3.2.1
      refine zV_aload_n (pc := 49) (i := 0) dX3_readComparison_49 rfl rfl ?_
      refine zV_get (pc := 50) (j := 7) dX3_readComparison_50 flX3_19 (zOb_of rfl) rfl h187c ?_
      refine zV_iload_n (pc := 53) (i := 2) dX3_readComparison_53 rfl rfl ?_
      refine zV_ivn (pc := 54) (ci := 7) dX3_readComparison_54 klX3_59 mX7_add ⟨by decide, rfl⟩ (zRm0_z rfl rfl (Nat.le_of_ble_eq_true rfl) (by omega)) ⟨Nat.zero_le _, Nat.zero_le _⟩ (kW7_add ht hS3 q3.2.1 (by simp only [List.length_append]; omega)) (zOb_txw ht) rfl rfl (Nat.le_of_ble_eq_true rfl) (fun M4 q4 => ?_)
      refine zV_vret (pc := 57) dX3_readComparison_57 trivial ⟨Nat.zero_le _, Nat.zero_le _⟩ ?_
      unfold zCmp
      first
        | (rw [zit_f (by omega)]; exact ⟨rfl, rfl, q1⟩)
        | (rw [zit_t hq]
           refine ⟨rfl, rfl, q3.1.tf ht q4.2, ?_, ((q1.2.2.tr f2).tr q3.2.2).tr (q4.2.mono (fun a j y => zTF_R y))⟩
           have q5 := q4.1
           first
             | rw [← (if_pos (by omega) : (if (f s).2.tk = 60 then (-14 : Int) else -15) = -14)] at q5
             | rw [← (if_neg (by omega) : (if (f s).2.tk = 60 then (-14 : Int) else -15) = -15)] at q5
           rw [List.append_assoc, List.append_assoc] at q5
           rw [List.append_assoc]
           exact q5)
  · refine zV_aload_n (pc := 14) (i := 0) dX3_readComparison_14 rfl rfl ?_
    refine zV_get (pc := 15) (j := 4) dX3_readComparison_15 flX3_47 (zOb_of rfl) rfl rfl ?_
    refine zV_bipush (pc := 18) dX3_readComparison_18 (by decide) ?_
    refine zV_icmp_ne (pc := 20) (tgt := 57) dX3_readComparison_20 (by decide) (by omega) (fun c_20 => ?_) (fun c_20 => ?_)
    · refine zV_vret (pc := 57) dX3_readComparison_57 trivial ⟨Nat.zero_le _, Nat.zero_le _⟩ ?_
      unfold zCmp
      first
        | (rw [zit_f (by omega)]; exact ⟨rfl, rfl, q1⟩)
        | (rw [zit_t hq]
           refine ⟨rfl, rfl, q3.1.tf ht q4.2, ?_, ((q1.2.2.tr f2).tr q3.2.2).tr (q4.2.mono (fun a j y => zTF_R y))⟩
           have q5 := q4.1
           first
             | rw [← (if_pos (by omega) : (if (f s).2.tk = 60 then (-14 : Int) else -15) = -14)] at q5
             | rw [← (if_neg (by omega) : (if (f s).2.tk = 60 then (-14 : Int) else -15) = -15)] at q5
           rw [List.append_assoc, List.append_assoc] at q5
           rw [List.append_assoc]
           exact q5)
    · refine zV_aload_n (pc := 23) (i := 0) dX3_readComparison_23 rfl rfl ?_
      refine zV_get (pc := 24) (j := 4) dX3_readComparison_24 flX3_47 (zOb_of rfl) rfl rfl ?_
      refine zV_bipush (pc := 27) dX3_readComparison_27 (by decide) ?_
      refine zV_icmp_ne (pc := 29) (tgt := 37) dX3_readComparison_29 (by decide) (by omega) (fun c_29 => ?_) (fun c_29 => ?_)
      · refine zV_bipush (pc := 37) dX3_readComparison_37 (by decide) ?_
        refine zV_istore_n (pc := 39) (i := 2) dX3_readComparison_39 rfl rfl ?_
        try dsimp only [List.set_cons_succ, List.set_cons_zero]
        refine zV_aload_n (pc := 40) (i := 0) dX3_readComparison_40 rfl rfl ?_
        refine zV_ivn (pc := 41) (ci := 3) dX3_readComparison_41 klX3_34 mX3_advance ⟨by decide, rfl⟩ (zRm0_z rfl rfl (Nat.le_of_ble_eq_true rfl) (by omega)) ⟨Nat.zero_le _, Nat.zero_le _⟩ (kW3_advance ht hC1 hT (s := (f s).2) (by have := gf.1.1.1; omega) q1.1.2.2.2.1 q1.1.2.2.2.2) (zOb_of rfl) rfl rfl (Nat.le_of_ble_eq_true rfl) (fun M2 q2 => ?_)
        have hq : (f s).2.tk = 60 ∨ (f s).2.tk = 61 := by omega
        have ga := (zgx_ad hT gf.1.1 (s := (f s).2) ⟨by omega, by omega⟩).1
        have f2 : zFr (zRF t) M1 M2 := q2.2.mono (fun a j y => zAF_R y)
        have hC2 := hC1.fr ht f2
        have hlen3 := hlen2
        rw [zit_t hq] at hlen3
        simp only [List.length_append, List.length_cons, List.length_nil] at hlen3
        refine zV_aload_n (pc := 44) (i := 0) dX3_readComparison_44 rfl rfl ?_
        refine zV_iload_n (pc := 45) (i := 1) dX3_readComparison_45 rfl rfl ?_
        refine zV_ivn (pc := 46) (ci := 3) dX3_readComparison_46 klX3_68 (mX3_readSum _) ⟨by decide, rfl⟩ (zRm0_z rfl rfl (Nat.le_of_ble_eq_true rfl) (by omega)) ⟨Nat.zero_le _, Nat.zero_le _⟩ (hK1 M2 (zadv tp z (f s).2) (L ++ (f s).1) hC2 q2.1 ga.1 (q1.2.1.bf ht (q2.2.mono (fun a j y => zAF_B y))) (by simp only [List.length_append]; omega)) (zOb_of rfl) rfl rfl (Nat.le_of_ble_eq_true rfl) (fun M3 q3 => ?_)
        have hC3 := hC2.fr ht q3.2.2
        have hS3 := hC3.1
        have h187c := hC3.2.1
        refine zV_aload_n (pc := 49) (i := 0) dX3_readComparison_49 rfl rfl ?_
        refine zV_get (pc := 50) (j := 7) dX3_readComparison_50 flX3_19 (zOb_of rfl) rfl h187c ?_
        refine zV_iload_n (pc := 53) (i := 2) dX3_readComparison_53 rfl rfl ?_
        refine zV_ivn (pc := 54) (ci := 7) dX3_readComparison_54 klX3_59 mX7_add ⟨by decide, rfl⟩ (zRm0_z rfl rfl (Nat.le_of_ble_eq_true rfl) (by omega)) ⟨Nat.zero_le _, Nat.zero_le _⟩ (kW7_add ht hS3 q3.2.1 (by simp only [List.length_append]; omega)) (zOb_txw ht) rfl rfl (Nat.le_of_ble_eq_true rfl) (fun M4 q4 => ?_)
        refine zV_vret (pc := 57) dX3_readComparison_57 trivial ⟨Nat.zero_le _, Nat.zero_le _⟩ ?_
        unfold zCmp
        first
          | (rw [zit_f (by omega)]; exact ⟨rfl, rfl, q1⟩)
          | (rw [zit_t hq]
             refine ⟨rfl, rfl, q3.1.tf ht q4.2, ?_, ((q1.2.2.tr f2).tr q3.2.2).tr (q4.2.mono (fun a j y => zTF_R y))⟩
             have q5 := q4.1
             first
               | rw [← (if_pos (by omega) : (if (f s).2.tk = 60 then (-14 : Int) else -15) = -14)] at q5
               | rw [← (if_neg (by omega) : (if (f s).2.tk = 60 then (-14 : Int) else -15) = -15)] at q5
             rw [List.append_assoc, List.append_assoc] at q5
             rw [List.append_assoc]
             exact q5)
      · refine zV_bipush (pc := 32) dX3_readComparison_32 (by decide) ?_
        refine zV_goto (pc := 34) (tgt := 39) dX3_readComparison_34 (by decide) ?_
        refine zV_istore_n (pc := 39) (i := 2) dX3_readComparison_39 rfl rfl ?_
        try dsimp only [List.set_cons_succ, List.set_cons_zero]
        refine zV_aload_n (pc := 40) (i := 0) dX3_readComparison_40 rfl rfl ?_
        refine zV_ivn (pc := 41) (ci := 3) dX3_readComparison_41 klX3_34 mX3_advance ⟨by decide, rfl⟩ (zRm0_z rfl rfl (Nat.le_of_ble_eq_true rfl) (by omega)) ⟨Nat.zero_le _, Nat.zero_le _⟩ (kW3_advance ht hC1 hT (s := (f s).2) (by have := gf.1.1.1; omega) q1.1.2.2.2.1 q1.1.2.2.2.2) (zOb_of rfl) rfl rfl (Nat.le_of_ble_eq_true rfl) (fun M2 q2 => ?_)
        have hq : (f s).2.tk = 60 ∨ (f s).2.tk = 61 := by omega
        have ga := (zgx_ad hT gf.1.1 (s := (f s).2) ⟨by omega, by omega⟩).1
        have f2 : zFr (zRF t) M1 M2 := q2.2.mono (fun a j y => zAF_R y)
        have hC2 := hC1.fr ht f2
        have hlen3 := hlen2
        rw [zit_t hq] at hlen3
        simp only [List.length_append, List.length_cons, List.length_nil] at hlen3
        refine zV_aload_n (pc := 44) (i := 0) dX3_readComparison_44 rfl rfl ?_
        refine zV_iload_n (pc := 45) (i := 1) dX3_readComparison_45 rfl rfl ?_
        refine zV_ivn (pc := 46) (ci := 3) dX3_readComparison_46 klX3_68 (mX3_readSum _) ⟨by decide, rfl⟩ (zRm0_z rfl rfl (Nat.le_of_ble_eq_true rfl) (by omega)) ⟨Nat.zero_le _, Nat.zero_le _⟩ (hK1 M2 (zadv tp z (f s).2) (L ++ (f s).1) hC2 q2.1 ga.1 (q1.2.1.bf ht (q2.2.mono (fun a j y => zAF_B y))) (by simp only [List.length_append]; omega)) (zOb_of rfl) rfl rfl (Nat.le_of_ble_eq_true rfl) (fun M3 q3 => ?_)
        have hC3 := hC2.fr ht q3.2.2
        have hS3 := hC3.1
        have h187c := hC3.2.1
        refine zV_aload_n (pc := 49) (i := 0) dX3_readComparison_49 rfl rfl ?_
        refine zV_get (pc := 50) (j := 7) dX3_readComparison_50 flX3_19 (zOb_of rfl) rfl h187c ?_
        refine zV_iload_n (pc := 53) (i := 2) dX3_readComparison_53 rfl rfl ?_
        refine zV_ivn (pc := 54) (ci := 7) dX3_readComparison_54 klX3_59 mX7_add ⟨by decide, rfl⟩ (zRm0_z rfl rfl (Nat.le_of_ble_eq_true rfl) (by omega)) ⟨Nat.zero_le _, Nat.zero_le _⟩ (kW7_add ht hS3 q3.2.1 (by simp only [List.length_append]; omega)) (zOb_txw ht) rfl rfl (Nat.le_of_ble_eq_true rfl) (fun M4 q4 => ?_)
        refine zV_vret (pc := 57) dX3_readComparison_57 trivial ⟨Nat.zero_le _, Nat.zero_le _⟩ ?_
        unfold zCmp
        first
          | (rw [zit_f (by omega)]; exact ⟨rfl, rfl, q1⟩)
          | (rw [zit_t hq]
             refine ⟨rfl, rfl, q3.1.tf ht q4.2, ?_, ((q1.2.2.tr f2).tr q3.2.2).tr (q4.2.mono (fun a j y => zTF_R y))⟩
             have q5 := q4.1
             first
               | rw [← (if_pos (by omega) : (if (f s).2.tk = 60 then (-14 : Int) else -15) = -14)] at q5
               | rw [← (if_neg (by omega) : (if (f s).2.tk = 60 then (-14 : Int) else -15) = -15)] at q5
             rw [List.append_assoc, List.append_assoc] at q5
             rw [List.append_assoc]
             exact q5)
end

section
variable {g : zG} {N : Nat} {M : zM}
set_option maxRecDepth 20000 in
set_option maxHeartbeats 2000000 in
theorem kW3_readOne0 {t z : Int} {tp : Int → Int} {d : Nat} (ht : 0 ≤ t ∧ t < 6) (hT : ztp tp z) (hd : 11 ≤ d) : zKfw g yX3_readOne (xX3_readOne d) t tp z 5 (zOne0 tp z) := by
  intro M s L hC hr hz hL hlen
  refine zK_of (ls0 := [zr 18, zi 5]) (by decide) rfl (fun h => Bool.noConfusion (show false = true from h)) rfl (Nat.le_of_ble_eq_true rfl) ?_
  have hS := hC.1
  have h187 := hC.2.1
  have hzz := hT.1
  have er := hr
  obtain ⟨e4, e5, e3, e2, e6⟩ := er
  have hk4 := hz.2.2.2.2.1
  refine zV_aload_n (pc := 0) (i := 0) dX3_readOne_0 rfl rfl ?_
  refine zV_get (pc := 1) (j := 4) dX3_readOne_1 flX3_47 (zOb_of rfl) rfl e4 ?_
  refine zV_iconst (pc := 4) dX3_readOne_4 ?_
  refine zV_icmp_ne (pc := 5) (tgt := 26) dX3_readOne_5 (by decide) (by omega) (fun c_5 => ?_) (fun c_5 => ?_)
  · refine zV_aload_n (pc := 26) (i := 0) dX3_readOne_26 rfl rfl ?_
    refine zV_get (pc := 27) (j := 4) dX3_readOne_27 flX3_47 (zOb_of rfl) rfl e4 ?_
    refine zV_iconst (pc := 30) dX3_readOne_30 ?_
    refine zV_icmp_ne (pc := 31) (tgt := 54) dX3_readOne_31 (by decide) (by omega) (fun c_31 => ?_) (fun c_31 => ?_)
    · refine zV_aload_n (pc := 54) (i := 0) dX3_readOne_54 rfl rfl ?_
      refine zV_get (pc := 55) (j := 4) dX3_readOne_55 flX3_47 (zOb_of rfl) rfl e4 ?_
      refine zV_bipush (pc := 58) dX3_readOne_58 (by decide) ?_
      refine zV_icmp_ne (pc := 60) (tgt := 91) dX3_readOne_60 (by decide) (by omega) (fun c_60 => ?_) (fun c_60 => ?_)
      · refine zV_aload_n (pc := 91) (i := 0) dX3_readOne_91 rfl rfl ?_
        refine zV_get (pc := 92) (j := 4) dX3_readOne_92 flX3_47 (zOb_of rfl) rfl e4 ?_
        refine zV_bipush (pc := 95) dX3_readOne_95 (by decide) ?_
        refine zV_icmp_ne (pc := 97) (tgt := 125) dX3_readOne_97 (by decide) (by omega) (fun c_97 => ?_) (fun c_97 => ?_)
        · have e : zOne0 tp z s = ([], zfl s) := (if_neg c_5).trans (if_neg c_31)
          rw [e]
          refine zV_aload_n (pc := 125) (i := 0) dX3_readOne_125 rfl rfl ?_
          refine zV_ivn (pc := 126) (ci := 3) dX3_readOne_126 klX3_50 mX3_fail ⟨by decide, rfl⟩ (zRm0_z rfl rfl (Nat.le_of_ble_eq_true rfl) (by omega)) ⟨Nat.zero_le _, Nat.zero_le _⟩ (kW3_fail ht hC hT hr hz) (zOb_of rfl) rfl rfl (Nat.le_of_ble_eq_true rfl) (fun M1 q1 => ?_)
          refine zV_vret (pc := 129) dX3_readOne_129 trivial ⟨Nat.zero_le _, Nat.zero_le _⟩ ?_
          first
            | exact ⟨rfl, rfl, q2.1, q1.1.bf ht (q2.2.mono (fun a j y => zAF_B y)), (q1.2.mono (fun a j y => zTF_R y)).tr (q2.2.mono (fun a j y => zAF_R y))⟩
            | (have q5 := q3.1
               rw [List.append_assoc] at q5
               exact ⟨rfl, rfl, q2.1.tf ht q3.2, q5, (f2a.tr q2.2.2).tr (q3.2.mono (fun a j y => zTF_R y))⟩)
            | exact ⟨rfl, rfl, q3.1, q2.2.1.bf ht q3.2, (f2a.tr q2.2.2).tr (q3.2.mono (fun a j y => zBF_R y))⟩
            | exact ⟨rfl, rfl, q1.1, (List.append_nil L).symm ▸ (hL.bf ht q1.2), q1.2.mono (fun a j y => zBF_R y)⟩
        · refine zV_iload_n (pc := 100) (i := 1) dX3_readOne_100 rfl rfl ?_
          refine zV_iconst (pc := 101) dX3_readOne_101 ?_
          refine zV_icmp_ge (pc := 102) (tgt := 125) dX3_readOne_102 (by decide) (by omega) (fun c_102 => ?_) (fun c_102 => absurd (by decide) c_102)
          have e : zOne0 tp z s = ([], zfl s) := (if_neg c_5).trans (if_neg c_31)
          rw [e]
          refine zV_aload_n (pc := 125) (i := 0) dX3_readOne_125 rfl rfl ?_
          refine zV_ivn (pc := 126) (ci := 3) dX3_readOne_126 klX3_50 mX3_fail ⟨by decide, rfl⟩ (zRm0_z rfl rfl (Nat.le_of_ble_eq_true rfl) (by omega)) ⟨Nat.zero_le _, Nat.zero_le _⟩ (kW3_fail ht hC hT hr hz) (zOb_of rfl) rfl rfl (Nat.le_of_ble_eq_true rfl) (fun M1 q1 => ?_)
          refine zV_vret (pc := 129) dX3_readOne_129 trivial ⟨Nat.zero_le _, Nat.zero_le _⟩ ?_
          first
            | exact ⟨rfl, rfl, q2.1, q1.1.bf ht (q2.2.mono (fun a j y => zAF_B y)), (q1.2.mono (fun a j y => zTF_R y)).tr (q2.2.mono (fun a j y => zAF_R y))⟩
            | (have q5 := q3.1
               rw [List.append_assoc] at q5
               exact ⟨rfl, rfl, q2.1.tf ht q3.2, q5, (f2a.tr q2.2.2).tr (q3.2.mono (fun a j y => zTF_R y))⟩)
            | exact ⟨rfl, rfl, q3.1, q2.2.1.bf ht q3.2, (f2a.tr q2.2.2).tr (q3.2.mono (fun a j y => zBF_R y))⟩
            | exact ⟨rfl, rfl, q1.1, (List.append_nil L).symm ▸ (hL.bf ht q1.2), q1.2.mono (fun a j y => zBF_R y)⟩
      · refine zV_iload_n (pc := 63) (i := 1) dX3_readOne_63 rfl rfl ?_
        refine zV_iconst (pc := 64) dX3_readOne_64 ?_
        refine zV_icmp_ge (pc := 65) (tgt := 91) dX3_readOne_65 (by decide) (by omega) (fun c_65 => ?_) (fun c_65 => absurd (by decide) c_65)
        refine zV_aload_n (pc := 91) (i := 0) dX3_readOne_91 rfl rfl ?_
        refine zV_get (pc := 92) (j := 4) dX3_readOne_92 flX3_47 (zOb_of rfl) rfl e4 ?_
        refine zV_bipush (pc := 95) dX3_readOne_95 (by decide) ?_
        refine zV_icmp_ne (pc := 97) (tgt := 125) dX3_readOne_97 (by decide) (by omega) (fun c_97 => ?_) (fun c_97 => ?_)
        · have e : zOne0 tp z s = ([], zfl s) := (if_neg c_5).trans (if_neg c_31)
          rw [e]
          refine zV_aload_n (pc := 125) (i := 0) dX3_readOne_125 rfl rfl ?_
          refine zV_ivn (pc := 126) (ci := 3) dX3_readOne_126 klX3_50 mX3_fail ⟨by decide, rfl⟩ (zRm0_z rfl rfl (Nat.le_of_ble_eq_true rfl) (by omega)) ⟨Nat.zero_le _, Nat.zero_le _⟩ (kW3_fail ht hC hT hr hz) (zOb_of rfl) rfl rfl (Nat.le_of_ble_eq_true rfl) (fun M1 q1 => ?_)
          refine zV_vret (pc := 129) dX3_readOne_129 trivial ⟨Nat.zero_le _, Nat.zero_le _⟩ ?_
          first
            | exact ⟨rfl, rfl, q2.1, q1.1.bf ht (q2.2.mono (fun a j y => zAF_B y)), (q1.2.mono (fun a j y => zTF_R y)).tr (q2.2.mono (fun a j y => zAF_R y))⟩
            | (have q5 := q3.1
               rw [List.append_assoc] at q5
               exact ⟨rfl, rfl, q2.1.tf ht q3.2, q5, (f2a.tr q2.2.2).tr (q3.2.mono (fun a j y => zTF_R y))⟩)
            | exact ⟨rfl, rfl, q3.1, q2.2.1.bf ht q3.2, (f2a.tr q2.2.2).tr (q3.2.mono (fun a j y => zBF_R y))⟩
            | exact ⟨rfl, rfl, q1.1, (List.append_nil L).symm ▸ (hL.bf ht q1.2), q1.2.mono (fun a j y => zBF_R y)⟩
        · refine zV_iload_n (pc := 100) (i := 1) dX3_readOne_100 rfl rfl ?_
          refine zV_iconst (pc := 101) dX3_readOne_101 ?_
          refine zV_icmp_ge (pc := 102) (tgt := 125) dX3_readOne_102 (by decide) (by omega) (fun c_102 => ?_) (fun c_102 => absurd (by decide) c_102)
          have e : zOne0 tp z s = ([], zfl s) := (if_neg c_5).trans (if_neg c_31)
          rw [e]
          refine zV_aload_n (pc := 125) (i := 0) dX3_readOne_125 rfl rfl ?_
          refine zV_ivn (pc := 126) (ci := 3) dX3_readOne_126 klX3_50 mX3_fail ⟨by decide, rfl⟩ (zRm0_z rfl rfl (Nat.le_of_ble_eq_true rfl) (by omega)) ⟨Nat.zero_le _, Nat.zero_le _⟩ (kW3_fail ht hC hT hr hz) (zOb_of rfl) rfl rfl (Nat.le_of_ble_eq_true rfl) (fun M1 q1 => ?_)
          refine zV_vret (pc := 129) dX3_readOne_129 trivial ⟨Nat.zero_le _, Nat.zero_le _⟩ ?_
          first
            | exact ⟨rfl, rfl, q2.1, q1.1.bf ht (q2.2.mono (fun a j y => zAF_B y)), (q1.2.mono (fun a j y => zTF_R y)).tr (q2.2.mono (fun a j y => zAF_R y))⟩
            | (have q5 := q3.1
               rw [List.append_assoc] at q5
               exact ⟨rfl, rfl, q2.1.tf ht q3.2, q5, (f2a.tr q2.2.2).tr (q3.2.mono (fun a j y => zTF_R y))⟩)
            | exact ⟨rfl, rfl, q3.1, q2.2.1.bf ht q3.2, (f2a.tr q2.2.2).tr (q3.2.mono (fun a j y => zBF_R y))⟩
            | exact ⟨rfl, rfl, q1.1, (List.append_nil L).symm ▸ (hL.bf ht q1.2), q1.2.mono (fun a j y => zBF_R y)⟩
    · have e : zOne0 tp z s = ([-1 - s.vl], zadv tp z s) := (if_neg c_5).trans (if_pos c_31)
      rw [e] at hlen ⊢
      have hlen2 : L.length + 1 ≤ 160 := hlen
      refine zV_aload_n (pc := 34) (i := 0) dX3_readOne_34 rfl rfl ?_
      refine zV_get (pc := 35) (j := 7) dX3_readOne_35 flX3_19 (zOb_of rfl) rfl h187 ?_
      refine zV_iconst (pc := 38) dX3_readOne_38 ?_
      refine zV_aload_n (pc := 39) (i := 0) dX3_readOne_39 rfl rfl ?_
      refine zV_get (pc := 40) (j := 5) dX3_readOne_40 flX3_77 (zOb_of rfl) rfl (e5 (by omega)) ?_
      refine zV_isub (pc := 43) dX3_readOne_43 ?_
      refine zV_ivn (pc := 44) (ci := 7) dX3_readOne_44 klX3_59 mX7_add ⟨by decide, rfl⟩ (zRm0_z rfl rfl (Nat.le_of_ble_eq_true rfl) (by omega)) ⟨Nat.zero_le _, Nat.zero_le _⟩ (kW7_add ht hS hL (by omega)) (zOb_txw ht) rfl rfl (Nat.le_of_ble_eq_true rfl) (fun M1 q1 => ?_)
      have hCb := hC.fr ht (q1.2.mono (fun a j y => zTF_R y))
      have hrb := hr.tf ht q1.2
      refine zV_aload_n (pc := 47) (i := 0) dX3_readOne_47 rfl rfl ?_
      refine zV_ivn (pc := 48) (ci := 3) dX3_readOne_48 klX3_34 mX3_advance ⟨by decide, rfl⟩ (zRm0_z rfl rfl (Nat.le_of_ble_eq_true rfl) (by omega)) ⟨Nat.zero_le _, Nat.zero_le _⟩ (kW3_advance ht hCb hT (s := s) (by have := hz.1; omega) hrb.2.2.2.1 hrb.2.2.2.2) (zOb_of rfl) rfl rfl (Nat.le_of_ble_eq_true rfl) (fun M2 q2 => ?_)
      refine zV_goto (pc := 51) (tgt := 129) dX3_readOne_51 (by decide) ?_
      refine zV_vret (pc := 129) dX3_readOne_129 trivial ⟨Nat.zero_le _, Nat.zero_le _⟩ ?_
      first
        | exact ⟨rfl, rfl, q2.1, q1.1.bf ht (q2.2.mono (fun a j y => zAF_B y)), (q1.2.mono (fun a j y => zTF_R y)).tr (q2.2.mono (fun a j y => zAF_R y))⟩
        | (have q5 := q3.1
           rw [List.append_assoc] at q5
           exact ⟨rfl, rfl, q2.1.tf ht q3.2, q5, (f2a.tr q2.2.2).tr (q3.2.mono (fun a j y => zTF_R y))⟩)
        | exact ⟨rfl, rfl, q3.1, q2.2.1.bf ht q3.2, (f2a.tr q2.2.2).tr (q3.2.mono (fun a j y => zBF_R y))⟩
        | exact ⟨rfl, rfl, q1.1, (List.append_nil L).symm ▸ (hL.bf ht q1.2), q1.2.mono (fun a j y => zBF_R y)⟩
  · have e : zOne0 tp z s = ([s.vl], zadv tp z s) := if_pos c_5
    rw [e] at hlen ⊢
    have hlen2 : L.length + 1 ≤ 160 := hlen
    refine zV_aload_n (pc := 8) (i := 0) dX3_readOne_8 rfl rfl ?_
    refine zV_get (pc := 9) (j := 7) dX3_readOne_9 flX3_19 (zOb_of rfl) rfl h187 ?_
    refine zV_aload_n (pc := 12) (i := 0) dX3_readOne_12 rfl rfl ?_
    refine zV_get (pc := 13) (j := 5) dX3_readOne_13 flX3_77 (zOb_of rfl) rfl (e5 (by omega)) ?_
    refine zV_ivn (pc := 16) (ci := 7) dX3_readOne_16 klX3_59 mX7_add ⟨by decide, rfl⟩ (zRm0_z rfl rfl (Nat.le_of_ble_eq_true rfl) (by omega)) ⟨Nat.zero_le _, Nat.zero_le _⟩ (kW7_add ht hS hL (by omega)) (zOb_txw ht) rfl rfl (Nat.le_of_ble_eq_true rfl) (fun M1 q1 => ?_)
    have hCb := hC.fr ht (q1.2.mono (fun a j y => zTF_R y))
    have hrb := hr.tf ht q1.2
    refine zV_aload_n (pc := 19) (i := 0) dX3_readOne_19 rfl rfl ?_
    refine zV_ivn (pc := 20) (ci := 3) dX3_readOne_20 klX3_34 mX3_advance ⟨by decide, rfl⟩ (zRm0_z rfl rfl (Nat.le_of_ble_eq_true rfl) (by omega)) ⟨Nat.zero_le _, Nat.zero_le _⟩ (kW3_advance ht hCb hT (s := s) (by have := hz.1; omega) hrb.2.2.2.1 hrb.2.2.2.2) (zOb_of rfl) rfl rfl (Nat.le_of_ble_eq_true rfl) (fun M2 q2 => ?_)
    refine zV_goto (pc := 23) (tgt := 129) dX3_readOne_23 (by decide) ?_
    refine zV_vret (pc := 129) dX3_readOne_129 trivial ⟨Nat.zero_le _, Nat.zero_le _⟩ ?_
    first
      | exact ⟨rfl, rfl, q2.1, q1.1.bf ht (q2.2.mono (fun a j y => zAF_B y)), (q1.2.mono (fun a j y => zTF_R y)).tr (q2.2.mono (fun a j y => zAF_R y))⟩
      | (have q5 := q3.1
         rw [List.append_assoc] at q5
         exact ⟨rfl, rfl, q2.1.tf ht q3.2, q5, (f2a.tr q2.2.2).tr (q3.2.mono (fun a j y => zTF_R y))⟩)
      | exact ⟨rfl, rfl, q3.1, q2.2.1.bf ht q3.2, (f2a.tr q2.2.2).tr (q3.2.mono (fun a j y => zBF_R y))⟩
      | exact ⟨rfl, rfl, q1.1, (List.append_nil L).symm ▸ (hL.bf ht q1.2), q1.2.mono (fun a j y => zBF_R y)⟩
set_option maxRecDepth 20000 in
set_option maxHeartbeats 2000000 in
theorem kW3_readOneS {t z o : Int} {tp : Int → Int} {d d1 d2 : Nat} {f1 f2 : zσ → zρ} (ht : 0 ≤ t ∧ t < 6) (hT : ztp tp z) (ho : 0 ≤ o ∧ o < 5) (hd : d1 + 1 ≤ d ∧ d2 + 1 ≤ d ∧ 11 ≤ d) (hf1 : zgd z f1) (hf2 : zgd z f2) (hK1 : zKfw g yX3_readOne (xX3_readOne d1) t tp z (o + 1) f1) (hK2 : zKfw g yX3_readOrs (xX3_readOrs d2) t tp z (o + 1) f2) : zKfw g yX3_readOne (xX3_readOne d) t tp z o (zOneS tp z f1 f2) := by
  intro M s L hC hr hz hL hlen
  refine zK_of (ls0 := [zr 18, zi o]) (by decide) rfl (fun h => Bool.noConfusion (show false = true from h)) rfl (Nat.le_of_ble_eq_true rfl) ?_
  have hS := hC.1
  have h187 := hC.2.1
  have hzz := hT.1
  have er := hr
  obtain ⟨e4, e5, e3, e2, e6⟩ := er
  have hk4 := hz.2.2.2.2.1
  refine zV_aload_n (pc := 0) (i := 0) dX3_readOne_0 rfl rfl ?_
  refine zV_get (pc := 1) (j := 4) dX3_readOne_1 flX3_47 (zOb_of rfl) rfl e4 ?_
  refine zV_iconst (pc := 4) dX3_readOne_4 ?_
  refine zV_icmp_ne (pc := 5) (tgt := 26) dX3_readOne_5 (by decide) (by omega) (fun c_5 => ?_) (fun c_5 => ?_)
  · refine zV_aload_n (pc := 26) (i := 0) dX3_readOne_26 rfl rfl ?_
    refine zV_get (pc := 27) (j := 4) dX3_readOne_27 flX3_47 (zOb_of rfl) rfl e4 ?_
    refine zV_iconst (pc := 30) dX3_readOne_30 ?_
    refine zV_icmp_ne (pc := 31) (tgt := 54) dX3_readOne_31 (by decide) (by omega) (fun c_31 => ?_) (fun c_31 => ?_)
    · refine zV_aload_n (pc := 54) (i := 0) dX3_readOne_54 rfl rfl ?_
      refine zV_get (pc := 55) (j := 4) dX3_readOne_55 flX3_47 (zOb_of rfl) rfl e4 ?_
      refine zV_bipush (pc := 58) dX3_readOne_58 (by decide) ?_
      refine zV_icmp_ne (pc := 60) (tgt := 91) dX3_readOne_60 (by decide) (by omega) (fun c_60 => ?_) (fun c_60 => ?_)
      · refine zV_aload_n (pc := 91) (i := 0) dX3_readOne_91 rfl rfl ?_
        refine zV_get (pc := 92) (j := 4) dX3_readOne_92 flX3_47 (zOb_of rfl) rfl e4 ?_
        refine zV_bipush (pc := 95) dX3_readOne_95 (by decide) ?_
        refine zV_icmp_ne (pc := 97) (tgt := 125) dX3_readOne_97 (by decide) (by omega) (fun c_97 => ?_) (fun c_97 => ?_)
        · have e : zOneS tp z f1 f2 s = ([], zfl s) := (if_neg c_5).trans ((if_neg c_31).trans ((if_neg c_60).trans (if_neg c_97)))
          rw [e]
          refine zV_aload_n (pc := 125) (i := 0) dX3_readOne_125 rfl rfl ?_
          refine zV_ivn (pc := 126) (ci := 3) dX3_readOne_126 klX3_50 mX3_fail ⟨by decide, rfl⟩ (zRm0_z rfl rfl (Nat.le_of_ble_eq_true rfl) (by omega)) ⟨Nat.zero_le _, Nat.zero_le _⟩ (kW3_fail ht hC hT hr hz) (zOb_of rfl) rfl rfl (Nat.le_of_ble_eq_true rfl) (fun M1 q1 => ?_)
          refine zV_vret (pc := 129) dX3_readOne_129 trivial ⟨Nat.zero_le _, Nat.zero_le _⟩ ?_
          first
            | exact ⟨rfl, rfl, q2.1, q1.1.bf ht (q2.2.mono (fun a j y => zAF_B y)), (q1.2.mono (fun a j y => zTF_R y)).tr (q2.2.mono (fun a j y => zAF_R y))⟩
            | (have q5 := q3.1
               rw [List.append_assoc] at q5
               exact ⟨rfl, rfl, q2.1.tf ht q3.2, q5, (f2a.tr q2.2.2).tr (q3.2.mono (fun a j y => zTF_R y))⟩)
            | exact ⟨rfl, rfl, q3.1, q2.2.1.bf ht q3.2, (f2a.tr q2.2.2).tr (q3.2.mono (fun a j y => zBF_R y))⟩
            | exact ⟨rfl, rfl, q1.1, (List.append_nil L).symm ▸ (hL.bf ht q1.2), q1.2.mono (fun a j y => zBF_R y)⟩
        · refine zV_iload_n (pc := 100) (i := 1) dX3_readOne_100 rfl rfl ?_
          refine zV_iconst (pc := 101) dX3_readOne_101 ?_
          refine zV_icmp_ge (pc := 102) (tgt := 125) dX3_readOne_102 (by decide) (by omega) (fun c_102 => absurd c_102 (by omega)) (fun c_102 => ?_)
          have e : zOneS tp z f1 f2 s = ((f2 (zadv tp z s)).1, znd tp z 41 (f2 (zadv tp z s)).2) := (if_neg c_5).trans ((if_neg c_31).trans ((if_neg c_60).trans (if_pos c_97)))
          rw [e] at hlen ⊢
          have hlen2 : L.length + (f2 (zadv tp z s)).1.length ≤ 160 := hlen
          refine zV_aload_n (pc := 105) (i := 0) dX3_readOne_105 rfl rfl ?_
          refine zV_ivn (pc := 106) (ci := 3) dX3_readOne_106 klX3_34 mX3_advance ⟨by decide, rfl⟩ (zRm0_z rfl rfl (Nat.le_of_ble_eq_true rfl) (by omega)) ⟨Nat.zero_le _, Nat.zero_le _⟩ (kW3_advance ht hC hT (s := s) (by have := hz.1; omega) e2 e6) (zOb_of rfl) rfl rfl (Nat.le_of_ble_eq_true rfl) (fun M1 q1 => ?_)
          have hlv : zlive s := ⟨by omega, by omega⟩
          have ga := (zgx_ad hT hz hlv).1
          have f2a : zFr (zRF t) M M1 := q1.2.mono (fun a j y => zAF_R y)
          have hC1 := hC.fr ht f2a
          refine zV_aload_n (pc := 109) (i := 0) dX3_readOne_109 rfl rfl ?_
          refine zV_iload_n (pc := 110) (i := 1) dX3_readOne_110 rfl rfl ?_
          refine zV_iconst (pc := 111) dX3_readOne_111 ?_
          refine zV_iadd (pc := 112) dX3_readOne_112 ?_
          refine zV_ivn (pc := 113) (ci := 3) dX3_readOne_113 klX3_41 (mX3_readOrs _) ⟨by decide, rfl⟩ (zRm0_z rfl rfl (Nat.le_of_ble_eq_true rfl) (by omega)) ⟨Nat.zero_le _, Nat.zero_le _⟩ (hK2 M1 (zadv tp z s) L hC1 q1.1 ga.1 (hL.bf ht (q1.2.mono (fun a j y => zAF_B y))) (by omega)) (zOb_of rfl) rfl rfl (Nat.le_of_ble_eq_true rfl) (fun M2 q2 => ?_)
          have hC2 := hC1.fr ht q2.2.2
          have gb := hf2 _ ga.1
          refine zV_aload_n (pc := 116) (i := 0) dX3_readOne_116 rfl rfl ?_
          refine zV_bipush (pc := 117) dX3_readOne_117 (by decide) ?_
          refine zV_ivn (pc := 119) (ci := 3) dX3_readOne_119 klX3_37 mX3_need ⟨by decide, rfl⟩ (zRm0_z rfl rfl (Nat.le_of_ble_eq_true rfl) (by omega)) ⟨Nat.zero_le _, Nat.zero_le _⟩ (kW3_need ht hC2 hT q2.1 gb.1.1 (by decide) (by decide)) (zOb_of rfl) rfl rfl (Nat.le_of_ble_eq_true rfl) (fun M3 q3 => ?_)
          refine zV_goto (pc := 122) (tgt := 129) dX3_readOne_122 (by decide) ?_
          refine zV_vret (pc := 129) dX3_readOne_129 trivial ⟨Nat.zero_le _, Nat.zero_le _⟩ ?_
          first
            | exact ⟨rfl, rfl, q2.1, q1.1.bf ht (q2.2.mono (fun a j y => zAF_B y)), (q1.2.mono (fun a j y => zTF_R y)).tr (q2.2.mono (fun a j y => zAF_R y))⟩
            | (have q5 := q3.1
               rw [List.append_assoc] at q5
               exact ⟨rfl, rfl, q2.1.tf ht q3.2, q5, (f2a.tr q2.2.2).tr (q3.2.mono (fun a j y => zTF_R y))⟩)
            | exact ⟨rfl, rfl, q3.1, q2.2.1.bf ht q3.2, (f2a.tr q2.2.2).tr (q3.2.mono (fun a j y => zBF_R y))⟩
            | exact ⟨rfl, rfl, q1.1, (List.append_nil L).symm ▸ (hL.bf ht q1.2), q1.2.mono (fun a j y => zBF_R y)⟩
      · refine zV_iload_n (pc := 63) (i := 1) dX3_readOne_63 rfl rfl ?_
        refine zV_iconst (pc := 64) dX3_readOne_64 ?_
        refine zV_icmp_ge (pc := 65) (tgt := 91) dX3_readOne_65 (by decide) (by omega) (fun c_65 => absurd c_65 (by omega)) (fun c_65 => ?_)
        have e : zOneS tp z f1 f2 s = ((f1 (zadv tp z s)).1 ++ [-19], (f1 (zadv tp z s)).2) := (if_neg c_5).trans ((if_neg c_31).trans (if_pos c_60))
        rw [e] at hlen ⊢
        have hlen2 := hlen
        simp only [List.length_append, List.length_cons, List.length_nil] at hlen2
        refine zV_aload_n (pc := 68) (i := 0) dX3_readOne_68 rfl rfl ?_
        refine zV_ivn (pc := 69) (ci := 3) dX3_readOne_69 klX3_34 mX3_advance ⟨by decide, rfl⟩ (zRm0_z rfl rfl (Nat.le_of_ble_eq_true rfl) (by omega)) ⟨Nat.zero_le _, Nat.zero_le _⟩ (kW3_advance ht hC hT (s := s) (by have := hz.1; omega) e2 e6) (zOb_of rfl) rfl rfl (Nat.le_of_ble_eq_true rfl) (fun M1 q1 => ?_)
        have hlv : zlive s := ⟨by omega, by omega⟩
        have ga := (zgx_ad hT hz hlv).1
        have f2a : zFr (zRF t) M M1 := q1.2.mono (fun a j y => zAF_R y)
        have hC1 := hC.fr ht f2a
        refine zV_aload_n (pc := 72) (i := 0) dX3_readOne_72 rfl rfl ?_
        refine zV_iload_n (pc := 73) (i := 1) dX3_readOne_73 rfl rfl ?_
        refine zV_iconst (pc := 74) dX3_readOne_74 ?_
        refine zV_iadd (pc := 75) dX3_readOne_75 ?_
        refine zV_ivn (pc := 76) (ci := 3) dX3_readOne_76 klX3_74 (mX3_readOne _) ⟨by decide, rfl⟩ (zRm0_z rfl rfl (Nat.le_of_ble_eq_true rfl) (by omega)) ⟨Nat.zero_le _, Nat.zero_le _⟩ (hK1 M1 (zadv tp z s) L hC1 q1.1 ga.1 (hL.bf ht (q1.2.mono (fun a j y => zAF_B y))) (by omega)) (zOb_of rfl) rfl rfl (Nat.le_of_ble_eq_true rfl) (fun M2 q2 => ?_)
        have hC2 := hC1.fr ht q2.2.2
        have hS2 := hC2.1
        have h187b := hC2.2.1
        refine zV_aload_n (pc := 79) (i := 0) dX3_readOne_79 rfl rfl ?_
        refine zV_get (pc := 80) (j := 7) dX3_readOne_80 flX3_19 (zOb_of rfl) rfl h187b ?_
        refine zV_bipush (pc := 83) dX3_readOne_83 (by decide) ?_
        refine zV_ivn (pc := 85) (ci := 7) dX3_readOne_85 klX3_59 mX7_add ⟨by decide, rfl⟩ (zRm0_z rfl rfl (Nat.le_of_ble_eq_true rfl) (by omega)) ⟨Nat.zero_le _, Nat.zero_le _⟩ (kW7_add ht hS2 q2.2.1 (by simp only [List.length_append]; omega)) (zOb_txw ht) rfl rfl (Nat.le_of_ble_eq_true rfl) (fun M3 q3 => ?_)
        refine zV_goto (pc := 88) (tgt := 129) dX3_readOne_88 (by decide) ?_
        refine zV_vret (pc := 129) dX3_readOne_129 trivial ⟨Nat.zero_le _, Nat.zero_le _⟩ ?_
        first
          | exact ⟨rfl, rfl, q2.1, q1.1.bf ht (q2.2.mono (fun a j y => zAF_B y)), (q1.2.mono (fun a j y => zTF_R y)).tr (q2.2.mono (fun a j y => zAF_R y))⟩
          | (have q5 := q3.1
             rw [List.append_assoc] at q5
             exact ⟨rfl, rfl, q2.1.tf ht q3.2, q5, (f2a.tr q2.2.2).tr (q3.2.mono (fun a j y => zTF_R y))⟩)
          | exact ⟨rfl, rfl, q3.1, q2.2.1.bf ht q3.2, (f2a.tr q2.2.2).tr (q3.2.mono (fun a j y => zBF_R y))⟩
          | exact ⟨rfl, rfl, q1.1, (List.append_nil L).symm ▸ (hL.bf ht q1.2), q1.2.mono (fun a j y => zBF_R y)⟩
    · have e : zOneS tp z f1 f2 s = ([-1 - s.vl], zadv tp z s) := (if_neg c_5).trans (if_pos c_31)
      rw [e] at hlen ⊢
      have hlen2 : L.length + 1 ≤ 160 := hlen
      refine zV_aload_n (pc := 34) (i := 0) dX3_readOne_34 rfl rfl ?_
      refine zV_get (pc := 35) (j := 7) dX3_readOne_35 flX3_19 (zOb_of rfl) rfl h187 ?_
      refine zV_iconst (pc := 38) dX3_readOne_38 ?_
      refine zV_aload_n (pc := 39) (i := 0) dX3_readOne_39 rfl rfl ?_
      refine zV_get (pc := 40) (j := 5) dX3_readOne_40 flX3_77 (zOb_of rfl) rfl (e5 (by omega)) ?_
      refine zV_isub (pc := 43) dX3_readOne_43 ?_
      refine zV_ivn (pc := 44) (ci := 7) dX3_readOne_44 klX3_59 mX7_add ⟨by decide, rfl⟩ (zRm0_z rfl rfl (Nat.le_of_ble_eq_true rfl) (by omega)) ⟨Nat.zero_le _, Nat.zero_le _⟩ (kW7_add ht hS hL (by omega)) (zOb_txw ht) rfl rfl (Nat.le_of_ble_eq_true rfl) (fun M1 q1 => ?_)
      have hCb := hC.fr ht (q1.2.mono (fun a j y => zTF_R y))
      have hrb := hr.tf ht q1.2
      refine zV_aload_n (pc := 47) (i := 0) dX3_readOne_47 rfl rfl ?_
      refine zV_ivn (pc := 48) (ci := 3) dX3_readOne_48 klX3_34 mX3_advance ⟨by decide, rfl⟩ (zRm0_z rfl rfl (Nat.le_of_ble_eq_true rfl) (by omega)) ⟨Nat.zero_le _, Nat.zero_le _⟩ (kW3_advance ht hCb hT (s := s) (by have := hz.1; omega) hrb.2.2.2.1 hrb.2.2.2.2) (zOb_of rfl) rfl rfl (Nat.le_of_ble_eq_true rfl) (fun M2 q2 => ?_)
      refine zV_goto (pc := 51) (tgt := 129) dX3_readOne_51 (by decide) ?_
      refine zV_vret (pc := 129) dX3_readOne_129 trivial ⟨Nat.zero_le _, Nat.zero_le _⟩ ?_
      first
        | exact ⟨rfl, rfl, q2.1, q1.1.bf ht (q2.2.mono (fun a j y => zAF_B y)), (q1.2.mono (fun a j y => zTF_R y)).tr (q2.2.mono (fun a j y => zAF_R y))⟩
        | (have q5 := q3.1
           rw [List.append_assoc] at q5
           exact ⟨rfl, rfl, q2.1.tf ht q3.2, q5, (f2a.tr q2.2.2).tr (q3.2.mono (fun a j y => zTF_R y))⟩)
        | exact ⟨rfl, rfl, q3.1, q2.2.1.bf ht q3.2, (f2a.tr q2.2.2).tr (q3.2.mono (fun a j y => zBF_R y))⟩
        | exact ⟨rfl, rfl, q1.1, (List.append_nil L).symm ▸ (hL.bf ht q1.2), q1.2.mono (fun a j y => zBF_R y)⟩
  · have e : zOneS tp z f1 f2 s = ([s.vl], zadv tp z s) := if_pos c_5
    rw [e] at hlen ⊢
    have hlen2 : L.length + 1 ≤ 160 := hlen
    refine zV_aload_n (pc := 8) (i := 0) dX3_readOne_8 rfl rfl ?_
    refine zV_get (pc := 9) (j := 7) dX3_readOne_9 flX3_19 (zOb_of rfl) rfl h187 ?_
    refine zV_aload_n (pc := 12) (i := 0) dX3_readOne_12 rfl rfl ?_
    refine zV_get (pc := 13) (j := 5) dX3_readOne_13 flX3_77 (zOb_of rfl) rfl (e5 (by omega)) ?_
    refine zV_ivn (pc := 16) (ci := 7) dX3_readOne_16 klX3_59 mX7_add ⟨by decide, rfl⟩ (zRm0_z rfl rfl (Nat.le_of_ble_eq_true rfl) (by omega)) ⟨Nat.zero_le _, Nat.zero_le _⟩ (kW7_add ht hS hL (by omega)) (zOb_txw ht) rfl rfl (Nat.le_of_ble_eq_true rfl) (fun M1 q1 => ?_)
    have hCb := hC.fr ht (q1.2.mono (fun a j y => zTF_R y))
    have hrb := hr.tf ht q1.2
    refine zV_aload_n (pc := 19) (i := 0) dX3_readOne_19 rfl rfl ?_
    refine zV_ivn (pc := 20) (ci := 3) dX3_readOne_20 klX3_34 mX3_advance ⟨by decide, rfl⟩ (zRm0_z rfl rfl (Nat.le_of_ble_eq_true rfl) (by omega)) ⟨Nat.zero_le _, Nat.zero_le _⟩ (kW3_advance ht hCb hT (s := s) (by have := hz.1; omega) hrb.2.2.2.1 hrb.2.2.2.2) (zOb_of rfl) rfl rfl (Nat.le_of_ble_eq_true rfl) (fun M2 q2 => ?_)
    refine zV_goto (pc := 23) (tgt := 129) dX3_readOne_23 (by decide) ?_
    refine zV_vret (pc := 129) dX3_readOne_129 trivial ⟨Nat.zero_le _, Nat.zero_le _⟩ ?_
    first
      | exact ⟨rfl, rfl, q2.1, q1.1.bf ht (q2.2.mono (fun a j y => zAF_B y)), (q1.2.mono (fun a j y => zTF_R y)).tr (q2.2.mono (fun a j y => zAF_R y))⟩
      | (have q5 := q3.1
         rw [List.append_assoc] at q5
         exact ⟨rfl, rfl, q2.1.tf ht q3.2, q5, (f2a.tr q2.2.2).tr (q3.2.mono (fun a j y => zTF_R y))⟩)
      | exact ⟨rfl, rfl, q3.1, q2.2.1.bf ht q3.2, (f2a.tr q2.2.2).tr (q3.2.mono (fun a j y => zBF_R y))⟩
      | exact ⟨rfl, rfl, q1.1, (List.append_nil L).symm ▸ (hL.bf ht q1.2), q1.2.mono (fun a j y => zBF_R y)⟩
set_option maxRecDepth 20000 in
set_option maxHeartbeats 2000000 in
theorem kW3_readNot0 {t z : Int} {tp : Int → Int} {d d2 : Nat} {f2 : zσ → zρ} (ht : 0 ≤ t ∧ t < 6) (hT : ztp tp z) (hd : d2 + 1 ≤ d ∧ 11 ≤ d) (hK2 : zKfw g yX3_readComparison (xX3_readComparison d2) t tp z 5 (zCm2 tp z f2)) : zKfw g yX3_readNot (xX3_readNot d) t tp z 5 (zNot0 tp z f2) := by
  intro M s L hC hr hz hL hlen
  refine zK_of (ls0 := [zr 18, zi 5]) (by decide) rfl (fun h => Bool.noConfusion (show false = true from h)) rfl (Nat.le_of_ble_eq_true rfl) ?_
  have hS := hC.1
  have h187 := hC.2.1
  have hzz := hT.1
  have er := hr
  obtain ⟨e4, e5, e3, e2, e6⟩ := er
  have hk4 := hz.2.2.2.2.1
  refine zV_aload_n (pc := 0) (i := 0) dX3_readNot_0 rfl rfl ?_
  refine zV_get (pc := 1) (j := 4) dX3_readNot_1 flX3_47 (zOb_of rfl) rfl e4 ?_
  refine zV_bipush (pc := 4) dX3_readNot_4 (by decide) ?_
  refine zV_icmp_eq (pc := 6) (tgt := 17) dX3_readNot_6 (by decide) (by omega) (fun c_6 => ?_) (fun c_6 => ?_)
  · refine zV_iload_n (pc := 17) (i := 1) dX3_readNot_17 rfl rfl ?_
    refine zV_iconst (pc := 18) dX3_readNot_18 ?_
    refine zV_icmp_lt (pc := 19) (tgt := 29) dX3_readNot_19 (by decide) (by omega) (fun c_19 => absurd c_19 (by decide)) (fun c_19 => ?_)
    have e : zNot0 tp z f2 s = ([], zfl s) := if_pos c_6
    rw [e]
    refine zV_aload_n (pc := 22) (i := 0) dX3_readNot_22 rfl rfl ?_
    refine zV_ivn (pc := 23) (ci := 3) dX3_readNot_23 klX3_50 mX3_fail ⟨by decide, rfl⟩ (zRm0_z rfl rfl (Nat.le_of_ble_eq_true rfl) (by omega)) ⟨Nat.zero_le _, Nat.zero_le _⟩ (kW3_fail ht hC hT hr hz) (zOb_of rfl) rfl rfl (Nat.le_of_ble_eq_true rfl) (fun M1 q1 => ?_)
    refine zV_goto (pc := 26) (tgt := 49) dX3_readNot_26 (by decide) ?_
    refine zV_vret (pc := 49) dX3_readNot_49 trivial ⟨Nat.zero_le _, Nat.zero_le _⟩ ?_
    first
      | exact ⟨rfl, rfl, q1⟩
      | (have q5 := q3.1
         rw [List.append_assoc] at q5
         exact ⟨rfl, rfl, q2.1.tf ht q3.2, q5, (f2a.tr q2.2.2).tr (q3.2.mono (fun a j y => zTF_R y))⟩)
      | exact ⟨rfl, rfl, q1.1, (List.append_nil L).symm ▸ (hL.bf ht q1.2), q1.2.mono (fun a j y => zBF_R y)⟩
  · have e : zNot0 tp z f2 s = zCm2 tp z f2 s := if_neg c_6
    rw [e] at hlen ⊢
    refine zV_aload_n (pc := 9) (i := 0) dX3_readNot_9 rfl rfl ?_
    refine zV_iload_n (pc := 10) (i := 1) dX3_readNot_10 rfl rfl ?_
    refine zV_ivn (pc := 11) (ci := 3) dX3_readNot_11 klX3_65 (mX3_readComparison _) ⟨by decide, rfl⟩ (zRm0_z rfl rfl (Nat.le_of_ble_eq_true rfl) (by omega)) ⟨Nat.zero_le _, Nat.zero_le _⟩ (hK2 M s L hC hr hz hL hlen) (zOb_of rfl) rfl rfl (Nat.le_of_ble_eq_true rfl) (fun M1 q1 => ?_)
    refine zV_goto (pc := 14) (tgt := 49) dX3_readNot_14 (by decide) ?_
    refine zV_vret (pc := 49) dX3_readNot_49 trivial ⟨Nat.zero_le _, Nat.zero_le _⟩ ?_
    first
      | exact ⟨rfl, rfl, q1⟩
      | (have q5 := q3.1
         rw [List.append_assoc] at q5
         exact ⟨rfl, rfl, q2.1.tf ht q3.2, q5, (f2a.tr q2.2.2).tr (q3.2.mono (fun a j y => zTF_R y))⟩)
      | exact ⟨rfl, rfl, q1.1, (List.append_nil L).symm ▸ (hL.bf ht q1.2), q1.2.mono (fun a j y => zBF_R y)⟩
set_option maxRecDepth 20000 in
set_option maxHeartbeats 2000000 in
theorem kW3_readNotS {t z o : Int} {tp : Int → Int} {d d1 d2 : Nat} {f1 f2 : zσ → zρ} (ht : 0 ≤ t ∧ t < 6) (hT : ztp tp z) (ho : 0 ≤ o ∧ o < 5) (hd : d1 + 1 ≤ d ∧ d2 + 1 ≤ d ∧ 11 ≤ d) (hf1 : zgd z f1) (hK1 : zKfw g yX3_readNot (xX3_readNot d1) t tp z (o + 1) f1) (hK2 : zKfw g yX3_readComparison (xX3_readComparison d2) t tp z o (zCm2 tp z f2)) : zKfw g yX3_readNot (xX3_readNot d) t tp z o (zNotS tp z f1 f2) := by
  intro M s L hC hr hz hL hlen
  refine zK_of (ls0 := [zr 18, zi o]) (by decide) rfl (fun h => Bool.noConfusion (show false = true from h)) rfl (Nat.le_of_ble_eq_true rfl) ?_
  have hS := hC.1
  have h187 := hC.2.1
  have hzz := hT.1
  have er := hr
  obtain ⟨e4, e5, e3, e2, e6⟩ := er
  have hk4 := hz.2.2.2.2.1
  refine zV_aload_n (pc := 0) (i := 0) dX3_readNot_0 rfl rfl ?_
  refine zV_get (pc := 1) (j := 4) dX3_readNot_1 flX3_47 (zOb_of rfl) rfl e4 ?_
  refine zV_bipush (pc := 4) dX3_readNot_4 (by decide) ?_
  refine zV_icmp_eq (pc := 6) (tgt := 17) dX3_readNot_6 (by decide) (by omega) (fun c_6 => ?_) (fun c_6 => ?_)
  · refine zV_iload_n (pc := 17) (i := 1) dX3_readNot_17 rfl rfl ?_
    refine zV_iconst (pc := 18) dX3_readNot_18 ?_
    refine zV_icmp_lt (pc := 19) (tgt := 29) dX3_readNot_19 (by decide) (by omega) (fun c_19 => ?_) (fun c_19 => absurd (by omega) c_19)
    have e : zNotS tp z f1 f2 s = ((f1 (zadv tp z s)).1 ++ [-13], (f1 (zadv tp z s)).2) := if_pos c_6
    rw [e] at hlen ⊢
    have hlen2 := hlen
    simp only [List.length_append, List.length_cons, List.length_nil] at hlen2
    refine zV_aload_n (pc := 29) (i := 0) dX3_readNot_29 rfl rfl ?_
    refine zV_ivn (pc := 30) (ci := 3) dX3_readNot_30 klX3_34 mX3_advance ⟨by decide, rfl⟩ (zRm0_z rfl rfl (Nat.le_of_ble_eq_true rfl) (by omega)) ⟨Nat.zero_le _, Nat.zero_le _⟩ (kW3_advance ht hC hT (s := s) (by have := hz.1; omega) e2 e6) (zOb_of rfl) rfl rfl (Nat.le_of_ble_eq_true rfl) (fun M1 q1 => ?_)
    have hlv : zlive s := ⟨by omega, by omega⟩
    have ga := (zgx_ad hT hz hlv).1
    have f2a : zFr (zRF t) M M1 := q1.2.mono (fun a j y => zAF_R y)
    have hC1 := hC.fr ht f2a
    refine zV_aload_n (pc := 33) (i := 0) dX3_readNot_33 rfl rfl ?_
    refine zV_iload_n (pc := 34) (i := 1) dX3_readNot_34 rfl rfl ?_
    refine zV_iconst (pc := 35) dX3_readNot_35 ?_
    refine zV_iadd (pc := 36) dX3_readNot_36 ?_
    refine zV_ivn (pc := 37) (ci := 3) dX3_readNot_37 klX3_62 (mX3_readNot _) ⟨by decide, rfl⟩ (zRm0_z rfl rfl (Nat.le_of_ble_eq_true rfl) (by omega)) ⟨Nat.zero_le _, Nat.zero_le _⟩ (hK1 M1 (zadv tp z s) L hC1 q1.1 ga.1 (hL.bf ht (q1.2.mono (fun a j y => zAF_B y))) (by omega)) (zOb_of rfl) rfl rfl (Nat.le_of_ble_eq_true rfl) (fun M2 q2 => ?_)
    have hC2 := hC1.fr ht q2.2.2
    have hS2 := hC2.1
    have h187b := hC2.2.1
    refine zV_aload_n (pc := 40) (i := 0) dX3_readNot_40 rfl rfl ?_
    refine zV_get (pc := 41) (j := 7) dX3_readNot_41 flX3_19 (zOb_of rfl) rfl h187b ?_
    refine zV_bipush (pc := 44) dX3_readNot_44 (by decide) ?_
    refine zV_ivn (pc := 46) (ci := 7) dX3_readNot_46 klX3_59 mX7_add ⟨by decide, rfl⟩ (zRm0_z rfl rfl (Nat.le_of_ble_eq_true rfl) (by omega)) ⟨Nat.zero_le _, Nat.zero_le _⟩ (kW7_add ht hS2 q2.2.1 (by simp only [List.length_append]; omega)) (zOb_txw ht) rfl rfl (Nat.le_of_ble_eq_true rfl) (fun M3 q3 => ?_)
    refine zV_vret (pc := 49) dX3_readNot_49 trivial ⟨Nat.zero_le _, Nat.zero_le _⟩ ?_
    first
      | exact ⟨rfl, rfl, q1⟩
      | (have q5 := q3.1
         rw [List.append_assoc] at q5
         exact ⟨rfl, rfl, q2.1.tf ht q3.2, q5, (f2a.tr q2.2.2).tr (q3.2.mono (fun a j y => zTF_R y))⟩)
      | exact ⟨rfl, rfl, q1.1, (List.append_nil L).symm ▸ (hL.bf ht q1.2), q1.2.mono (fun a j y => zBF_R y)⟩
  · have e : zNotS tp z f1 f2 s = zCm2 tp z f2 s := if_neg c_6
    rw [e] at hlen ⊢
    refine zV_aload_n (pc := 9) (i := 0) dX3_readNot_9 rfl rfl ?_
    refine zV_iload_n (pc := 10) (i := 1) dX3_readNot_10 rfl rfl ?_
    refine zV_ivn (pc := 11) (ci := 3) dX3_readNot_11 klX3_65 (mX3_readComparison _) ⟨by decide, rfl⟩ (zRm0_z rfl rfl (Nat.le_of_ble_eq_true rfl) (by omega)) ⟨Nat.zero_le _, Nat.zero_le _⟩ (hK2 M s L hC hr hz hL hlen) (zOb_of rfl) rfl rfl (Nat.le_of_ble_eq_true rfl) (fun M1 q1 => ?_)
    refine zV_goto (pc := 14) (tgt := 49) dX3_readNot_14 (by decide) ?_
    refine zV_vret (pc := 49) dX3_readNot_49 trivial ⟨Nat.zero_le _, Nat.zero_le _⟩ ?_
    first
      | exact ⟨rfl, rfl, q1⟩
      | (have q5 := q3.1
         rw [List.append_assoc] at q5
         exact ⟨rfl, rfl, q2.1.tf ht q3.2, q5, (f2a.tr q2.2.2).tr (q3.2.mono (fun a j y => zTF_R y))⟩)
      | exact ⟨rfl, rfl, q1.1, (List.append_nil L).symm ▸ (hL.bf ht q1.2), q1.2.mono (fun a j y => zBF_R y)⟩
theorem kW3_cm2 {t z o : Int} {tp : Int → Int} {d : Nat} {f : zσ → zρ} (ht : 0 ≤ t ∧ t < 6) (hT : ztp tp z) (ho : 0 ≤ o ∧ o ≤ 5) (hd : 11 ≤ d) (hf : zgd z f) (hK1 : zKfw g yX3_readOne (xX3_readOne d) t tp z o f) : zKfw g yX3_readComparison (xX3_readComparison (d + 3)) t tp z o (zCm2 tp z f) :=
  kW3_readComparison ht hT ho (d1 := d + 2) (by omega) (zSum_gd hT (zTerm_gd hT hf)) (kW3_readSum ht hT ho (d1 := d + 1) (by omega) (zTerm_gd hT hf) (kW3_readTerm ht hT ho (d1 := d) (by omega) hf hK1))
theorem kW3_or2 {t z o : Int} {tp : Int → Int} {d : Nat} {f : zσ → zρ} (ht : 0 ≤ t ∧ t < 6) (hT : ztp tp z) (ho : 0 ≤ o ∧ o ≤ 5) (hd : 11 ≤ d) (hf : zgd z f) (hK1 : zKfw g yX3_readNot (xX3_readNot d) t tp z o f) : zKfw g yX3_readOrs (xX3_readOrs (d + 2)) t tp z o (zOr2 tp z f) :=
  kW3_readOrs ht hT ho (d1 := d + 1) (by omega) (zAnd_gd hT hf) (kW3_readAnds ht hT ho (d1 := d) (by omega) hf hK1)
theorem kW3_lv {t z : Int} {tp : Int → Int} (ht : 0 ≤ t ∧ t < 6) (hT : ztp tp z) : ∀ r : Nat, r ≤ 5 → zKfw g yX3_readOne (xX3_readOne (14 + 12 * r)) t tp z (5 - r) (zlv tp z r).1 ∧ zKfw g yX3_readNot (xX3_readNot (18 + 12 * r)) t tp z (5 - r) (zlv tp z r).2 := by
  intro r
  induction r with
  | zero =>
    intro _
    have a : zKfw g yX3_readOne (xX3_readOne 14) t tp z 5 (zOne0 tp z) := kW3_readOne0 ht hT (by decide)
    exact ⟨a, kW3_readNot0 ht hT (d2 := 17) (by decide) (kW3_cm2 ht hT (by decide) (by decide) (zOne0_gd hT) a)⟩
  | succ r ih =>
    intro h
    have i := ih (by omega)
    have gl := zlv_gd hT r
    have e : (5 - (r : Int)) = (5 - ((r + 1 : Nat) : Int)) + 1 := by omega
    rw [e] at i
    have a : zKfw g yX3_readOne (xX3_readOne (14 + 12 * (r + 1))) t tp z (5 - ((r + 1 : Nat) : Int)) (zlv tp z (r + 1)).1 := kW3_readOneS ht hT (d1 := 14 + 12 * r) (d2 := 18 + 12 * r + 2) (by omega) (by omega) gl.1 (zOr2_gd hT gl.2) i.1 (kW3_or2 ht hT (by omega) (by omega) gl.2 i.2)
    exact ⟨a, kW3_readNotS ht hT (d1 := 18 + 12 * r) (d2 := 14 + 12 * (r + 1) + 3) (by omega) (by omega) gl.2 i.2 (kW3_cm2 ht hT (by omega) (by omega) (zlv_gd hT (r + 1)).1 a)⟩
theorem kW3_top {t z : Int} {tp : Int → Int} (ht : 0 ≤ t ∧ t < 6) (hT : ztp tp z) : zKfw g yX3_readOrs (xX3_readOrs 80) t tp z 0 (zOr2 tp z (zlv tp z 5).2) :=
  kW3_or2 (d := 78) ht hT (by decide) (by decide) (zlv_gd hT 5).2 (kW3_lv ht hT 5 (by decide)).2
end

theorem zRCw.yf {M M1 : zM} {t z k : Int} {tp : Int → Int} (h : zRCw M t tp z) (ht : 0 ≤ t ∧ t < 6) (f : zFr (zYF t k) M M1) : zRCw M1 t tp z :=
  ⟨h.1.fr f (fun q hq y => zXF_st ht q hq (zYF_X y)), (f _ _ (by unfold zYF zRF; omega)).trans h.2.1, (f _ _ (by unfold zYF zRF; omega)).trans h.2.2.1, fun j j0 j1 => (f _ _ (by unfold zYF zRF; omega)).trans (h.2.2.2 j j0 j1)⟩
section
variable {g : zG} {N : Nat} {M : zM}
set_option maxRecDepth 20000 in
set_option maxHeartbeats 2000000 in
theorem kW3_rdI {t z : Int} {tp : Int → Int} (ht : 0 ≤ t ∧ t < 6) (hT : ztp tp z) {P : zP} {L : List Int} {s : zσ} {k : Int} (hk : 0 ≤ k ∧ k ≤ 2) (hC : zRCw M t tp z) (hr : zRd M s) (ho : zσo z s) (hL : zTl M t L) (hl : L.length + (zpt tp z k s).1.length ≤ 160) (hX : ∀ M2, zRd M2 (zpt tp z k s).2 → zTl M2 t (L ++ (zpt tp z k s).1) → M2 (28 + 3 * t) k = ((L ++ (zpt tp z k s).1).length : Int) → zFr (zYF t k) M M2 → zV g xX3_read P 25 [zr 18, zr (26 + 3 * t), zi (k + 1)] [] 52 M2 0 0) : zV g xX3_read P 25 [zr 18, zr (26 + 3 * t), zi k] [] 52 M 0 0 := by
  have hk2 : 0 ≤ k ∧ k < 3 := by omega
  have hl : L.length + (zOr2 tp z (zlv tp z 5).2 (znd tp z (6 + k) s)).1.length ≤ 160 := hl
  refine zV_iload_n (pc := 25) (i := 2) dX3_read_25 rfl rfl ?_
  refine zV_iconst (pc := 26) dX3_read_26 ?_
  refine zV_icmp_ge (pc := 27) (tgt := 63) dX3_read_27 (by decide) (by omega) (fun c_27 => absurd c_27 (by omega)) (fun c_27 => ?_)
  refine zV_aload_n (pc := 30) (i := 0) dX3_read_30 rfl rfl ?_
  refine zV_bipush (pc := 31) dX3_read_31 (by decide) ?_
  refine zV_iload_n (pc := 33) (i := 2) dX3_read_33 rfl rfl ?_
  refine zV_iadd (pc := 34) dX3_read_34 ?_
  refine zV_ivn (pc := 35) (ci := 3) dX3_read_35 klX3_37 mX3_need ⟨by decide, rfl⟩ rfl ⟨Nat.zero_le _, Nat.zero_le _⟩ (kW3_need ht hC hT hr ho (k := 6 + k) (by omega) (by omega)) (zOb_of rfl) rfl rfl (Nat.le_of_ble_eq_true rfl) (fun M1 q1 => ?_)
  have f1 : zFr (zRF t) M M1 := q1.2.mono (fun a j y => zBF_R y)
  have hC1 := hC.fr ht f1
  have g1 := zgx_nd (k := 6 + k) hT ho (by omega)
  have g2 := zOr2_gd hT (zlv_gd hT 5).2 _ g1.1
  refine zV_aload_n (pc := 38) (i := 0) dX3_read_38 rfl rfl ?_
  refine zV_iconst (pc := 39) dX3_read_39 ?_
  refine zV_ivn (pc := 40) (ci := 3) dX3_read_40 klX3_41 (mX3_readOrs _) ⟨by decide, rfl⟩ rfl ⟨Nat.zero_le _, Nat.zero_le _⟩ (kW3_top ht hT M1 (znd tp z (6 + k) s) L hC1 q1.1 g1.1 (hL.bf ht q1.2) hl) (zOb_of rfl) rfl rfl (Nat.le_of_ble_eq_true rfl) (fun M2 q2 => ?_)
  have hC2 := hC1.fr ht q2.2.2
  refine zV_aload_n (pc := 43) (i := 0) dX3_read_43 rfl rfl ?_
  refine zV_bipush (pc := 44) dX3_read_44 (by decide) ?_
  refine zV_ivn (pc := 46) (ci := 3) dX3_read_46 klX3_37 mX3_need ⟨by decide, rfl⟩ rfl ⟨Nat.zero_le _, Nat.zero_le _⟩ (kW3_need ht hC2 hT q2.1 g2.1.1 (k := 59) (by decide) (by decide)) (zOb_of rfl) rfl rfl (Nat.le_of_ble_eq_true rfl) (fun M3 q3 => ?_)
  have f3 : zFr (zRF t) M2 M3 := q3.2.mono (fun a j y => zBF_R y)
  have hC3 := hC2.fr ht f3
  have hL3 := q2.2.1.bf ht q3.2
  have h187 := hC3.2.1
  refine zV_aload_n (pc := 49) (i := 0) dX3_read_49 rfl rfl ?_
  refine zV_get (pc := 50) (j := 7) dX3_read_50 flX3_19 (zOb_of rfl) rfl h187 ?_
  refine zV_iload_n (pc := 53) (i := 2) dX3_read_53 rfl rfl ?_
  refine zV_ivn (pc := 54) (ci := 7) dX3_read_54 klX3_44 mX7_endPart ⟨by decide, rfl⟩ rfl ⟨Nat.zero_le _, Nat.zero_le _⟩ (kW7_endPart ht hC3.1 hk2 hL3.1) (zOb_txw ht) rfl rfl (Nat.le_of_ble_eq_true rfl) (fun M4 q4 => ?_)
  subst q4
  refine zV_iinc (pc := 57) dX3_read_57 rfl rfl ?_
  try dsimp only [List.set_cons_succ, List.set_cons_zero]
  refine zV_goto (pc := 60) (tgt := 25) dX3_read_60 (by decide) ?_
  exact hX _ (q3.1.te ht) hL3.te (zU_s _ _ _ _) (((((zFr.rf.tr f1).tr q2.2.2).tr f3).mono (fun a j y => Or.inl y)).up (Or.inr ⟨rfl, rfl⟩))
set_option maxRecDepth 20000 in
set_option maxHeartbeats 2000000 in
theorem kW3_read {t z : Int} {tp : Int → Int} (ht : 0 ≤ t ∧ t < 6) (hS : zSw M) (h181 : M 18 1 = z) (hT : ztp tp z) (htp : ∀ j : Int, 0 ≤ j → j < z → M 19 j = tp j) : zK g yX3_read xX3_read [zr 18, zr (26 + 3 * t)] 52 M (zPq (zi (zpF tp z)) 52 (fun M1 => zRT M1 t tp z ∧ zFr (zXF t) M M1)) := by
  refine zK_of (ls0 := [zr 18, zr (26 + 3 * t), (3, 0)]) (by decide) rfl (by decide) rfl (Nat.le_of_ble_eq_true rfl) ?_
  refine zV_aload_n (pc := 0) (i := 0) dX3_read_0 rfl rfl ?_
  refine zV_aload_n (pc := 1) (i := 1) dX3_read_1 rfl rfl ?_
  refine zV_put (pc := 2) (j := 7) dX3_read_2 flX3_19 rfl (zOb_of rfl) rfl trivial ?_
  refine zV_aload_n (pc := 5) (i := 1) dX3_read_5 rfl rfl ?_
  refine zV_ivn (pc := 6) (ci := 7) dX3_read_6 klX3_23 mX7_clear ⟨by decide, rfl⟩ rfl ⟨Nat.zero_le _, Nat.zero_le _⟩ (kW7_clear ht) (zOb_txw ht) rfl rfl (Nat.le_of_ble_eq_true rfl) (fun M0 q0 => ?_)
  subst q0
  refine zV_aload_n (pc := 9) (i := 0) dX3_read_9 rfl rfl ?_
  refine zV_iconst (pc := 10) dX3_read_10 ?_
  refine zV_put (pc := 11) (j := 2) dX3_read_11 flX3_28 rfl (zOb_of rfl) rfl trivial ?_
  refine zV_aload_n (pc := 14) (i := 0) dX3_read_14 rfl rfl ?_
  refine zV_iconst (pc := 15) dX3_read_15 ?_
  refine zV_put (pc := 16) (j := 6) dX3_read_16 flX3_31 rfl (zOb_of rfl) rfl trivial ?_
  have fB : zFr (zXF t) M (zU (zU (zU (zU M 18 7 (26 + 3 * t)) (26 + 3 * t) 2 0) 18 2 0) 18 6 (-1)) := (((zFr.rf.up (Or.inl ⟨rfl, by decide, by decide⟩)).up (Or.inr (Or.inl ⟨rfl, rfl⟩))).up (Or.inl ⟨rfl, by decide, by decide⟩)).up (Or.inl ⟨rfl, by decide, by decide⟩)
  have cA : zRCw (zU (zU (zU (zU M 18 7 (26 + 3 * t)) (26 + 3 * t) 2 0) 18 2 0) 18 6 (-1)) t tp z := ⟨hS.fr fB (zXF_st ht), (zU_j _ _ _ _ (by decide)).trans ((zU_j _ _ _ _ (by decide)).trans ((zU_a _ _ _ _ (by omega)).trans (zU_s _ _ _ _))), (fB _ _ (by unfold zXF; omega)).trans h181, fun j j0 j1 => (fB _ _ (by unfold zXF; omega)).trans (htp j j0 j1)⟩
  have lA : zTl (zU (zU (zU (zU M 18 7 (26 + 3 * t)) (26 + 3 * t) 2 0) 18 2 0) 18 6 (-1)) t [] := ⟨(zU_a _ _ _ _ (by omega)).trans ((zU_a _ _ _ _ (by omega)).trans (zU_s _ _ _ _)), fun j x hx => by simp at hx⟩
  refine zV_aload_n (pc := 19) (i := 0) dX3_read_19 rfl rfl ?_
  refine zV_ivn (pc := 20) (ci := 3) dX3_read_20 klX3_34 mX3_advance ⟨by decide, rfl⟩ rfl ⟨Nat.zero_le _, Nat.zero_le _⟩ (kW3_advance (t := t) (tp := tp) ht cA hT (s := (0, 0, 0, 0, -1)) ⟨Int.le_refl _, hT.1.1⟩ ((zU_j _ _ _ _ (by decide)).trans (zU_s _ _ _ _)) (zU_s _ _ _ _)) (zOb_of rfl) rfl rfl (Nat.le_of_ble_eq_true rfl) (fun MA qA => ?_)
  refine zV_iconst (pc := 23) dX3_read_23 ?_
  refine zV_istore_n (pc := 24) (i := 2) dX3_read_24 rfl rfl ?_
  try dsimp only [List.set_cons_succ, List.set_cons_zero]
  have fA : zFr (zXF t) M MA := fB.tr (qA.2.mono (fun a j y => zYF_X (k := 0) (Or.inl (zAF_R y))))
  have c9 := cA.fr ht (qA.2.mono (fun a j y => zAF_R y))
  have l9 := lA.bf ht (qA.2.mono (fun a j y => zAF_B y))
  have pa := zp_all hT
  have hz2 := pa.1.2.2
  have le := pa.2.2
  refine kW3_rdI ht hT (k := 0) (by decide) c9 qA.1 (zstart hT) l9 (by show [].length + (zp0 tp z).1.length ≤ 160; simp only [List.length_nil]; omega) (fun MB a0 b0 d0 f0 => ?_)
  have c0 := c9.yf ht f0
  refine kW3_rdI ht hT (k := 1) (by decide) c0 a0 pa.1.1 b0 (by show ([] ++ (zp0 tp z).1).length + (zp1 tp z).1.length ≤ 160; simp only [List.nil_append]; omega) (fun MC a1 b1 d1 f1 => ?_)
  have c1 := c0.yf ht f1
  refine kW3_rdI ht hT (k := 2) (by decide) c1 a1 pa.1.2.1 b1 (by show ([] ++ (zp0 tp z).1 ++ (zp1 tp z).1).length + (zp2 tp z).1.length ≤ 160; simp only [List.nil_append, List.length_append]; omega) (fun MD a2 b2 d2 f2 => ?_)
  have c2 := c1.yf ht f2
  refine zV_iload_n (pc := 25) (i := 2) dX3_read_25 rfl rfl ?_
  refine zV_iconst (pc := 26) dX3_read_26 ?_
  refine zV_icmp_ge (pc := 27) (tgt := 63) dX3_read_27 (by decide) (by omega) (fun c_27 => ?_) (fun c_27 => absurd (by decide) c_27)
  refine zV_aload_n (pc := 63) (i := 0) dX3_read_63 rfl rfl ?_
  refine zV_iconst (pc := 64) dX3_read_64 ?_
  refine zV_ivn (pc := 65) (ci := 3) dX3_read_65 klX3_37 mX3_need ⟨by decide, rfl⟩ rfl ⟨Nat.zero_le _, Nat.zero_le _⟩ (kW3_need ht c2 hT a2 hz2 (k := 0) (by decide) (by decide)) (zOb_of rfl) rfl rfl (Nat.le_of_ble_eq_true rfl) (fun M6 q6 => ?_)
  obtain ⟨⟨r1, r2, r3, r4, r6⟩, r7⟩ := q6
  refine zV_aload_n (pc := 68) (i := 0) dX3_read_68 rfl rfl ?_
  refine zV_get (pc := 69) (j := 6) dX3_read_69 flX3_31 (zOb_of rfl) rfl r6 ?_
  refine zV_iret (pc := 72) dX3_read_72 trivial ⟨Nat.zero_le _, Nat.zero_le _⟩ ?_
  refine ⟨rfl, rfl, ⟨b2.bf ht r7, ?_, ?_, ?_⟩, (((fA.tr (f0.mono (fun a j y => zYF_X y))).tr (f1.mono (fun a j y => zYF_X y))).tr (f2.mono (fun a j y => zYF_X y))).tr (r7.mono (fun a j y => zYF_X (k := 0) (Or.inl (zBF_R y))))⟩
  · exact (r7 _ _ (by unfold zBF; omega)).trans ((f2 _ _ (by unfold zYF zRF; omega)).trans ((f1 _ _ (by unfold zYF zRF; omega)).trans (d0.trans (by simp; rfl))))
  · refine (r7 _ _ (by unfold zBF; omega)).trans ((f2 _ _ (by unfold zYF zRF; omega)).trans (d1.trans ?_))
    simp only [List.length_append, List.length_nil, Nat.zero_add, Int.natCast_add]
    rfl
  · refine (r7 _ _ (by unfold zBF; omega)).trans (d2.trans ?_)
    simp only [List.length_append, List.length_nil, Nat.zero_add, Int.natCast_add]
    rfl
end

