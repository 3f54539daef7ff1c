/-! THE CLASS: a text is read; text() (printed by wip/whole/p44.py) -/
def zXF (t a j : Int) : Prop := (a = 18 ∧ 2 ≤ j ∧ j ≤ 7) ∨ (a = 26 + 3 * t ∧ j = 2) ∨ a = 27 + 3 * t ∨ a = 28 + 3 * t
theorem zXF_st {t : Int} (ht : 0 ≤ t ∧ t < 6) : ∀ q ∈ zstL, ¬ zXF t q.1 q.2.1 := by
  rcases (show t = 0 ∨ t = 1 ∨ t = 2 ∨ t = 3 ∨ t = 4 ∨ t = 5 by omega) with rfl | rfl | rfl | rfl | rfl | rfl <;> unfold zXF <;> decide
def zYF (t k a j : Int) : Prop := zRF t a j ∨ (a = 28 + 3 * t ∧ j = k)
theorem zYF_X {t k a j : Int} (h : zYF t k a j) : zXF t a j := by
  unfold zYF zRF at h
  unfold zXF
  omega
theorem zRC.yf {M M1 : zM} {t z k : Int} {tp : Int → Int} (h : zRC M t tp z) (ht : 0 ≤ t ∧ t < 6) (f : zFr (zYF t k) M M1) : zRC M1 t tp z :=
  ⟨h.1.fr f (fun q hq y => zXF_st ht q hq (zYF_X y)), (f _ _ (by unfold zYF zRF; omega)).trans h.2.1, (f _ _ (by unfold zYF zRF; omega)).trans h.2.2.1, fun j j0 j1 => (f _ _ (by unfold zYF zRF; omega)).trans (h.2.2.2 j j0 j1)⟩
theorem zRd.te {M : zM} {t k v : Int} {s : zσ} (h : zRd M s) (ht : 0 ≤ t ∧ t < 6) : zRd (zU M (28 + 3 * t) k v) s := by
  have e : ∀ j, zU M (28 + 3 * t) k v 18 j = M 18 j := fun j => zU_a _ _ _ _ (by omega)
  unfold zRd
  rw [e, e, e, e, e]
  exact h
theorem zTl.te {M : zM} {t k v : Int} {L : List Int} (h : zTl M t L) : zTl (zU M (28 + 3 * t) k v) t L :=
  ⟨(zU_a _ _ _ _ (by omega)).trans h.1, fun j x hx => (zU_a _ _ _ _ (by omega)).trans (h.2 j x hx)⟩
theorem zpF_r {tp : Int → Int} {z : Int} (hT : ztp tp z) : -1 ≤ zpF tp z ∧ zpF tp z ≤ 160 := by
  have h := (zp_all hT).1.2.2
  unfold zpF znd
  by_cases c : (zp2 tp z).2.tk = 0
  · rw [if_pos c]
    have e : (zp2 tp z).2.ft = -1 := by
      by_cases e : (zp2 tp z).2.ft = -1
      · exact e
      · have := h.2.2.2.1 e
        omega
    have a := zadv_o hT (s := (zp2 tp z).2) (by have := h.1; omega) e
    omega
  · rw [if_neg c]
    exact (zgx_fl hT.1.2 h).1.1.2.2.2.2.2
/-- the steps and ends of a read text -/
def zRT (M : zM) (t : Int) (tp : Int → Int) (z : Int) : Prop := zTl M t ((zp0 tp z).1 ++ (zp1 tp z).1 ++ (zp2 tp z).1) ∧ M (28 + 3 * t) 0 = (zp0 tp z).1.length ∧ M (28 + 3 * t) 1 = (zp0 tp z).1.length + (zp1 tp z).1.length ∧ M (28 + 3 * t) 2 = (zp0 tp z).1.length + (zp1 tp z).1.length + (zp2 tp z).1.length
section
variable {g : zG} {N : Nat} {M : zM}
set_option maxRecDepth 20000 in
set_option maxHeartbeats 2000000 in
theorem kX3_rdI {t z : Int} {tp : Int → Int} (ht : 0 ≤ t ∧ t < 6) (hT : ztp tp z) {P : zP} {L : List Int} {s : zσ} {k : Int} (hk : 0 ≤ k ∧ k ≤ 2) (hC : zRC M t tp z) (hr : zRd M s) (ho : zσo z s) (hL : zTl M t L) (hl : L.length + (zpt tp z k s).1.length ≤ 160) (hX : ∀ M2, zRd M2 (zpt tp z k s).2 → zTl M2 t (L ++ (zpt tp z k s).1) → M2 (28 + 3 * t) k = ((L ++ (zpt tp z k s).1).length : Int) → zFr (zYF t k) M M2 → zV g xX3_read P 25 [zr 18, zr (26 + 3 * t), zi (k + 1)] [] 75 M2 0 0) : zV g xX3_read P 25 [zr 18, zr (26 + 3 * t), zi k] [] 75 M 0 0 := by
  have hk2 : 0 ≤ k ∧ k < 3 := by omega
  have hl : L.length + (zOr2 tp z (zlv tp z 5).2 (znd tp z (6 + k) s)).1.length ≤ 160 := hl
  refine zV_iload_n (pc := 25) (i := 2) dX3_read_25 rfl rfl ?_
  refine zV_iconst (pc := 26) dX3_read_26 ?_
  refine zV_icmp_ge (pc := 27) (tgt := 63) dX3_read_27 (by decide) (by omega) (fun c_27 => absurd c_27 (by omega)) (fun c_27 => ?_)
  refine zV_aload_n (pc := 30) (i := 0) dX3_read_30 rfl rfl ?_
  refine zV_bipush (pc := 31) dX3_read_31 (by decide) ?_
  refine zV_iload_n (pc := 33) (i := 2) dX3_read_33 rfl rfl ?_
  refine zV_iadd (pc := 34) dX3_read_34 ?_
  refine zV_ivn (pc := 35) (ci := 3) dX3_read_35 klX3_37 mX3_need ⟨by decide, rfl⟩ rfl ⟨Nat.zero_le _, Nat.zero_le _⟩ (kX3_need ht hC hT hr ho (k := 6 + k) (by omega) (by omega)) (zOb_of rfl) rfl rfl (Nat.le_of_ble_eq_true rfl) (fun M1 q1 => ?_)
  have f1 : zFr (zRF t) M M1 := q1.2.mono (fun a j y => zBF_R y)
  have hC1 := hC.fr ht f1
  have g1 := zgx_nd (k := 6 + k) hT ho (by omega)
  have g2 := zOr2_gd hT (zlv_gd hT 5).2 _ g1.1
  refine zV_aload_n (pc := 38) (i := 0) dX3_read_38 rfl rfl ?_
  refine zV_iconst (pc := 39) dX3_read_39 ?_
  refine zV_ivn (pc := 40) (ci := 3) dX3_read_40 klX3_41 (mX3_readOrs _) ⟨by decide, rfl⟩ rfl ⟨Nat.zero_le _, Nat.zero_le _⟩ (kX3_top ht hT M1 (znd tp z (6 + k) s) L hC1 q1.1 g1.1 (hL.bf ht q1.2) hl) (zOb_of rfl) rfl rfl (Nat.le_of_ble_eq_true rfl) (fun M2 q2 => ?_)
  have hC2 := hC1.fr ht q2.2.2
  refine zV_aload_n (pc := 43) (i := 0) dX3_read_43 rfl rfl ?_
  refine zV_bipush (pc := 44) dX3_read_44 (by decide) ?_
  refine zV_ivn (pc := 46) (ci := 3) dX3_read_46 klX3_37 mX3_need ⟨by decide, rfl⟩ rfl ⟨Nat.zero_le _, Nat.zero_le _⟩ (kX3_need ht hC2 hT q2.1 g2.1.1 (k := 59) (by decide) (by decide)) (zOb_of rfl) rfl rfl (Nat.le_of_ble_eq_true rfl) (fun M3 q3 => ?_)
  have f3 : zFr (zRF t) M2 M3 := q3.2.mono (fun a j y => zBF_R y)
  have hC3 := hC2.fr ht f3
  have hL3 := q2.2.1.bf ht q3.2
  have h187 := hC3.2.1
  refine zV_aload_n (pc := 49) (i := 0) dX3_read_49 rfl rfl ?_
  refine zV_get (pc := 50) (j := 7) dX3_read_50 flX3_19 (zOb_of rfl) rfl h187 ?_
  refine zV_iload_n (pc := 53) (i := 2) dX3_read_53 rfl rfl ?_
  refine zV_ivn (pc := 54) (ci := 7) dX3_read_54 klX3_44 mX7_endPart ⟨by decide, rfl⟩ rfl ⟨Nat.zero_le _, Nat.zero_le _⟩ (kX7_endPart ht hC3.1 hk2 hL3.1) (zOb_tx ht) rfl rfl (Nat.le_of_ble_eq_true rfl) (fun M4 q4 => ?_)
  subst q4
  refine zV_iinc (pc := 57) dX3_read_57 rfl rfl ?_
  try dsimp only [List.set_cons_succ, List.set_cons_zero]
  refine zV_goto (pc := 60) (tgt := 25) dX3_read_60 (by decide) ?_
  exact hX _ (q3.1.te ht) hL3.te (zU_s _ _ _ _) (((((zFr.rf.tr f1).tr q2.2.2).tr f3).mono (fun a j y => Or.inl y)).up (Or.inr ⟨rfl, rfl⟩))
set_option maxRecDepth 20000 in
set_option maxHeartbeats 2000000 in
theorem kX3_read {t z : Int} {tp : Int → Int} (ht : 0 ≤ t ∧ t < 6) (hS : zSt M) (h181 : M 18 1 = z) (hT : ztp tp z) (htp : ∀ j : Int, 0 ≤ j → j < z → M 19 j = tp j) : zK g yX3_read xX3_read [zr 18, zr (26 + 3 * t)] 75 M (zPq (zi (zpF tp z)) 75 (fun M1 => zRT M1 t tp z ∧ zFr (zXF t) M M1)) := by
  refine zK_of (ls0 := [zr 18, zr (26 + 3 * t), (3, 0)]) (by decide) rfl (by decide) rfl (Nat.le_of_ble_eq_true rfl) ?_
  refine zV_aload_n (pc := 0) (i := 0) dX3_read_0 rfl rfl ?_
  refine zV_aload_n (pc := 1) (i := 1) dX3_read_1 rfl rfl ?_
  refine zV_put (pc := 2) (j := 7) dX3_read_2 flX3_19 rfl (zOb_of rfl) rfl trivial ?_
  refine zV_aload_n (pc := 5) (i := 1) dX3_read_5 rfl rfl ?_
  refine zV_ivn (pc := 6) (ci := 7) dX3_read_6 klX3_23 mX7_clear ⟨by decide, rfl⟩ rfl ⟨Nat.zero_le _, Nat.zero_le _⟩ (kX7_clear ht) (zOb_tx ht) rfl rfl (Nat.le_of_ble_eq_true rfl) (fun M0 q0 => ?_)
  subst q0
  refine zV_aload_n (pc := 9) (i := 0) dX3_read_9 rfl rfl ?_
  refine zV_iconst (pc := 10) dX3_read_10 ?_
  refine zV_put (pc := 11) (j := 2) dX3_read_11 flX3_28 rfl (zOb_of rfl) rfl trivial ?_
  refine zV_aload_n (pc := 14) (i := 0) dX3_read_14 rfl rfl ?_
  refine zV_iconst (pc := 15) dX3_read_15 ?_
  refine zV_put (pc := 16) (j := 6) dX3_read_16 flX3_31 rfl (zOb_of rfl) rfl trivial ?_
  have fB : zFr (zXF t) M (zU (zU (zU (zU M 18 7 (26 + 3 * t)) (26 + 3 * t) 2 0) 18 2 0) 18 6 (-1)) := (((zFr.rf.up (Or.inl ⟨rfl, by decide, by decide⟩)).up (Or.inr (Or.inl ⟨rfl, rfl⟩))).up (Or.inl ⟨rfl, by decide, by decide⟩)).up (Or.inl ⟨rfl, by decide, by decide⟩)
  have cA : zRC (zU (zU (zU (zU M 18 7 (26 + 3 * t)) (26 + 3 * t) 2 0) 18 2 0) 18 6 (-1)) t tp z := ⟨hS.fr fB (zXF_st ht), (zU_j _ _ _ _ (by decide)).trans ((zU_j _ _ _ _ (by decide)).trans ((zU_a _ _ _ _ (by omega)).trans (zU_s _ _ _ _))), (fB _ _ (by unfold zXF; omega)).trans h181, fun j j0 j1 => (fB _ _ (by unfold zXF; omega)).trans (htp j j0 j1)⟩
  have lA : zTl (zU (zU (zU (zU M 18 7 (26 + 3 * t)) (26 + 3 * t) 2 0) 18 2 0) 18 6 (-1)) t [] := ⟨(zU_a _ _ _ _ (by omega)).trans ((zU_a _ _ _ _ (by omega)).trans (zU_s _ _ _ _)), fun j x hx => by simp at hx⟩
  refine zV_aload_n (pc := 19) (i := 0) dX3_read_19 rfl rfl ?_
  refine zV_ivn (pc := 20) (ci := 3) dX3_read_20 klX3_34 mX3_advance ⟨by decide, rfl⟩ rfl ⟨Nat.zero_le _, Nat.zero_le _⟩ (kX3_advance (t := t) (tp := tp) ht cA hT (s := (0, 0, 0, 0, -1)) ⟨Int.le_refl _, hT.1.1⟩ ((zU_j _ _ _ _ (by decide)).trans (zU_s _ _ _ _)) (zU_s _ _ _ _)) (zOb_of rfl) rfl rfl (Nat.le_of_ble_eq_true rfl) (fun MA qA => ?_)
  refine zV_iconst (pc := 23) dX3_read_23 ?_
  refine zV_istore_n (pc := 24) (i := 2) dX3_read_24 rfl rfl ?_
  try dsimp only [List.set_cons_succ, List.set_cons_zero]
  have fA : zFr (zXF t) M MA := fB.tr (qA.2.mono (fun a j y => zYF_X (k := 0) (Or.inl (zAF_R y))))
  have c9 := cA.fr ht (qA.2.mono (fun a j y => zAF_R y))
  have l9 := lA.bf ht (qA.2.mono (fun a j y => zAF_B y))
  have pa := zp_all hT
  have hz2 := pa.1.2.2
  have le := pa.2.2
  refine kX3_rdI ht hT (k := 0) (by decide) c9 qA.1 (zstart hT) l9 (by show [].length + (zp0 tp z).1.length ≤ 160; simp only [List.length_nil]; omega) (fun MB a0 b0 d0 f0 => ?_)
  have c0 := c9.yf ht f0
  refine kX3_rdI ht hT (k := 1) (by decide) c0 a0 pa.1.1 b0 (by show ([] ++ (zp0 tp z).1).length + (zp1 tp z).1.length ≤ 160; simp only [List.nil_append]; omega) (fun MC a1 b1 d1 f1 => ?_)
  have c1 := c0.yf ht f1
  refine kX3_rdI ht hT (k := 2) (by decide) c1 a1 pa.1.2.1 b1 (by show ([] ++ (zp0 tp z).1 ++ (zp1 tp z).1).length + (zp2 tp z).1.length ≤ 160; simp only [List.nil_append, List.length_append]; omega) (fun MD a2 b2 d2 f2 => ?_)
  have c2 := c1.yf ht f2
  refine zV_iload_n (pc := 25) (i := 2) dX3_read_25 rfl rfl ?_
  refine zV_iconst (pc := 26) dX3_read_26 ?_
  refine zV_icmp_ge (pc := 27) (tgt := 63) dX3_read_27 (by decide) (by omega) (fun c_27 => ?_) (fun c_27 => absurd (by decide) c_27)
  refine zV_aload_n (pc := 63) (i := 0) dX3_read_63 rfl rfl ?_
  refine zV_iconst (pc := 64) dX3_read_64 ?_
  refine zV_ivn (pc := 65) (ci := 3) dX3_read_65 klX3_37 mX3_need ⟨by decide, rfl⟩ rfl ⟨Nat.zero_le _, Nat.zero_le _⟩ (kX3_need ht c2 hT a2 hz2 (k := 0) (by decide) (by decide)) (zOb_of rfl) rfl rfl (Nat.le_of_ble_eq_true rfl) (fun M6 q6 => ?_)
  obtain ⟨⟨r1, r2, r3, r4, r6⟩, r7⟩ := q6
  refine zV_aload_n (pc := 68) (i := 0) dX3_read_68 rfl rfl ?_
  refine zV_get (pc := 69) (j := 6) dX3_read_69 flX3_31 (zOb_of rfl) rfl r6 ?_
  refine zV_iret (pc := 72) dX3_read_72 trivial ⟨Nat.zero_le _, Nat.zero_le _⟩ ?_
  refine ⟨rfl, rfl, ⟨b2.bf ht r7, ?_, ?_, ?_⟩, (((fA.tr (f0.mono (fun a j y => zYF_X y))).tr (f1.mono (fun a j y => zYF_X y))).tr (f2.mono (fun a j y => zYF_X y))).tr (r7.mono (fun a j y => zYF_X (k := 0) (Or.inl (zBF_R y))))⟩
  · exact (r7 _ _ (by unfold zBF; omega)).trans ((f2 _ _ (by unfold zYF zRF; omega)).trans ((f1 _ _ (by unfold zYF zRF; omega)).trans (d0.trans (by simp; rfl))))
  · refine (r7 _ _ (by unfold zBF; omega)).trans ((f2 _ _ (by unfold zYF zRF; omega)).trans (d1.trans ?_))
    simp only [List.length_append, List.length_nil, Nat.zero_add, Int.natCast_add]
    rfl
  · refine (r7 _ _ (by unfold zBF; omega)).trans (d2.trans ?_)
    simp only [List.length_append, List.length_nil, Nat.zero_add, Int.natCast_add]
    rfl
set_option maxRecDepth 20000 in
set_option maxHeartbeats 2000000 in
theorem kX9_text {z : Int} {tp : Int → Int} (hS : zSt M) (hc : 1 ≤ M 0 4 ∧ M 0 4 ≤ 6) (h181 : M 18 1 = z) (hT : ztp tp z) (htp : ∀ j : Int, 0 ≤ j → j < z → M 19 j = tp j) : zK g yX9_text xX9_text [zr 0] 75 M (fun w N' M1 => N' = 75 ∧ ((M 0 4 = 6 ∧ w = some (zi (-4)) ∧ M1 = M) ∨ (M 0 4 < 6 ∧ zpF tp z ≠ -1 ∧ w = some (zi (-100 - zpF tp z)) ∧ M1 18 1 = 0 ∧ zFr (fun a j => zXF (M 0 4) a j ∨ (a = 18 ∧ j = 1)) M M1) ∨ (M 0 4 < 6 ∧ zpF tp z = -1 ∧ w = some (zi (M 0 4)) ∧ M1 18 1 = 0 ∧ M1 0 4 = M 0 4 + 1 ∧ zRT M1 (M 0 4) tp z ∧ zFr (fun a j => zXF (M 0 4) a j ∨ (a = 18 ∧ j = 1) ∨ (a = 0 ∧ j = 4)) M M1))) := by
  refine zK_of (ls0 := [zr 0, (3, 0)]) (by decide) rfl (by decide) rfl (Nat.le_of_ble_eq_true rfl) ?_
  refine zV_aload_n (pc := 0) (i := 0) dX9_text_0 rfl rfl ?_
  refine zV_get (pc := 1) (j := 4) dX9_text_1 flX9_84 (zOb_of rfl) rfl rfl ?_
  refine zV_if_lt (pc := 4) (tgt := 19) dX9_text_4 (by decide) (by omega) (fun c_4 => absurd c_4 (by omega)) (fun c_4 => ?_)
  refine zV_aload_n (pc := 7) (i := 0) dX9_text_7 rfl rfl ?_
  refine zV_get (pc := 8) (j := 4) dX9_text_8 flX9_84 (zOb_of rfl) rfl rfl ?_
  refine zV_aload_n (pc := 11) (i := 0) dX9_text_11 rfl rfl ?_
  refine zV_get (pc := 12) (j := 3) dX9_text_12 flX9_21 (zOb_of rfl) rfl hS.e0_3 ?_
  refine zV_alen (pc := 15) dX9_text_15 (zAr_of rfl : zAr 75 17 3 6) ?_
  refine zV_icmp_lt (pc := 16) (tgt := 22) dX9_text_16 (by decide) (by omega) (fun c_16 => ?_) (fun c_16 => ?_)
  · have ht : 0 ≤ M 0 4 ∧ M 0 4 < 6 := by omega
    refine zV_aload_n (pc := 22) (i := 0) dX9_text_22 rfl rfl ?_
    refine zV_get (pc := 23) (j := 5) dX9_text_23 flX9_28 (zOb_of rfl) rfl hS.e0_5 ?_
    refine zV_aload_n (pc := 26) (i := 0) dX9_text_26 rfl rfl ?_
    refine zV_get (pc := 27) (j := 3) dX9_text_27 flX9_21 (zOb_of rfl) rfl hS.e0_3 ?_
    refine zV_aload_n (pc := 30) (i := 0) dX9_text_30 rfl rfl ?_
    refine zV_get (pc := 31) (j := 4) dX9_text_31 flX9_84 (zOb_of rfl) rfl rfl ?_
    refine zV_aald (pc := 34) dX9_text_34 (zAr_of rfl : zAr 75 17 3 6) ⟨rfl, rfl⟩ (by omega) (hS.tx ht) ?_
    refine zV_ivq (pc := 35) (ci := 3) dX9_text_35 klX9_77 mX3_read ⟨by decide, rfl⟩ rfl ⟨Nat.zero_le _, Nat.zero_le _⟩ (kX3_read (z := z) (tp := tp) ht hS h181 hT htp) (zOb_of rfl) rfl rfl (Nat.le_of_ble_eq_true rfl) (fun M1 q1 => ?_)
    have hS1 := hS.fr q1.2 (zXF_st ht)
    have e4 : M1 0 4 = M 0 4 := q1.2 _ _ (by unfold zXF; omega)
    have fr := zpF_r hT
    refine zV_istore_n (pc := 38) (i := 1) dX9_text_38 rfl rfl ?_
    try dsimp only [List.set_cons_succ, List.set_cons_zero]
    refine zV_aload_n (pc := 39) (i := 0) dX9_text_39 rfl rfl ?_
    refine zV_get (pc := 40) (j := 5) dX9_text_40 flX9_28 (zOb_of rfl) rfl hS1.e0_5 ?_
    refine zV_ivn (pc := 43) (ci := 3) dX9_text_43 klX9_81 mX3_clear ⟨by decide, rfl⟩ rfl ⟨Nat.zero_le _, Nat.zero_le _⟩ kX3_clear (zOb_of rfl) rfl rfl (Nat.le_of_ble_eq_true rfl) (fun M2 q2 => ?_)
    subst q2
    refine zV_iload_n (pc := 46) (i := 1) dX9_text_46 rfl rfl ?_
    refine zV_iconst (pc := 47) dX9_text_47 ?_
    refine zV_icmp_eq (pc := 48) (tgt := 56) dX9_text_48 (by decide) (by omega) (fun c_48 => ?_) (fun c_48 => ?_)
    · refine zV_aload_n (pc := 56) (i := 0) dX9_text_56 rfl rfl ?_
      refine zV_dup (pc := 57) dX9_text_57 (by simp) ?_
      refine zV_get (pc := 58) (j := 4) dX9_text_58 flX9_84 (zOb_of rfl) rfl ((zU_a _ _ _ _ (by decide)).trans e4) ?_
      refine zV_iconst (pc := 61) dX9_text_61 ?_
      refine zV_iadd (pc := 62) dX9_text_62 ?_
      refine zV_put (pc := 63) (j := 4) dX9_text_63 flX9_84 rfl (zOb_of rfl) rfl trivial ?_
      refine zV_aload_n (pc := 66) (i := 0) dX9_text_66 rfl rfl ?_
      refine zV_get (pc := 67) (j := 4) dX9_text_67 flX9_84 (zOb_of rfl) rfl (zU_s _ _ _ _) ?_
      refine zV_iconst (pc := 70) dX9_text_70 ?_
      refine zV_isub (pc := 71) dX9_text_71 ?_
      refine zV_iret (pc := 72) dX9_text_72 trivial ⟨Nat.zero_le _, Nat.zero_le _⟩ ?_
      refine ⟨rfl, Or.inr (Or.inr ⟨by omega, c_48, ?_, (zU_a _ _ _ _ (by decide)).trans (zU_s _ _ _ _), zU_s _ _ _ _, ?_, ((q1.2.mono (C' := fun a j => zXF (M 0 4) a j ∨ (a = 18 ∧ j = 1) ∨ (a = 0 ∧ j = 4)) (fun a j y => Or.inl y)).up (Or.inr (Or.inl ⟨rfl, rfl⟩))).up (Or.inr (Or.inr ⟨rfl, rfl⟩))⟩)⟩
      · exact congrArg (fun x => some (zi x)) (by omega)
      · obtain ⟨t1, t2, t3, t4⟩ := q1.1
        have g : ∀ a j, 26 ≤ a → zU (zU M1 18 1 0) 0 4 (M 0 4 + 1) a j = M1 a j := fun a j h => (zU_a _ _ _ _ (by omega)).trans (zU_a _ _ _ _ (by omega))
        exact ⟨⟨(g _ _ (by omega)).trans t1.1, fun j x hx => (g _ _ (by omega)).trans (t1.2 j x hx)⟩, (g _ _ (by omega)).trans t2, (g _ _ (by omega)).trans t3, (g _ _ (by omega)).trans t4⟩
    · refine zV_bipush (pc := 51) dX9_text_51 (by decide) ?_
      refine zV_iload_n (pc := 53) (i := 1) dX9_text_53 rfl rfl ?_
      refine zV_isub (pc := 54) dX9_text_54 ?_
      refine zV_iret (pc := 55) dX9_text_55 trivial ⟨Nat.zero_le _, Nat.zero_le _⟩ ?_
      exact ⟨rfl, Or.inr (Or.inl ⟨by omega, c_48, rfl, zU_s _ _ _ _, (q1.2.mono (C' := fun a j => zXF (M 0 4) a j ∨ (a = 18 ∧ j = 1)) (fun a j y => Or.inl y)).up (Or.inr ⟨rfl, rfl⟩)⟩)⟩
  · refine zV_bipush (pc := 19) dX9_text_19 (by decide) ?_
    refine zV_iret (pc := 21) dX9_text_21 trivial ⟨Nat.zero_le _, Nat.zero_le _⟩ ?_
    exact ⟨rfl, Or.inl ⟨by omega, rfl, rfl⟩⟩
end
