/-! THE CLASS: what days and the year cost (printed by wip/whole/p16.py) -/
theorem zNm.mk {M : zM} {d t m p r n : Int} (h0 : M 54 0 = d) (h1 : M 54 1 = t) (h2 : M 54 2 = m) (h3 : M 54 3 = p) (h4 : M 54 4 = r) (h5 : M 54 5 = n) (hd : 0 ≤ d ∧ d ≤ 1000) (ht : 0 ≤ t ∧ t ≤ 1000) (hm : 0 ≤ m ∧ m ≤ 1000) (hp : 0 ≤ p ∧ p ≤ 1000) (hr : 0 ≤ r ∧ r ≤ 1000) (hn : 0 ≤ n ∧ n ≤ 1000) : zNm M (znm d t m p r n) := by
  intro j j0 j1
  rcases (show j = 0 ∨ j = 1 ∨ j = 2 ∨ j = 3 ∨ j = 4 ∨ j = 5 by omega) with rfl | rfl | rfl | rfl | rfl | rfl
  · exact ⟨h0, by show -2147483648 ≤ d ∧ d ≤ 2147483647; omega⟩
  · exact ⟨h1, by show -2147483648 ≤ t ∧ t ≤ 2147483647; omega⟩
  · exact ⟨h2, by show -2147483648 ≤ m ∧ m ≤ 2147483647; omega⟩
  · exact ⟨h3, by show -2147483648 ≤ p ∧ p ≤ 2147483647; omega⟩
  · exact ⟨h4, by show -2147483648 ≤ r ∧ r ≤ 2147483647; omega⟩
  · exact ⟨h5, by show -2147483648 ≤ n ∧ n ≤ 2147483647; omega⟩
/-- what the class holds, at rest between calls, as far as days go -/
def zRu (M : zM) : Prop := (0 ≤ M 1 3 ∧ M 1 3 < 6) ∧ zTx M (M 1 3)
theorem zRu.fr {M M1 : zM} (h : zRu M) (h1 : zFr zSc M M1) : zRu M1 ∧ M1 1 3 = M 1 3 := by
  have e : M1 1 3 = M 1 3 := h1 _ _ (by unfold zSc; omega)
  refine ⟨?_, e⟩
  unfold zRu
  rw [e]
  exact ⟨h.1, (h.2.fr h.1 h1).1⟩
theorem ztx_fr {M M1 : zM} (h : zRu M) (h1 : zFr zSc M M1) (k : Int) (nm : Int → Int) : ztx M1 k nm = ztx M k nm := by
  have e := (h.fr h1).2
  have e2 := h.2.fr h.1 h1
  unfold ztx
  rw [e, e2.2.1, e2.2.2]
noncomputable def zcs (M : zM) (f : Int → Int) (d : Int) : Int := zcost (ztx M) (zTc M) (M 1 1).toNat f d
/-- the part of a day's costs that its things make -/
noncomputable def zcF (M : zM) (f : Int → Int) (d : Int) : Int → Int := fun i => zif (zbt (f d) i) (zsp (zTc M i 0) (zTc M i 1) (ztx M 0 (znm d i (zpc (f d)) (zTc M i 2) (zra f d.toNat) (zTc M i 1)))) 0
theorem zcF_r {M : zM} (hW : zWf M) (f : Int → Int) (d : Int) {i : Int} (h0 : 0 ≤ i) (h1 : i < M 1 1) : 0 ≤ zcF M f d i ∧ zcF M f d i ≤ 198 := by
  unfold zcF
  by_cases h : zbt (f d) i
  · rw [zif_t h]
    exact zsp_r (hW.2 i h0 h1).2.1.1 (ztx_r _ _ _)
  · rw [zif_f h]
    omega
/-- a thing that does not come, or is not there, costs nothing -/
theorem zcF_no {M : zM} {f : Int → Int} {d i c : Int} (h0 : 0 ≤ i) (hb : ¬ zbt (f d) i) (h : c = zsum (zcF M f d) (min i (M 1 1)).toNat) : c = zsum (zcF M f d) (min (i + 1) (M 1 1)).toNat := by
  by_cases hin : i < M 1 1
  · rw [show min i (M 1 1) = i by omega] at h
    rw [h, show min (i + 1) (M 1 1) = i + 1 by omega, zsum_n h0]
    unfold zcF
    rw [zif_f hb, Int.add_zero]
  · rw [h, show min (i + 1) (M 1 1) = min i (M 1 1) by omega]
theorem zcs_r {M : zM} (hW : zWf M) (f : Int → Int) (d : Int) : 0 ≤ zcs M f d ∧ zcs M f d ≤ 1300 := by
  have hn := hW.1
  have h1 := zsum_b (f := zcF M f d) (m := 198) (n := (M 1 1).toNat) (fun k h0 h1 => zcF_r hW f d h0 (by omega))
  have h2 := ztx_r M 1 (znm d 0 (zpc (f d)) 0 (zra f d.toNat) 0)
  unfold zcs zcost
  change 0 ≤ (if f d = 0 then 0 else zsum (zcF M f d) (M 1 1).toNat + _) ∧ (if f d = 0 then 0 else zsum (zcF M f d) (M 1 1).toNat + _) ≤ 1300
  have h3 : ((M 1 1).toNat : Int) * 198 ≤ 6 * 198 := by omega
  split
  · omega
  · split <;> omega
section
variable {g : zG} {N : Nat} {M : zM}
set_option maxRecDepth 20000 in
set_option maxHeartbeats 2000000 in
theorem kX0_costsL (hS : zSt M) {f : Int → Int} (hC : zCo M f) (h6 : ∀ d : Int, 0 ≤ d → d < 400 → 0 ≤ f d ∧ f d < 64) (hW : zWf M) (hU : zRu M) {d : Int} (hd : 0 ≤ d ∧ d < 400) (hf0 : ¬ f d = 0) : ∀ (k : Nat) (i c : Int) (w7 : zv) (M1 : zM), i + k = 6 → 0 ≤ i → c = zsum (zcF M f d) (min i (M 1 1)).toNat → M1 54 0 = d → M1 54 2 = zpc (f d) → M1 54 4 = zra f d.toNat → zFr zSx M M1 → zV g xX0_costsOf (zPq (zi (zcs M f d)) 75 (fun M1 => zFr zSx M M1)) 56 [zr 52, zi d, zi (f d), zi (zpc (f d)), zr (26 + 3 * M 1 3), zi c, zi i, w7] [] 75 M1 0 0 := by
  intro k
  induction k with
  | zero =>
    intro i c w7 M1 h0 h1 h2 h3 h4 h5 h6a
    have hn := hW.1
    have hs := h6
    have hm := zpc_r (f d) (h6 d hd.1 hd.2)
    have hra := zra_r f d.toNat
    have hF : zFr zSc M M1 := h6a.mono (fun _ _ => zSx_c)
    have hS1 : zSt M1 := hS.fr hF zSc_st
    have hA : zAg M M1 := zAg.of hF
    have hW1 : zWf M1 := hW.ag hA
    have hA1 : M1 1 1 = M 1 1 := hA.1
    have hR := hU.2.fr hU.1 hF
    refine zV_iload (pc := 56) dX0_costsOf_56 rfl ?_
    refine zV_bipush (pc := 58) dX0_costsOf_58 (by decide) ?_
    refine zV_icmp_ge (pc := 60) (tgt := 141) dX0_costsOf_60 (by decide) (by omega) (fun c_60 => ?_) (fun c_60 => absurd (by omega) c_60)
    refine zV_iload_n (pc := 141) (i := 3) dX0_costsOf_141 rfl rfl ?_
    refine zV_iconst (pc := 142) dX0_costsOf_142 ?_
    refine zV_icmp_lt (pc := 143) (tgt := 171) dX0_costsOf_143 (by decide) (by omega) (fun c_143 => ?_) (fun c_143 => ?_)
    · refine zV_iload (pc := 171) dX0_costsOf_171 rfl ?_
      refine zV_iret (pc := 173) dX0_costsOf_173 trivial ⟨Nat.zero_le _, Nat.zero_le _⟩ ?_
      first
        | (refine ⟨?_, rfl, h6a⟩; unfold zcs zcost; rw [if_neg hf0, if_neg (by omega)]; rw [show min i (M 1 1) = M 1 1 by omega] at h2; rw [h2]; exact congrArg (fun x => some (zi x)) (Int.add_zero _).symm)
        | (refine ⟨?_, rfl, f2.tr (q9.mono (fun _ _ => zRk_x))⟩; unfold zcs zcost; rw [if_neg hf0, if_pos (by omega)]; rw [show min i (M 1 1) = M 1 1 by omega] at h2; rw [h2]; rfl)
    · refine zV_aload_n (pc := 146) (i := 0) dX0_costsOf_146 rfl rfl ?_
      refine zV_get (pc := 147) (j := 2) dX0_costsOf_147 flX0_12 (zOb_of rfl) rfl hS1.e52_2 ?_
      refine zV_iconst (pc := 150) dX0_costsOf_150 ?_
      refine zV_iconst (pc := 151) dX0_costsOf_151 ?_
      refine zV_iconst (pc := 152) dX0_costsOf_152 ?_
      refine zV_ivn (pc := 153) (ci := 4) dX0_costsOf_153 klX0_91 mX4_nameThing ⟨by decide, rfl⟩ rfl ⟨Nat.zero_le _, Nat.zero_le _⟩ (kX4_nameThing hS1 (x := 0) (y := 0) (z := 0) (by omega) (by omega) (by omega)) (zOb_of rfl) rfl rfl (Nat.le_of_ble_eq_true rfl) (fun M2 q => ?_)
      obtain ⟨q1, q2, q3, q4, q5⟩ := q
      have f2 : zFr zSx M M2 := h6a.tr (q5.mono (fun a j e => Or.inl e))
      have hS2 : zSt M2 := hS.fr (f2.mono (fun _ _ => zSx_c)) zSc_st
      have hR2 := hU.2.fr hU.1 (f2.mono (fun _ _ => zSx_c))
      refine zV_iload (pc := 156) dX0_costsOf_156 rfl ?_
      refine zV_aload_n (pc := 158) (i := 0) dX0_costsOf_158 rfl rfl ?_
      refine zV_get (pc := 159) (j := 2) dX0_costsOf_159 flX0_12 (zOb_of rfl) rfl hS2.e52_2 ?_
      refine zV_aload (pc := 162) dX0_costsOf_162 rfl ?_
      refine zV_iconst (pc := 164) dX0_costsOf_164 ?_
      refine zV_ivq (pc := 165) (ci := 4) dX0_costsOf_165 klX0_94 mX4_tells ⟨by decide, rfl⟩ rfl ⟨Nat.zero_le _, Nat.zero_le _⟩ (kX4_tells hS2 hU.1 (k := 1) (by omega) (zNm.mk ((q4 0 (by decide) (by decide) (by decide)).trans h3) q1 ((q4 2 (by decide) (by decide) (by decide)).trans h4) q2 ((q4 4 (by decide) (by decide) (by decide)).trans h5) q3 (by omega) (by omega) (by omega) (by omega) (by omega) (by omega)) hR2.1) (zOb_of rfl) rfl rfl (Nat.le_of_ble_eq_true rfl) (fun M3 q9 => ?_)
      rw [hR2.2.1, hR2.2.2]
      refine zV_iadd (pc := 168) dX0_costsOf_168 ?_
      refine zV_istore (pc := 169) dX0_costsOf_169 rfl ?_
      try dsimp only [List.set_cons_succ, List.set_cons_zero]
      refine zV_iload (pc := 171) dX0_costsOf_171 rfl ?_
      refine zV_iret (pc := 173) dX0_costsOf_173 trivial ⟨Nat.zero_le _, Nat.zero_le _⟩ ?_
      first
        | (refine ⟨?_, rfl, h6a⟩; unfold zcs zcost; rw [if_neg hf0, if_neg (by omega)]; rw [show min i (M 1 1) = M 1 1 by omega] at h2; rw [h2]; exact congrArg (fun x => some (zi x)) (Int.add_zero _).symm)
        | (refine ⟨?_, rfl, f2.tr (q9.mono (fun _ _ => zRk_x))⟩; unfold zcs zcost; rw [if_neg hf0, if_pos (by omega)]; rw [show min i (M 1 1) = M 1 1 by omega] at h2; rw [h2]; rfl)
  | succ k ih =>
    intro i c w7 M1 h0 h1 h2 h3 h4 h5 h6a
    have hn := hW.1
    have hs := h6
    have hm := zpc_r (f d) (h6 d hd.1 hd.2)
    have hra := zra_r f d.toNat
    have hF : zFr zSc M M1 := h6a.mono (fun _ _ => zSx_c)
    have hS1 : zSt M1 := hS.fr hF zSc_st
    have hA : zAg M M1 := zAg.of hF
    have hW1 : zWf M1 := hW.ag hA
    have hA1 : M1 1 1 = M 1 1 := hA.1
    have hR := hU.2.fr hU.1 hF
    refine zV_iload (pc := 56) dX0_costsOf_56 rfl ?_
    refine zV_bipush (pc := 58) dX0_costsOf_58 (by decide) ?_
    refine zV_icmp_ge (pc := 60) (tgt := 141) dX0_costsOf_60 (by decide) (by omega) (fun c_60 => absurd c_60 (by omega)) (fun c_60 => ?_)
    refine zV_iload_n (pc := 63) (i := 2) dX0_costsOf_63 rfl rfl ?_
    refine zV_iload (pc := 64) dX0_costsOf_64 rfl ?_
    refine zV_isNp (pc := 66) dX0_costsOf_66 klX0_82 mX9_hasBit rfl ⟨Nat.zero_le _, Nat.zero_le _⟩ (kX9_hasBit (by have := h6 d hd.1 hd.2; omega) (by omega)) rfl rfl (Nat.le_of_ble_eq_true rfl) ?_
    refine zV_if_eqb (pc := 69) (tgt := 135) dX0_costsOf_69 (by decide) (fun c_69 => ?_) (fun c_69 => ?_)
    · refine zV_iinc (pc := 135) dX0_costsOf_135 rfl rfl ?_
      refine zV_goto (pc := 138) (tgt := 56) dX0_costsOf_138 (by decide) ?_
      first
        | exact ih (i + 1) _ _ M1 (by omega) (by omega) (by rw [h2, show min (i + 1) (M 1 1) = min i (M 1 1) by omega]) h3 h4 h5 h6a
        | exact ih (i + 1) _ _ M1 (by omega) (by omega) (zcF_no (by omega) c_69 h2) h3 h4 h5 h6a
        | exact ih (i + 1) _ _ M3 (by omega) (by omega) (by rw [h2, show min (i + 1) (M 1 1) = i + 1 by omega, zsum_n (by omega), k0, k1]; unfold zcF; rw [zif_t c_69]; rfl) ((q9 54 0 (by unfold zRk; omega)).trans ((q4 0 (by decide) (by decide) (by decide)).trans h3)) ((q9 54 2 (by unfold zRk; omega)).trans ((q4 2 (by decide) (by decide) (by decide)).trans h4)) ((q9 54 4 (by unfold zRk; omega)).trans ((q4 4 (by decide) (by decide) (by decide)).trans h5)) f3
    · refine zV_aload_n (pc := 72) (i := 0) dX0_costsOf_72 rfl rfl ?_
      refine zV_get (pc := 73) (j := 0) dX0_costsOf_73 flX0_29 (zOb_of rfl) rfl hS1.e52_0 ?_
      refine zV_iload (pc := 76) dX0_costsOf_76 rfl ?_
      refine zV_ivp (pc := 78) (ci := 5) dX0_costsOf_78 klX0_46 mX5_has ⟨by decide, rfl⟩ rfl ⟨Nat.zero_le _, Nat.zero_le _⟩ (kX5_has hS1 hW1.1 (by omega)) (zOb_of rfl) rfl rfl (Nat.le_of_ble_eq_true rfl) ?_
      refine zV_if_eqb (pc := 81) (tgt := 135) dX0_costsOf_81 (by decide) (fun c_81 => ?_) (fun c_81 => ?_)
      · refine zV_iinc (pc := 135) dX0_costsOf_135 rfl rfl ?_
        refine zV_goto (pc := 138) (tgt := 56) dX0_costsOf_138 (by decide) ?_
        first
          | exact ih (i + 1) _ _ M1 (by omega) (by omega) (by rw [h2, show min (i + 1) (M 1 1) = min i (M 1 1) by omega]) h3 h4 h5 h6a
          | exact ih (i + 1) _ _ M1 (by omega) (by omega) (zcF_no (by omega) c_69 h2) h3 h4 h5 h6a
          | exact ih (i + 1) _ _ M3 (by omega) (by omega) (by rw [h2, show min (i + 1) (M 1 1) = i + 1 by omega, zsum_n (by omega), k0, k1]; unfold zcF; rw [zif_t c_69]; rfl) ((q9 54 0 (by unfold zRk; omega)).trans ((q4 0 (by decide) (by decide) (by decide)).trans h3)) ((q9 54 2 (by unfold zRk; omega)).trans ((q4 2 (by decide) (by decide) (by decide)).trans h4)) ((q9 54 4 (by unfold zRk; omega)).trans ((q4 4 (by decide) (by decide) (by decide)).trans h5)) f3
      · rw [show min i (M 1 1) = i by omega] at h2
        refine zV_aload_n (pc := 84) (i := 0) dX0_costsOf_84 rfl rfl ?_
        refine zV_get (pc := 85) (j := 0) dX0_costsOf_85 flX0_29 (zOb_of rfl) rfl hS1.e52_0 ?_
        refine zV_get (pc := 88) (j := 0) dX0_costsOf_88 flX0_50 (zOb_of rfl) rfl hS1.e1_0 ?_
        refine zV_iload (pc := 91) dX0_costsOf_91 rfl ?_
        refine zV_aald (pc := 93) dX0_costsOf_93 (zAr_of rfl : zAr 75 2 2 6) ⟨rfl, rfl⟩ (by omega) (hS1.th (by omega)) ?_
        refine zV_astore (pc := 94) dX0_costsOf_94 rfl ?_
        try dsimp only [List.set_cons_succ, List.set_cons_zero]
        refine zV_aload_n (pc := 96) (i := 0) dX0_costsOf_96 rfl rfl ?_
        refine zV_get (pc := 97) (j := 2) dX0_costsOf_97 flX0_12 (zOb_of rfl) rfl hS1.e52_2 ?_
        refine zV_iload (pc := 100) dX0_costsOf_100 rfl ?_
        refine zV_aload (pc := 102) dX0_costsOf_102 rfl ?_
        refine zV_get (pc := 104) (j := 2) dX0_costsOf_104 flX0_85 (zOb_th (by omega)) rfl rfl ?_
        refine zV_aload (pc := 107) dX0_costsOf_107 rfl ?_
        refine zV_get (pc := 109) (j := 1) dX0_costsOf_109 flX0_88 (zOb_th (by omega)) rfl rfl ?_
        refine zV_ivn (pc := 112) (ci := 4) dX0_costsOf_112 klX0_91 mX4_nameThing ⟨by decide, rfl⟩ rfl ⟨Nat.zero_le _, Nat.zero_le _⟩ (kX4_nameThing hS1 (by omega) (by have := (hW1.2 i (by omega) (by rw [hA.1]; omega)).2.2.1; omega) (by have := (hW1.2 i (by omega) (by rw [hA.1]; omega)).2.1; omega)) (zOb_of rfl) rfl rfl (Nat.le_of_ble_eq_true rfl) (fun M2 q => ?_)
        obtain ⟨q1, q2, q3, q4, q5⟩ := q
        have f2 : zFr zSx M M2 := h6a.tr (q5.mono (fun a j e => Or.inl e))
        have hS2 : zSt M2 := hS.fr (f2.mono (fun _ _ => zSx_c)) zSc_st
        have hR2 := hU.2.fr hU.1 (f2.mono (fun _ _ => zSx_c))
        have hF2 : zFr zSc M M2 := f2.mono (fun _ _ => zSx_c)
        have hA2 : zAg M M2 := zAg.of hF2
        have hth := hW.2 i (by omega) (by omega)
        have e0 := hA2.2 i 0 (by omega) (by omega)
        have e1 := hA2.2 i 1 (by omega) (by omega)
        have g1 := hA.2 i 1 (by omega) (by omega)
        have g2 := hA.2 i 2 (by omega) (by omega)
        rw [g1] at q3
        rw [g2] at q2
        unfold zTh at hth
        refine zV_iload (pc := 115) dX0_costsOf_115 rfl ?_
        refine zV_aload (pc := 117) dX0_costsOf_117 rfl ?_
        refine zV_aload_n (pc := 119) (i := 0) dX0_costsOf_119 rfl rfl ?_
        refine zV_get (pc := 120) (j := 2) dX0_costsOf_120 flX0_12 (zOb_of rfl) rfl hS2.e52_2 ?_
        refine zV_aload (pc := 123) dX0_costsOf_123 rfl ?_
        refine zV_iconst (pc := 125) dX0_costsOf_125 ?_
        refine zV_ivq (pc := 126) (ci := 4) dX0_costsOf_126 klX0_94 mX4_tells ⟨by decide, rfl⟩ rfl ⟨Nat.zero_le _, Nat.zero_le _⟩ (kX4_tells hS2 hU.1 (k := 0) (by omega) (zNm.mk ((q4 0 (by decide) (by decide) (by decide)).trans h3) q1 ((q4 2 (by decide) (by decide) (by decide)).trans h4) q2 ((q4 4 (by decide) (by decide) (by decide)).trans h5) q3 (by omega) (by omega) (by omega) (by omega) (by omega) (by omega)) hR2.1) (zOb_of rfl) rfl rfl (Nat.le_of_ble_eq_true rfl) (fun M3 q9 => ?_)
        rw [hR2.2.1, hR2.2.2]
        have f3 : zFr zSx M M3 := f2.tr (q9.mono (fun _ _ => zRk_x))
        have hA3 : zAg M M3 := zAg.of (f3.mono (fun _ _ => zSx_c))
        have k0 := hA3.2 i 0 (by omega) (by omega)
        have k1 := hA3.2 i 1 (by omega) (by omega)
        refine zV_ivp (pc := 129) (ci := 8) dX0_costsOf_129 klX0_98 mX8_spends ⟨by decide, rfl⟩ rfl ⟨Nat.zero_le _, Nat.zero_le _⟩ (kX8_spends (zOb_th (by omega)) (by rw [k0]; exact hth.1) (by rw [k1]; exact hth.2.1) (zc99_r _)) (zOb_th (by omega)) rfl rfl (Nat.le_of_ble_eq_true rfl) ?_
        refine zV_iadd (pc := 132) dX0_costsOf_132 ?_
        refine zV_istore (pc := 133) dX0_costsOf_133 rfl ?_
        try dsimp only [List.set_cons_succ, List.set_cons_zero]
        refine zV_iinc (pc := 135) dX0_costsOf_135 rfl rfl ?_
        refine zV_goto (pc := 138) (tgt := 56) dX0_costsOf_138 (by decide) ?_
        first
          | exact ih (i + 1) _ _ M1 (by omega) (by omega) (by rw [h2, show min (i + 1) (M 1 1) = min i (M 1 1) by omega]) h3 h4 h5 h6a
          | exact ih (i + 1) _ _ M1 (by omega) (by omega) (zcF_no (by omega) c_69 h2) h3 h4 h5 h6a
          | exact ih (i + 1) _ _ M3 (by omega) (by omega) (by rw [h2, show min (i + 1) (M 1 1) = i + 1 by omega, zsum_n (by omega), k0, k1]; unfold zcF; rw [zif_t c_69]; rfl) ((q9 54 0 (by unfold zRk; omega)).trans ((q4 0 (by decide) (by decide) (by decide)).trans h3)) ((q9 54 2 (by unfold zRk; omega)).trans ((q4 2 (by decide) (by decide) (by decide)).trans h4)) ((q9 54 4 (by unfold zRk; omega)).trans ((q4 4 (by decide) (by decide) (by decide)).trans h5)) f3
set_option maxRecDepth 20000 in
set_option maxHeartbeats 2000000 in
theorem kX0_costsOf (hS : zSt M) {f : Int → Int} (hC : zCo M f) (h6 : ∀ d : Int, 0 ≤ d → d < 400 → 0 ≤ f d ∧ f d < 64) (hW : zWf M) (hU : zRu M) {d : Int} (hd : 0 ≤ d ∧ d < 400) : zK g yX0_costsOf xX0_costsOf [zr 52, zi d] 75 M (zPq (zi (zcs M f d)) 75 (fun M1 => zFr zSx M M1)) := by
  refine zK_of (ls0 := [zr 52, zi d, (3, 0), (3, 0), (3, 0), (3, 0), (3, 0), (3, 0)]) (by decide) rfl (by decide) rfl (Nat.le_of_ble_eq_true rfl) ?_
  have hn := hW.1
  have hm := zpc_r (f d) (h6 d hd.1 hd.2)
  have hra := zra_r f d.toNat
  refine zV_iload_n (pc := 0) (i := 1) dX0_costsOf_0 rfl rfl ?_
  refine zV_isNp (pc := 1) dX0_costsOf_1 klX0_62 mX9_isDay rfl ⟨Nat.zero_le _, Nat.zero_le _⟩ (kX9_isDay (by omega)) rfl rfl (Nat.le_of_ble_eq_true rfl) ?_
  refine zV_if_eqb (pc := 4) (tgt := 16) dX0_costsOf_4 (by decide) (fun c_4 => absurd c_4 (fun q => q ⟨by omega, by omega⟩)) (fun c_4 => ?_)
  refine zV_aload_n (pc := 7) (i := 0) dX0_costsOf_7 rfl rfl ?_
  refine zV_get (pc := 8) (j := 4) dX0_costsOf_8 flX0_25 (zOb_of rfl) rfl hS.e52_4 ?_
  refine zV_iload_n (pc := 11) (i := 1) dX0_costsOf_11 rfl rfl ?_
  refine zV_iald (pc := 12) dX0_costsOf_12 (zAr_of rfl : zAr 75 57 0 400) (by omega) (hC d hd.1 hd.2) ?_
  refine zV_if_ne (pc := 13) (tgt := 18) dX0_costsOf_13 (by decide) (by have := h6 d hd.1 hd.2; omega) (fun c_13 => ?_) (fun c_13 => ?_)
  · refine zV_aload_n (pc := 18) (i := 0) dX0_costsOf_18 rfl rfl ?_
    refine zV_get (pc := 19) (j := 4) dX0_costsOf_19 flX0_25 (zOb_of rfl) rfl hS.e52_4 ?_
    refine zV_iload_n (pc := 22) (i := 1) dX0_costsOf_22 rfl rfl ?_
    refine zV_iald (pc := 23) dX0_costsOf_23 (zAr_of rfl : zAr 75 57 0 400) (by omega) (hC d hd.1 hd.2) ?_
    refine zV_istore_n (pc := 24) (i := 2) dX0_costsOf_24 rfl rfl ?_
    try dsimp only [List.set_cons_succ, List.set_cons_zero]
    refine zV_iload_n (pc := 25) (i := 2) dX0_costsOf_25 rfl rfl ?_
    refine zV_isp (pc := 26) dX0_costsOf_26 klX0_65 mJ6_bitCount_0f7a4 rfl ⟨Nat.zero_le _, Nat.zero_le _⟩ (kJ6_bitCount (h6 d hd.1 hd.2)) rfl rfl (Nat.le_of_ble_eq_true rfl) ?_
    refine zV_istore_n (pc := 29) (i := 3) dX0_costsOf_29 rfl rfl ?_
    try dsimp only [List.set_cons_succ, List.set_cons_zero]
    refine zV_aload_n (pc := 30) (i := 0) dX0_costsOf_30 rfl rfl ?_
    refine zV_ivp (pc := 31) (ci := 0) dX0_costsOf_31 klX0_71 mX0_rule ⟨by decide, rfl⟩ rfl ⟨Nat.zero_le _, Nat.zero_le _⟩ (kX0_rule hS hU.1) (zOb_of rfl) rfl rfl (Nat.le_of_ble_eq_true rfl) ?_
    refine zV_astore (pc := 34) dX0_costsOf_34 rfl ?_
    try dsimp only [List.set_cons_succ, List.set_cons_zero]
    refine zV_aload_n (pc := 36) (i := 0) dX0_costsOf_36 rfl rfl ?_
    refine zV_get (pc := 37) (j := 2) dX0_costsOf_37 flX0_12 (zOb_of rfl) rfl hS.e52_2 ?_
    refine zV_iload_n (pc := 40) (i := 1) dX0_costsOf_40 rfl rfl ?_
    refine zV_iload_n (pc := 41) (i := 3) dX0_costsOf_41 rfl rfl ?_
    refine zV_aload_n (pc := 42) (i := 0) dX0_costsOf_42 rfl rfl ?_
    refine zV_iload_n (pc := 43) (i := 1) dX0_costsOf_43 rfl rfl ?_
    refine zV_ivp (pc := 44) (ci := 0) dX0_costsOf_44 klX0_75 mX0_restAhead ⟨by decide, rfl⟩ rfl ⟨Nat.zero_le _, Nat.zero_le _⟩ (kX0_restAhead hS hC h6 (by omega)) (zOb_of rfl) rfl rfl (Nat.le_of_ble_eq_true rfl) ?_
    refine zV_ivn (pc := 47) (ci := 4) dX0_costsOf_47 klX0_78 mX4_nameDay ⟨by decide, rfl⟩ rfl ⟨Nat.zero_le _, Nat.zero_le _⟩ (kX4_nameDay hS (by omega) (by omega) (by omega)) (zOb_of rfl) rfl rfl (Nat.le_of_ble_eq_true rfl) (fun M2 q => ?_)
    obtain ⟨q1, q2, q3, q4, q5⟩ := q
    refine zV_iconst (pc := 50) dX0_costsOf_50 ?_
    refine zV_istore (pc := 51) dX0_costsOf_51 rfl ?_
    try dsimp only [List.set_cons_succ, List.set_cons_zero]
    refine zV_iconst (pc := 53) dX0_costsOf_53 ?_
    refine zV_istore (pc := 54) dX0_costsOf_54 rfl ?_
    try dsimp only [List.set_cons_succ, List.set_cons_zero]
    exact kX0_costsL hS hC h6 hW hU hd c_13 6 0 0 _ M2 (by omega) (by omega) (by rw [show min 0 (M 1 1) = 0 by omega]; rfl) q1 q2 q3 (q5.mono (fun a j e => Or.inl e))
  · refine zV_iconst (pc := 16) dX0_costsOf_16 ?_
    refine zV_iret (pc := 17) dX0_costsOf_17 trivial ⟨Nat.zero_le _, Nat.zero_le _⟩ ?_
    exact ⟨by unfold zcs zcost; rw [if_pos c_13], rfl, zFr.rf⟩
end
