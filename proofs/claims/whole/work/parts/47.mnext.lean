/-! THE MODEL'S READER: next, opens, name (printed by wip/whole/p47.py) -/
theorem zdv_0 {tp : Int → Int} {z : Int} {k : Nat} {x v : Int} (h : ¬ zdg (zbp tp z x)) : zdv tp z k x v = v := by
  cases k with
  | zero => rfl
  | succ k => exact zif_f h
theorem zdv_1 {tp : Int → Int} {z : Int} {k : Nat} {x v : Int} (h : zdg (zbp tp z x)) : zdv tp z (k + 1) x v = zdv tp z k (x + 1) (v * 10 + zbp tp z x - 48) := zif_t h
section
variable {g : zG} {N : Nat} {M : zM}
set_option maxRecDepth 20000 in
set_option maxHeartbeats 2000000 in
theorem kX10_nxW {f z : Int} {tp : Int → Int} (hC : zMC M f tp z) (hT : ztp tp z) {s : zσ} (hat : 0 ≤ s.at ∧ s.at ≤ z) (h21 : M 58 21 = s.at) (hft : s.ft = -1) (h26 : M 58 26 = 0) {p : Int} (hp : zrn (fun j => zbk (zbp tp z j)) 160 s.at = p) (hpz : 0 ≤ p ∧ p ≤ z) {b : Int} {w2 : zv} (hc : zlt (zbp tp z p)) : ∀ (k : Nat) (x : Int) (M1 : zM), z - x ≤ k → M1 58 21 = x → zFr zNF M M1 → zrn (fun j => zlt (zbp tp z j)) k x = zrn (fun j => zlt (zbp tp z j)) 160 p → M1 58 22 = 1 → M1 58 23 = p → p ≤ x ∧ x ≤ z → zV g xX10_next (zPn 75 (fun M1 => zMd tp M1 (zadv tp z s) ∧ zFr zNF M M1)) 100 [zr 58, zi b, w2] [] 75 M1 0 0 := by
  intro k
  induction k with
  | zero =>
    intro x M1 h0 h1 h2 h3 h4 h5 h6
    have hzz := hT.1
    have hC1 := hC.fr (h2.mono (fun a j q => zNF_G q))
    have hb1 := zbp_r (p := x) hT
    have e26 : M1 58 26 = 0 := (h2 _ _ (by unfold zNF; omega)).trans h26
    have eA : zadv tp z s = ztk tp z p (-1) := by unfold zadv; rw [hp, hft]
    refine zV_aload_n (pc := 100) (i := 0) dX10_next_100 rfl rfl ?_
    refine zV_aload_n (pc := 101) (i := 0) dX10_next_101 rfl rfl ?_
    refine zV_get (pc := 102) (j := 21) dX10_next_102 flX10_133 (zOb_of rfl) rfl h1 ?_
    refine zV_ivp (pc := 105) (ci := 10) dX10_next_105 klX10_136 mX10_byteAt ⟨by decide, rfl⟩ rfl ⟨Nat.zero_le _, Nat.zero_le _⟩ (kX10_byteAt hC1 hT (by omega)) (zOb_of rfl) rfl rfl (Nat.le_of_ble_eq_true rfl) ?_
    refine zV_i2l (pc := 108) dX10_next_108 (by omega) ?_
    refine zV_ldc2 (pc := 109) dX10_next_109 kiX10_146 ?_
    refine zV_ldc2 (pc := 112) dX10_next_112 kiX10_148 ?_
    refine zV_isp (pc := 115) dX10_next_115 klX10_76 mX10_in rfl ⟨Nat.zero_le _, Nat.zero_le _⟩ (kX10_in (by omega) (by omega) (by omega)) rfl rfl (Nat.le_of_ble_eq_true rfl) ?_
    refine zV_if_eqb (pc := 118) (tgt := 321) dX10_next_118 (by decide) (fun c_118 => ?_) (fun c_118 => ?_)
    · refine zV_vret (pc := 321) dX10_next_321 trivial ⟨Nat.zero_le _, Nat.zero_le _⟩ ?_
      have eX : x = zrn (fun j => zlt (zbp tp z j)) 160 p := (zrn_0 (q := fun j => zlt (zbp tp z j)) (k := 0) c_118).symm.trans h3
      have c1 : zlt (zbp tp z p) := hc
      have e9 : ztk tp z p (-1) = (zwt tp p x 12, zwv tp p x 12, p, x, -1) := by unfold ztk; rw [zit_f (by unfold zlt at c1; omega), zit_t c1, ← eX]
      rw [eA, e9]
      have hE := (zrn_e (q := fun j => zlt (zbp tp z j)) (z := z) zlt_z 160 p (by omega)).2
      have hx := zrn_r (fun j => zlt (zbp tp z j)) 159 (p + 1)
      have hx2 : zrn (fun j => zlt (zbp tp z j)) 160 p = zrn (fun j => zlt (zbp tp z j)) 159 (p + 1) := zrn_1 (q := fun j => zlt (zbp tp z j)) c1
      rw [← eX] at hE hx2
      refine ⟨rfl, rfl, ⟨e26.trans (zb_f (fun q => q rfl)).symm, fun q => absurd rfl q, fun _ => ⟨h5, Or.inr (Or.inr (Or.inr (Or.inl ⟨h4, h1, ?_, fun j j0 j1 => ?_, rfl, rfl⟩)))⟩⟩, h2⟩
      · show p < x
        omega
      · have q := hE j j0 j1
        have e8 : zbp tp z j = tp j := if_pos ⟨by have j0 : p ≤ j := j0; omega, by have j1 : j < x := j1; omega⟩
        rw [e8] at q
        exact q
    · exfalso
      rw [zbp_z (by omega)] at c_118
      omega
  | succ k ih =>
    intro x M1 h0 h1 h2 h3 h4 h5 h6
    have hzz := hT.1
    have hC1 := hC.fr (h2.mono (fun a j q => zNF_G q))
    have hb1 := zbp_r (p := x) hT
    have e26 : M1 58 26 = 0 := (h2 _ _ (by unfold zNF; omega)).trans h26
    have eA : zadv tp z s = ztk tp z p (-1) := by unfold zadv; rw [hp, hft]
    refine zV_aload_n (pc := 100) (i := 0) dX10_next_100 rfl rfl ?_
    refine zV_aload_n (pc := 101) (i := 0) dX10_next_101 rfl rfl ?_
    refine zV_get (pc := 102) (j := 21) dX10_next_102 flX10_133 (zOb_of rfl) rfl h1 ?_
    refine zV_ivp (pc := 105) (ci := 10) dX10_next_105 klX10_136 mX10_byteAt ⟨by decide, rfl⟩ rfl ⟨Nat.zero_le _, Nat.zero_le _⟩ (kX10_byteAt hC1 hT (by omega)) (zOb_of rfl) rfl rfl (Nat.le_of_ble_eq_true rfl) ?_
    refine zV_i2l (pc := 108) dX10_next_108 (by omega) ?_
    refine zV_ldc2 (pc := 109) dX10_next_109 kiX10_146 ?_
    refine zV_ldc2 (pc := 112) dX10_next_112 kiX10_148 ?_
    refine zV_isp (pc := 115) dX10_next_115 klX10_76 mX10_in rfl ⟨Nat.zero_le _, Nat.zero_le _⟩ (kX10_in (by omega) (by omega) (by omega)) rfl rfl (Nat.le_of_ble_eq_true rfl) ?_
    refine zV_if_eqb (pc := 118) (tgt := 321) dX10_next_118 (by decide) (fun c_118 => ?_) (fun c_118 => ?_)
    · refine zV_vret (pc := 321) dX10_next_321 trivial ⟨Nat.zero_le _, Nat.zero_le _⟩ ?_
      have eX : x = zrn (fun j => zlt (zbp tp z j)) 160 p := (zrn_0 (q := fun j => zlt (zbp tp z j)) (k := k + 1) c_118).symm.trans h3
      have c1 : zlt (zbp tp z p) := hc
      have e9 : ztk tp z p (-1) = (zwt tp p x 12, zwv tp p x 12, p, x, -1) := by unfold ztk; rw [zit_f (by unfold zlt at c1; omega), zit_t c1, ← eX]
      rw [eA, e9]
      have hE := (zrn_e (q := fun j => zlt (zbp tp z j)) (z := z) zlt_z 160 p (by omega)).2
      have hx := zrn_r (fun j => zlt (zbp tp z j)) 159 (p + 1)
      have hx2 : zrn (fun j => zlt (zbp tp z j)) 160 p = zrn (fun j => zlt (zbp tp z j)) 159 (p + 1) := zrn_1 (q := fun j => zlt (zbp tp z j)) c1
      rw [← eX] at hE hx2
      refine ⟨rfl, rfl, ⟨e26.trans (zb_f (fun q => q rfl)).symm, fun q => absurd rfl q, fun _ => ⟨h5, Or.inr (Or.inr (Or.inr (Or.inl ⟨h4, h1, ?_, fun j j0 j1 => ?_, rfl, rfl⟩)))⟩⟩, h2⟩
      · show p < x
        omega
      · have q := hE j j0 j1
        have e8 : zbp tp z j = tp j := if_pos ⟨by have j0 : p ≤ j := j0; omega, by have j1 : j < x := j1; omega⟩
        rw [e8] at q
        exact q
    · refine zV_aload_n (pc := 121) (i := 0) dX10_next_121 rfl rfl ?_
      refine zV_dup (pc := 122) dX10_next_122 (by simp) ?_
      refine zV_get (pc := 123) (j := 21) dX10_next_123 flX10_133 (zOb_of rfl) rfl h1 ?_
      refine zV_iconst (pc := 126) dX10_next_126 ?_
      refine zV_iadd (pc := 127) dX10_next_127 ?_
      refine zV_put (pc := 128) (j := 21) dX10_next_128 flX10_133 rfl (zOb_of rfl) rfl trivial ?_
      refine zV_goto (pc := 131) (tgt := 100) dX10_next_131 (by decide) ?_
      have c2 : zlt (zbp tp z x) := c_118
      refine ih (x + 1) _ (by omega) (zU_s _ _ _ _) (h2.up (a := 58) (j := 21) ⟨rfl, by decide, by decide⟩) ((zrn_1 (q := fun j => zlt (zbp tp z j)) c2).symm.trans h3) ((zU_j _ _ _ _ (by decide)).trans h4) ((zU_j _ _ _ _ (by decide)).trans h5) ⟨by omega, ?_⟩
      by_cases q : z ≤ x
      · exact absurd c2 (zlt_z x q)
      · omega
set_option maxRecDepth 20000 in
set_option maxHeartbeats 2000000 in
theorem kX10_nxD {f z : Int} {tp : Int → Int} (hC : zMC M f tp z) (hT : ztp tp z) {s : zσ} (hat : 0 ≤ s.at ∧ s.at ≤ z) (h21 : M 58 21 = s.at) (hft : s.ft = -1) (h26 : M 58 26 = 0) {p : Int} (hp : zrn (fun j => zbk (zbp tp z j)) 160 s.at = p) (hpz : 0 ≤ p ∧ p ≤ z) {b : Int} (hc : zdg (zbp tp z p)) : ∀ (k : Nat) (x v n : Int) (M1 : zM), z - x ≤ k → M1 58 21 = x → zFr zNF M M1 → zrn (fun j => zdg (zbp tp z j)) k x = zrn (fun j => zdg (zbp tp z j)) 160 p → M1 58 23 = p → (x - p ≤ 4 → zdv tp z k x v = zdv tp z 160 p 0) → n = x - p → M1 58 24 = v → p ≤ x ∧ x ≤ z → zV g xX10_next (zPn 75 (fun M1 => zMd tp M1 (zadv tp z s) ∧ zFr zNF M M1)) 160 [zr 58, zi b, zi n] [] 75 M1 0 0 := by
  intro k
  induction k with
  | zero =>
    intro x v n M1 h0 h1 h2 h3 h4 h5 h6 h7 h8
    have hzz := hT.1
    have hC1 := hC.fr (h2.mono (fun a j q => zNF_G q))
    have hb1 := zbp_r (p := x) hT
    have e26 : M1 58 26 = 0 := (h2 _ _ (by unfold zNF; omega)).trans h26
    have eA : zadv tp z s = ztk tp z p (-1) := by unfold zadv; rw [hp, hft]
    refine zV_aload_n (pc := 160) (i := 0) dX10_next_160 rfl rfl ?_
    refine zV_aload_n (pc := 161) (i := 0) dX10_next_161 rfl rfl ?_
    refine zV_get (pc := 162) (j := 21) dX10_next_162 flX10_133 (zOb_of rfl) rfl h1 ?_
    refine zV_ivp (pc := 165) (ci := 10) dX10_next_165 klX10_136 mX10_byteAt ⟨by decide, rfl⟩ rfl ⟨Nat.zero_le _, Nat.zero_le _⟩ (kX10_byteAt hC1 hT (by omega)) (zOb_of rfl) rfl rfl (Nat.le_of_ble_eq_true rfl) ?_
    refine zV_i2l (pc := 168) dX10_next_168 (by omega) ?_
    refine zV_ldc2 (pc := 169) dX10_next_169 kiX10_150 ?_
    refine zV_ldc2 (pc := 172) dX10_next_172 kiX10_152 ?_
    refine zV_isp (pc := 175) dX10_next_175 klX10_76 mX10_in rfl ⟨Nat.zero_le _, Nat.zero_le _⟩ (kX10_in (by omega) (by omega) (by omega)) rfl rfl (Nat.le_of_ble_eq_true rfl) ?_
    refine zV_if_eqb (pc := 178) (tgt := 235) dX10_next_178 (by decide) (fun c_178 => ?_) (fun c_178 => ?_)
    · have eX : x = zrn (fun j => zdg (zbp tp z j)) 160 p := (zrn_0 (q := fun j => zdg (zbp tp z j)) (k := 0) c_178).symm.trans h3
      have c1 : zdg (zbp tp z p) := hc
      have e9 : ztk tp z p (-1) = (if x - p ≤ 4 then 2 else 1, zdv tp z 160 p 0, p, x, -1) := by unfold ztk; rw [zit_f (by unfold zdg at c1; omega), zit_f (by unfold zlt; unfold zdg at c1; omega), zit_t c1, ← eX]
      refine zV_aload_n (pc := 235) (i := 0) dX10_next_235 rfl rfl ?_
      refine zV_iload_n (pc := 236) (i := 2) dX10_next_236 rfl rfl ?_
      refine zV_iconst (pc := 237) dX10_next_237 ?_
      refine zV_icmp_le (pc := 238) (tgt := 245) dX10_next_238 (by decide) (by omega) (fun c_238 => ?_) (fun c_238 => ?_)
      · refine zV_iconst (pc := 245) dX10_next_245 ?_
        refine zV_put (pc := 246) (j := 22) dX10_next_246 flX10_143 rfl (zOb_of rfl) rfl trivial ?_
        refine zV_goto (pc := 249) (tgt := 321) dX10_next_249 (by decide) ?_
        refine zV_vret (pc := 321) dX10_next_321 trivial ⟨Nat.zero_le _, Nat.zero_le _⟩ ?_
        rw [eA, e9]
        first
          | (have hn : ¬ x - p ≤ 4 := by omega
             rw [if_neg hn]
             exact ⟨rfl, rfl, ⟨(zU_j _ _ _ _ (by decide)).trans (e26.trans (zb_f (fun q => q rfl)).symm), fun q => absurd rfl q, fun _ => ⟨(zU_j _ _ _ _ (by decide)).trans h4, Or.inr (Or.inl ⟨rfl, zU_s _ _ _ _⟩)⟩⟩, (h2.up (a := 58) (j := 22) ⟨rfl, by decide, by decide⟩)⟩)
          | (have hn : x - p ≤ 4 := by omega
             rw [if_pos hn]
             exact ⟨rfl, rfl, ⟨(zU_j _ _ _ _ (by decide)).trans (e26.trans (zb_f (fun q => q rfl)).symm), fun q => absurd rfl q, fun _ => ⟨(zU_j _ _ _ _ (by decide)).trans h4, Or.inr (Or.inr (Or.inl ⟨rfl, zU_s _ _ _ _, (zU_j _ _ _ _ (by decide)).trans (h7.trans ((zdv_0 (k := 0) c_178).symm.trans (h5 (by omega)))), (zU_j _ _ _ _ (by decide)).trans h1⟩))⟩⟩, (h2.up (a := 58) (j := 22) ⟨rfl, by decide, by decide⟩)⟩)
      · refine zV_iconst (pc := 241) dX10_next_241 ?_
        refine zV_goto (pc := 242) (tgt := 246) dX10_next_242 (by decide) ?_
        refine zV_put (pc := 246) (j := 22) dX10_next_246 flX10_143 rfl (zOb_of rfl) rfl trivial ?_
        refine zV_goto (pc := 249) (tgt := 321) dX10_next_249 (by decide) ?_
        refine zV_vret (pc := 321) dX10_next_321 trivial ⟨Nat.zero_le _, Nat.zero_le _⟩ ?_
        rw [eA, e9]
        first
          | (have hn : ¬ x - p ≤ 4 := by omega
             rw [if_neg hn]
             exact ⟨rfl, rfl, ⟨(zU_j _ _ _ _ (by decide)).trans (e26.trans (zb_f (fun q => q rfl)).symm), fun q => absurd rfl q, fun _ => ⟨(zU_j _ _ _ _ (by decide)).trans h4, Or.inr (Or.inl ⟨rfl, zU_s _ _ _ _⟩)⟩⟩, (h2.up (a := 58) (j := 22) ⟨rfl, by decide, by decide⟩)⟩)
          | (have hn : x - p ≤ 4 := by omega
             rw [if_pos hn]
             exact ⟨rfl, rfl, ⟨(zU_j _ _ _ _ (by decide)).trans (e26.trans (zb_f (fun q => q rfl)).symm), fun q => absurd rfl q, fun _ => ⟨(zU_j _ _ _ _ (by decide)).trans h4, Or.inr (Or.inr (Or.inl ⟨rfl, zU_s _ _ _ _, (zU_j _ _ _ _ (by decide)).trans (h7.trans ((zdv_0 (k := 0) c_178).symm.trans (h5 (by omega)))), (zU_j _ _ _ _ (by decide)).trans h1⟩))⟩⟩, (h2.up (a := 58) (j := 22) ⟨rfl, by decide, by decide⟩)⟩)
    · exfalso
      rw [zbp_z (by omega)] at c_178
      omega
  | succ k ih =>
    intro x v n M1 h0 h1 h2 h3 h4 h5 h6 h7 h8
    have hzz := hT.1
    have hC1 := hC.fr (h2.mono (fun a j q => zNF_G q))
    have hb1 := zbp_r (p := x) hT
    have e26 : M1 58 26 = 0 := (h2 _ _ (by unfold zNF; omega)).trans h26
    have eA : zadv tp z s = ztk tp z p (-1) := by unfold zadv; rw [hp, hft]
    refine zV_aload_n (pc := 160) (i := 0) dX10_next_160 rfl rfl ?_
    refine zV_aload_n (pc := 161) (i := 0) dX10_next_161 rfl rfl ?_
    refine zV_get (pc := 162) (j := 21) dX10_next_162 flX10_133 (zOb_of rfl) rfl h1 ?_
    refine zV_ivp (pc := 165) (ci := 10) dX10_next_165 klX10_136 mX10_byteAt ⟨by decide, rfl⟩ rfl ⟨Nat.zero_le _, Nat.zero_le _⟩ (kX10_byteAt hC1 hT (by omega)) (zOb_of rfl) rfl rfl (Nat.le_of_ble_eq_true rfl) ?_
    refine zV_i2l (pc := 168) dX10_next_168 (by omega) ?_
    refine zV_ldc2 (pc := 169) dX10_next_169 kiX10_150 ?_
    refine zV_ldc2 (pc := 172) dX10_next_172 kiX10_152 ?_
    refine zV_isp (pc := 175) dX10_next_175 klX10_76 mX10_in rfl ⟨Nat.zero_le _, Nat.zero_le _⟩ (kX10_in (by omega) (by omega) (by omega)) rfl rfl (Nat.le_of_ble_eq_true rfl) ?_
    refine zV_if_eqb (pc := 178) (tgt := 235) dX10_next_178 (by decide) (fun c_178 => ?_) (fun c_178 => ?_)
    · have eX : x = zrn (fun j => zdg (zbp tp z j)) 160 p := (zrn_0 (q := fun j => zdg (zbp tp z j)) (k := k + 1) c_178).symm.trans h3
      have c1 : zdg (zbp tp z p) := hc
      have e9 : ztk tp z p (-1) = (if x - p ≤ 4 then 2 else 1, zdv tp z 160 p 0, p, x, -1) := by unfold ztk; rw [zit_f (by unfold zdg at c1; omega), zit_f (by unfold zlt; unfold zdg at c1; omega), zit_t c1, ← eX]
      refine zV_aload_n (pc := 235) (i := 0) dX10_next_235 rfl rfl ?_
      refine zV_iload_n (pc := 236) (i := 2) dX10_next_236 rfl rfl ?_
      refine zV_iconst (pc := 237) dX10_next_237 ?_
      refine zV_icmp_le (pc := 238) (tgt := 245) dX10_next_238 (by decide) (by omega) (fun c_238 => ?_) (fun c_238 => ?_)
      · refine zV_iconst (pc := 245) dX10_next_245 ?_
        refine zV_put (pc := 246) (j := 22) dX10_next_246 flX10_143 rfl (zOb_of rfl) rfl trivial ?_
        refine zV_goto (pc := 249) (tgt := 321) dX10_next_249 (by decide) ?_
        refine zV_vret (pc := 321) dX10_next_321 trivial ⟨Nat.zero_le _, Nat.zero_le _⟩ ?_
        rw [eA, e9]
        first
          | (have hn : ¬ x - p ≤ 4 := by omega
             rw [if_neg hn]
             exact ⟨rfl, rfl, ⟨(zU_j _ _ _ _ (by decide)).trans (e26.trans (zb_f (fun q => q rfl)).symm), fun q => absurd rfl q, fun _ => ⟨(zU_j _ _ _ _ (by decide)).trans h4, Or.inr (Or.inl ⟨rfl, zU_s _ _ _ _⟩)⟩⟩, (h2.up (a := 58) (j := 22) ⟨rfl, by decide, by decide⟩)⟩)
          | (have hn : x - p ≤ 4 := by omega
             rw [if_pos hn]
             exact ⟨rfl, rfl, ⟨(zU_j _ _ _ _ (by decide)).trans (e26.trans (zb_f (fun q => q rfl)).symm), fun q => absurd rfl q, fun _ => ⟨(zU_j _ _ _ _ (by decide)).trans h4, Or.inr (Or.inr (Or.inl ⟨rfl, zU_s _ _ _ _, (zU_j _ _ _ _ (by decide)).trans (h7.trans ((zdv_0 (k := k + 1) c_178).symm.trans (h5 (by omega)))), (zU_j _ _ _ _ (by decide)).trans h1⟩))⟩⟩, (h2.up (a := 58) (j := 22) ⟨rfl, by decide, by decide⟩)⟩)
      · refine zV_iconst (pc := 241) dX10_next_241 ?_
        refine zV_goto (pc := 242) (tgt := 246) dX10_next_242 (by decide) ?_
        refine zV_put (pc := 246) (j := 22) dX10_next_246 flX10_143 rfl (zOb_of rfl) rfl trivial ?_
        refine zV_goto (pc := 249) (tgt := 321) dX10_next_249 (by decide) ?_
        refine zV_vret (pc := 321) dX10_next_321 trivial ⟨Nat.zero_le _, Nat.zero_le _⟩ ?_
        rw [eA, e9]
        first
          | (have hn : ¬ x - p ≤ 4 := by omega
             rw [if_neg hn]
             exact ⟨rfl, rfl, ⟨(zU_j _ _ _ _ (by decide)).trans (e26.trans (zb_f (fun q => q rfl)).symm), fun q => absurd rfl q, fun _ => ⟨(zU_j _ _ _ _ (by decide)).trans h4, Or.inr (Or.inl ⟨rfl, zU_s _ _ _ _⟩)⟩⟩, (h2.up (a := 58) (j := 22) ⟨rfl, by decide, by decide⟩)⟩)
          | (have hn : x - p ≤ 4 := by omega
             rw [if_pos hn]
             exact ⟨rfl, rfl, ⟨(zU_j _ _ _ _ (by decide)).trans (e26.trans (zb_f (fun q => q rfl)).symm), fun q => absurd rfl q, fun _ => ⟨(zU_j _ _ _ _ (by decide)).trans h4, Or.inr (Or.inr (Or.inl ⟨rfl, zU_s _ _ _ _, (zU_j _ _ _ _ (by decide)).trans (h7.trans ((zdv_0 (k := k + 1) c_178).symm.trans (h5 (by omega)))), (zU_j _ _ _ _ (by decide)).trans h1⟩))⟩⟩, (h2.up (a := 58) (j := 22) ⟨rfl, by decide, by decide⟩)⟩)
    · refine zV_aload_n (pc := 181) (i := 0) dX10_next_181 rfl rfl ?_
      refine zV_iload_n (pc := 182) (i := 2) dX10_next_182 rfl rfl ?_
      refine zV_iconst (pc := 183) dX10_next_183 ?_
      refine zV_icmp_ge (pc := 184) (tgt := 212) dX10_next_184 (by decide) (by omega) (fun c_184 => ?_) (fun c_184 => ?_)
      · refine zV_aload_n (pc := 212) (i := 0) dX10_next_212 rfl rfl ?_
        refine zV_get (pc := 213) (j := 24) dX10_next_213 flX10_154 (zOb_of rfl) rfl h7 ?_
        refine zV_put (pc := 216) (j := 24) dX10_next_216 flX10_154 rfl (zOb_of rfl) rfl trivial ?_
        refine zV_iinc (pc := 219) dX10_next_219 rfl rfl ?_
        try dsimp only [List.set_cons_succ, List.set_cons_zero]
        refine zV_aload_n (pc := 222) (i := 0) dX10_next_222 rfl rfl ?_
        refine zV_dup (pc := 223) dX10_next_223 (by simp) ?_
        refine zV_get (pc := 224) (j := 21) dX10_next_224 flX10_133 (zOb_of rfl) rfl ((zU_j _ _ _ _ (by decide)).trans h1) ?_
        refine zV_iconst (pc := 227) dX10_next_227 ?_
        refine zV_iadd (pc := 228) dX10_next_228 ?_
        refine zV_put (pc := 229) (j := 21) dX10_next_229 flX10_133 rfl (zOb_of rfl) rfl trivial ?_
        refine zV_goto (pc := 232) (tgt := 160) dX10_next_232 (by decide) ?_
        have c2 : zdg (zbp tp z x) := c_178
        have hx9 : x + 1 ≤ z := by
          by_cases q : z ≤ x
          · exact absurd c2 (zdg_z x q)
          · omega
        first
          | exact ih (x + 1) (10 * v + zbp tp z x - 48) (n + 1) _ (by omega) (zU_s _ _ _ _) ((h2.up (a := 58) (j := 24) ⟨rfl, by decide, by decide⟩).up (a := 58) (j := 21) ⟨rfl, by decide, by decide⟩) ((zrn_1 (q := fun j => zdg (zbp tp z j)) c2).symm.trans h3) ((zU_j _ _ _ _ (by decide)).trans ((zU_j _ _ _ _ (by decide)).trans h4)) (fun q => by rw [show 10 * v + zbp tp z x - 48 = v * 10 + zbp tp z x - 48 by omega]; exact (zdv_1 c2).symm.trans (h5 (by omega))) (by omega) ((zU_j _ _ _ _ (by decide)).trans (zU_s _ _ _ _)) ⟨by omega, hx9⟩
          | exact ih (x + 1) v (n + 1) _ (by omega) (zU_s _ _ _ _) ((h2.up (a := 58) (j := 24) ⟨rfl, by decide, by decide⟩).up (a := 58) (j := 21) ⟨rfl, by decide, by decide⟩) ((zrn_1 (q := fun j => zdg (zbp tp z j)) c2).symm.trans h3) ((zU_j _ _ _ _ (by decide)).trans ((zU_j _ _ _ _ (by decide)).trans h4)) (fun q => absurd q (by omega)) (by omega) ((zU_j _ _ _ _ (by decide)).trans (zU_s _ _ _ _)) ⟨by omega, hx9⟩
      · refine zV_ldc2 (pc := 187) dX10_next_187 kiX10_158 ?_
        refine zV_aload_n (pc := 190) (i := 0) dX10_next_190 rfl rfl ?_
        refine zV_get (pc := 191) (j := 24) dX10_next_191 flX10_154 (zOb_of rfl) rfl h7 ?_
        refine zV_lmul (pc := 194) dX10_next_194 ?_
        refine zV_aload_n (pc := 195) (i := 0) dX10_next_195 rfl rfl ?_
        refine zV_aload_n (pc := 196) (i := 0) dX10_next_196 rfl rfl ?_
        refine zV_get (pc := 197) (j := 21) dX10_next_197 flX10_133 (zOb_of rfl) rfl h1 ?_
        refine zV_ivp (pc := 200) (ci := 10) dX10_next_200 klX10_136 mX10_byteAt ⟨by decide, rfl⟩ rfl ⟨Nat.zero_le _, Nat.zero_le _⟩ (kX10_byteAt hC1 hT (by omega)) (zOb_of rfl) rfl rfl (Nat.le_of_ble_eq_true rfl) ?_
        refine zV_i2l (pc := 203) dX10_next_203 (by omega) ?_
        refine zV_ladd (pc := 204) dX10_next_204 ?_
        refine zV_ldc2 (pc := 205) dX10_next_205 kiX10_150 ?_
        refine zV_lsub (pc := 208) dX10_next_208 ?_
        refine zV_goto (pc := 209) (tgt := 216) dX10_next_209 (by decide) ?_
        refine zV_put (pc := 216) (j := 24) dX10_next_216 flX10_154 rfl (zOb_of rfl) rfl trivial ?_
        refine zV_iinc (pc := 219) dX10_next_219 rfl rfl ?_
        try dsimp only [List.set_cons_succ, List.set_cons_zero]
        refine zV_aload_n (pc := 222) (i := 0) dX10_next_222 rfl rfl ?_
        refine zV_dup (pc := 223) dX10_next_223 (by simp) ?_
        refine zV_get (pc := 224) (j := 21) dX10_next_224 flX10_133 (zOb_of rfl) rfl ((zU_j _ _ _ _ (by decide)).trans h1) ?_
        refine zV_iconst (pc := 227) dX10_next_227 ?_
        refine zV_iadd (pc := 228) dX10_next_228 ?_
        refine zV_put (pc := 229) (j := 21) dX10_next_229 flX10_133 rfl (zOb_of rfl) rfl trivial ?_
        refine zV_goto (pc := 232) (tgt := 160) dX10_next_232 (by decide) ?_
        have c2 : zdg (zbp tp z x) := c_178
        have hx9 : x + 1 ≤ z := by
          by_cases q : z ≤ x
          · exact absurd c2 (zdg_z x q)
          · omega
        first
          | exact ih (x + 1) (10 * v + zbp tp z x - 48) (n + 1) _ (by omega) (zU_s _ _ _ _) ((h2.up (a := 58) (j := 24) ⟨rfl, by decide, by decide⟩).up (a := 58) (j := 21) ⟨rfl, by decide, by decide⟩) ((zrn_1 (q := fun j => zdg (zbp tp z j)) c2).symm.trans h3) ((zU_j _ _ _ _ (by decide)).trans ((zU_j _ _ _ _ (by decide)).trans h4)) (fun q => by rw [show 10 * v + zbp tp z x - 48 = v * 10 + zbp tp z x - 48 by omega]; exact (zdv_1 c2).symm.trans (h5 (by omega))) (by omega) ((zU_j _ _ _ _ (by decide)).trans (zU_s _ _ _ _)) ⟨by omega, hx9⟩
          | exact ih (x + 1) v (n + 1) _ (by omega) (zU_s _ _ _ _) ((h2.up (a := 58) (j := 24) ⟨rfl, by decide, by decide⟩).up (a := 58) (j := 21) ⟨rfl, by decide, by decide⟩) ((zrn_1 (q := fun j => zdg (zbp tp z j)) c2).symm.trans h3) ((zU_j _ _ _ _ (by decide)).trans ((zU_j _ _ _ _ (by decide)).trans h4)) (fun q => absurd q (by omega)) (by omega) ((zU_j _ _ _ _ (by decide)).trans (zU_s _ _ _ _)) ⟨by omega, hx9⟩
set_option maxRecDepth 20000 in
set_option maxHeartbeats 2000000 in
theorem kX10_nxT {f z : Int} {tp : Int → Int} (hC : zMC M f tp z) (hT : ztp tp z) {s : zσ} (hat : 0 ≤ s.at ∧ s.at ≤ z) (h21 : M 58 21 = s.at) (hft : s.ft = -1) (h26 : M 58 26 = 0) {p : Int} (hp : zrn (fun j => zbk (zbp tp z j)) 160 s.at = p) (hpz : 0 ≤ p ∧ p ≤ z) {w1 w2 : zv} {M1 : zM} (h2 : M1 58 21 = p) (hf1 : zFr zNF M M1) : zV g xX10_next (zPn 75 (fun M1 => zMd tp M1 (zadv tp z s) ∧ zFr zNF M M1)) 39 [zr 58, w1, w2] [] 75 M1 0 0 := by
  have hzz := hT.1
  have hb1 := zbp_r (p := p) hT
  have hS1 := (hC.fr (hf1.mono (fun a j q => zNF_G q))).1
  have z20 : M1 58 20 = z := (hf1 _ _ (by unfold zNF; omega)).trans hC.2.2.1
  have e26 : M1 58 26 = 0 := (hf1 _ _ (by unfold zNF; omega)).trans h26
  have eA : zadv tp z s = ztk tp z p (-1) := by unfold zadv; rw [hp, hft]
  have hC2 := hC.fr ((hf1.up (a := 58) (j := 23) (z := p) ⟨rfl, by decide, by decide⟩).mono (fun a j q => zNF_G q))
  refine zV_aload_n (pc := 39) (i := 0) dX10_next_39 rfl rfl ?_
  refine zV_aload_n (pc := 40) (i := 0) dX10_next_40 rfl rfl ?_
  refine zV_get (pc := 41) (j := 21) dX10_next_41 flX10_133 (zOb_of rfl) rfl h2 ?_
  refine zV_put (pc := 44) (j := 23) dX10_next_44 flX10_140 rfl (zOb_of rfl) rfl trivial ?_
  refine zV_aload_n (pc := 47) (i := 0) dX10_next_47 rfl rfl ?_
  refine zV_aload_n (pc := 48) (i := 0) dX10_next_48 rfl rfl ?_
  refine zV_get (pc := 49) (j := 21) dX10_next_49 flX10_133 (zOb_of rfl) rfl ((zU_j _ _ _ _ (by decide)).trans h2) ?_
  refine zV_ivp (pc := 52) (ci := 10) dX10_next_52 klX10_136 mX10_byteAt ⟨by decide, rfl⟩ rfl ⟨Nat.zero_le _, Nat.zero_le _⟩ (kX10_byteAt hC2 hT (by omega)) (zOb_of rfl) rfl rfl (Nat.le_of_ble_eq_true rfl) ?_
  refine zV_istore_n (pc := 55) (i := 1) dX10_next_55 rfl rfl ?_
  try dsimp only [List.set_cons_succ, List.set_cons_zero]
  refine zV_aload_n (pc := 56) (i := 0) dX10_next_56 rfl rfl ?_
  refine zV_iconst (pc := 57) dX10_next_57 ?_
  refine zV_put (pc := 58) (j := 22) dX10_next_58 flX10_143 rfl (zOb_of rfl) rfl trivial ?_
  refine zV_iload_n (pc := 61) (i := 1) dX10_next_61 rfl rfl ?_
  refine zV_if_ge (pc := 62) (tgt := 81) dX10_next_62 (by decide) (by omega) (fun c_62 => ?_) (fun c_62 => ?_)
  · refine zV_iload_n (pc := 81) (i := 1) dX10_next_81 rfl rfl ?_
    refine zV_i2l (pc := 82) dX10_next_82 (by omega) ?_
    refine zV_ldc2 (pc := 83) dX10_next_83 kiX10_146 ?_
    refine zV_ldc2 (pc := 86) dX10_next_86 kiX10_148 ?_
    refine zV_isp (pc := 89) dX10_next_89 klX10_76 mX10_in rfl ⟨Nat.zero_le _, Nat.zero_le _⟩ (kX10_in (by omega) (by omega) (by omega)) rfl rfl (Nat.le_of_ble_eq_true rfl) ?_
    refine zV_if_eqb (pc := 92) (tgt := 134) dX10_next_92 (by decide) (fun c_92 => ?_) (fun c_92 => ?_)
    · refine zV_iload_n (pc := 134) (i := 1) dX10_next_134 rfl rfl ?_
      refine zV_i2l (pc := 135) dX10_next_135 (by omega) ?_
      refine zV_ldc2 (pc := 136) dX10_next_136 kiX10_150 ?_
      refine zV_ldc2 (pc := 139) dX10_next_139 kiX10_152 ?_
      refine zV_isp (pc := 142) dX10_next_142 klX10_76 mX10_in rfl ⟨Nat.zero_le _, Nat.zero_le _⟩ (kX10_in (by omega) (by omega) (by omega)) rfl rfl (Nat.le_of_ble_eq_true rfl) ?_
      refine zV_if_eqb (pc := 145) (tgt := 252) dX10_next_145 (by decide) (fun c_145 => ?_) (fun c_145 => ?_)
      · refine zV_iload_n (pc := 252) (i := 1) dX10_next_252 rfl rfl ?_
        refine zV_bipush (pc := 253) dX10_next_253 (by decide) ?_
        refine zV_icmp_eq (pc := 255) (tgt := 300) dX10_next_255 (by decide) (by omega) (fun c_255 => ?_) (fun c_255 => ?_)
        · refine zV_aload_n (pc := 300) (i := 0) dX10_next_300 rfl rfl ?_
          refine zV_iconst (pc := 301) dX10_next_301 ?_
          refine zV_put (pc := 302) (j := 22) dX10_next_302 flX10_143 rfl (zOb_of rfl) rfl trivial ?_
          refine zV_aload_n (pc := 305) (i := 0) dX10_next_305 rfl rfl ?_
          refine zV_iload_n (pc := 306) (i := 1) dX10_next_306 rfl rfl ?_
          refine zV_i2l (pc := 307) dX10_next_307 (by omega) ?_
          refine zV_put (pc := 308) (j := 24) dX10_next_308 flX10_154 rfl (zOb_of rfl) rfl trivial ?_
          refine zV_aload_n (pc := 311) (i := 0) dX10_next_311 rfl rfl ?_
          refine zV_dup (pc := 312) dX10_next_312 (by simp) ?_
          refine zV_get (pc := 313) (j := 21) dX10_next_313 flX10_133 (zOb_of rfl) rfl ((zU_j _ _ _ _ (by decide)).trans ((zU_j _ _ _ _ (by decide)).trans ((zU_j _ _ _ _ (by decide)).trans ((zU_j _ _ _ _ (by decide)).trans h2)))) ?_
          refine zV_iconst (pc := 316) dX10_next_316 ?_
          refine zV_iadd (pc := 317) dX10_next_317 ?_
          refine zV_put (pc := 318) (j := 21) dX10_next_318 flX10_133 rfl (zOb_of rfl) rfl trivial ?_
          refine zV_vret (pc := 321) dX10_next_321 trivial ⟨Nat.zero_le _, Nat.zero_le _⟩ ?_
          rw [eA]
          first
            | (have cb : zbp tp z p = -1 := by omega
               have hpe : p = z := by
                 by_cases q : p < z
                 · have := hT.2 p hpz.1 q
                   have e8 : zbp tp z p = tp p := if_pos ⟨hpz.1, q⟩
                   omega
                 · omega
               have e9 : ztk tp z p (-1) = (0, 0, p, p, -1) := by unfold ztk; rw [zit_t cb]
               rw [e9]
               exact ⟨rfl, rfl, ⟨(zU_j _ _ _ _ (by decide)).trans ((zU_j _ _ _ _ (by decide)).trans ((zU_j _ _ _ _ (by decide)).trans ((zU_j _ _ _ _ (by decide)).trans (e26.trans (zb_f (fun q => q rfl)).symm)))), fun q => absurd rfl q, fun _ => ⟨(zU_s _ _ _ _).trans hpe.symm, Or.inl ⟨rfl, (zU_j _ _ _ _ (by decide)).trans (zU_s _ _ _ _)⟩⟩⟩, ((((hf1.up (a := 58) (j := 23) ⟨rfl, by decide, by decide⟩).up (a := 58) (j := 22) ⟨rfl, by decide, by decide⟩).up (a := 58) (j := 22) ⟨rfl, by decide, by decide⟩).up (a := 58) (j := 23) ⟨rfl, by decide, by decide⟩)⟩)
            | (have hsg : 0 ≤ zix2 13 (zbp tp z p) 0 8 := zix2_1 (by omega)
               have e9 : ztk tp z p (-1) = (zbp tp z p, 0, p, p + 1, -1) := by unfold ztk; rw [zit_f (by omega), zit_f (by unfold zlt; omega), zit_f (by unfold zdg; omega), if_pos hsg]
               rw [e9]
               exact ⟨rfl, rfl, ⟨(zU_j _ _ _ _ (by decide)).trans ((zU_j _ _ _ _ (by decide)).trans ((zU_j _ _ _ _ (by decide)).trans ((zU_j _ _ _ _ (by decide)).trans ((zU_j _ _ _ _ (by decide)).trans (e26.trans (zb_f (fun q => q rfl)).symm))))), fun q => absurd rfl q, fun _ => ⟨(zU_j _ _ _ _ (by decide)).trans ((zU_j _ _ _ _ (by decide)).trans ((zU_j _ _ _ _ (by decide)).trans ((zU_j _ _ _ _ (by decide)).trans (zU_s _ _ _ _)))), Or.inr (Or.inr (Or.inr (Or.inr ⟨(zU_j _ _ _ _ (by decide)).trans ((zU_j _ _ _ _ (by decide)).trans (zU_s _ _ _ _)), (zU_j _ _ _ _ (by decide)).trans (zU_s _ _ _ _), zix2_0 hsg, zU_s _ _ _ _⟩)))⟩⟩, (((((hf1.up (a := 58) (j := 23) ⟨rfl, by decide, by decide⟩).up (a := 58) (j := 22) ⟨rfl, by decide, by decide⟩).up (a := 58) (j := 22) ⟨rfl, by decide, by decide⟩).up (a := 58) (j := 24) ⟨rfl, by decide, by decide⟩).up (a := 58) (j := 21) ⟨rfl, by decide, by decide⟩)⟩)
            | (have hsg : ¬ 0 ≤ zix2 13 (zbp tp z p) 0 8 := fun q => by have := zix2_0 q; omega
               have e9 : ztk tp z p (-1) = (1, 0, p, p + 1, -1) := by unfold ztk; rw [zit_f (by omega), zit_f (by unfold zlt; omega), zit_f (by unfold zdg; omega), if_neg hsg]
               rw [e9]
               exact ⟨rfl, rfl, ⟨(zU_j _ _ _ _ (by decide)).trans ((zU_j _ _ _ _ (by decide)).trans (e26.trans (zb_f (fun q => q rfl)).symm)), fun q => absurd rfl q, fun _ => ⟨(zU_j _ _ _ _ (by decide)).trans (zU_s _ _ _ _), Or.inr (Or.inl ⟨rfl, zU_s _ _ _ _⟩)⟩⟩, ((hf1.up (a := 58) (j := 23) ⟨rfl, by decide, by decide⟩).up (a := 58) (j := 22) ⟨rfl, by decide, by decide⟩)⟩)
        · refine zV_iload_n (pc := 258) (i := 1) dX10_next_258 rfl rfl ?_
          refine zV_bipush (pc := 259) dX10_next_259 (by decide) ?_
          refine zV_icmp_eq (pc := 261) (tgt := 300) dX10_next_261 (by decide) (by omega) (fun c_261 => ?_) (fun c_261 => ?_)
          · refine zV_aload_n (pc := 300) (i := 0) dX10_next_300 rfl rfl ?_
            refine zV_iconst (pc := 301) dX10_next_301 ?_
            refine zV_put (pc := 302) (j := 22) dX10_next_302 flX10_143 rfl (zOb_of rfl) rfl trivial ?_
            refine zV_aload_n (pc := 305) (i := 0) dX10_next_305 rfl rfl ?_
            refine zV_iload_n (pc := 306) (i := 1) dX10_next_306 rfl rfl ?_
            refine zV_i2l (pc := 307) dX10_next_307 (by omega) ?_
            refine zV_put (pc := 308) (j := 24) dX10_next_308 flX10_154 rfl (zOb_of rfl) rfl trivial ?_
            refine zV_aload_n (pc := 311) (i := 0) dX10_next_311 rfl rfl ?_
            refine zV_dup (pc := 312) dX10_next_312 (by simp) ?_
            refine zV_get (pc := 313) (j := 21) dX10_next_313 flX10_133 (zOb_of rfl) rfl ((zU_j _ _ _ _ (by decide)).trans ((zU_j _ _ _ _ (by decide)).trans ((zU_j _ _ _ _ (by decide)).trans ((zU_j _ _ _ _ (by decide)).trans h2)))) ?_
            refine zV_iconst (pc := 316) dX10_next_316 ?_
            refine zV_iadd (pc := 317) dX10_next_317 ?_
            refine zV_put (pc := 318) (j := 21) dX10_next_318 flX10_133 rfl (zOb_of rfl) rfl trivial ?_
            refine zV_vret (pc := 321) dX10_next_321 trivial ⟨Nat.zero_le _, Nat.zero_le _⟩ ?_
            rw [eA]
            first
              | (have cb : zbp tp z p = -1 := by omega
                 have hpe : p = z := by
                   by_cases q : p < z
                   · have := hT.2 p hpz.1 q
                     have e8 : zbp tp z p = tp p := if_pos ⟨hpz.1, q⟩
                     omega
                   · omega
                 have e9 : ztk tp z p (-1) = (0, 0, p, p, -1) := by unfold ztk; rw [zit_t cb]
                 rw [e9]
                 exact ⟨rfl, rfl, ⟨(zU_j _ _ _ _ (by decide)).trans ((zU_j _ _ _ _ (by decide)).trans ((zU_j _ _ _ _ (by decide)).trans ((zU_j _ _ _ _ (by decide)).trans (e26.trans (zb_f (fun q => q rfl)).symm)))), fun q => absurd rfl q, fun _ => ⟨(zU_s _ _ _ _).trans hpe.symm, Or.inl ⟨rfl, (zU_j _ _ _ _ (by decide)).trans (zU_s _ _ _ _)⟩⟩⟩, ((((hf1.up (a := 58) (j := 23) ⟨rfl, by decide, by decide⟩).up (a := 58) (j := 22) ⟨rfl, by decide, by decide⟩).up (a := 58) (j := 22) ⟨rfl, by decide, by decide⟩).up (a := 58) (j := 23) ⟨rfl, by decide, by decide⟩)⟩)
              | (have hsg : 0 ≤ zix2 13 (zbp tp z p) 0 8 := zix2_1 (by omega)
                 have e9 : ztk tp z p (-1) = (zbp tp z p, 0, p, p + 1, -1) := by unfold ztk; rw [zit_f (by omega), zit_f (by unfold zlt; omega), zit_f (by unfold zdg; omega), if_pos hsg]
                 rw [e9]
                 exact ⟨rfl, rfl, ⟨(zU_j _ _ _ _ (by decide)).trans ((zU_j _ _ _ _ (by decide)).trans ((zU_j _ _ _ _ (by decide)).trans ((zU_j _ _ _ _ (by decide)).trans ((zU_j _ _ _ _ (by decide)).trans (e26.trans (zb_f (fun q => q rfl)).symm))))), fun q => absurd rfl q, fun _ => ⟨(zU_j _ _ _ _ (by decide)).trans ((zU_j _ _ _ _ (by decide)).trans ((zU_j _ _ _ _ (by decide)).trans ((zU_j _ _ _ _ (by decide)).trans (zU_s _ _ _ _)))), Or.inr (Or.inr (Or.inr (Or.inr ⟨(zU_j _ _ _ _ (by decide)).trans ((zU_j _ _ _ _ (by decide)).trans (zU_s _ _ _ _)), (zU_j _ _ _ _ (by decide)).trans (zU_s _ _ _ _), zix2_0 hsg, zU_s _ _ _ _⟩)))⟩⟩, (((((hf1.up (a := 58) (j := 23) ⟨rfl, by decide, by decide⟩).up (a := 58) (j := 22) ⟨rfl, by decide, by decide⟩).up (a := 58) (j := 22) ⟨rfl, by decide, by decide⟩).up (a := 58) (j := 24) ⟨rfl, by decide, by decide⟩).up (a := 58) (j := 21) ⟨rfl, by decide, by decide⟩)⟩)
              | (have hsg : ¬ 0 ≤ zix2 13 (zbp tp z p) 0 8 := fun q => by have := zix2_0 q; omega
                 have e9 : ztk tp z p (-1) = (1, 0, p, p + 1, -1) := by unfold ztk; rw [zit_f (by omega), zit_f (by unfold zlt; omega), zit_f (by unfold zdg; omega), if_neg hsg]
                 rw [e9]
                 exact ⟨rfl, rfl, ⟨(zU_j _ _ _ _ (by decide)).trans ((zU_j _ _ _ _ (by decide)).trans (e26.trans (zb_f (fun q => q rfl)).symm)), fun q => absurd rfl q, fun _ => ⟨(zU_j _ _ _ _ (by decide)).trans (zU_s _ _ _ _), Or.inr (Or.inl ⟨rfl, zU_s _ _ _ _⟩)⟩⟩, ((hf1.up (a := 58) (j := 23) ⟨rfl, by decide, by decide⟩).up (a := 58) (j := 22) ⟨rfl, by decide, by decide⟩)⟩)
          · refine zV_iload_n (pc := 264) (i := 1) dX10_next_264 rfl rfl ?_
            refine zV_bipush (pc := 265) dX10_next_265 (by decide) ?_
            refine zV_icmp_eq (pc := 267) (tgt := 300) dX10_next_267 (by decide) (by omega) (fun c_267 => ?_) (fun c_267 => ?_)
            · refine zV_aload_n (pc := 300) (i := 0) dX10_next_300 rfl rfl ?_
              refine zV_iconst (pc := 301) dX10_next_301 ?_
              refine zV_put (pc := 302) (j := 22) dX10_next_302 flX10_143 rfl (zOb_of rfl) rfl trivial ?_
              refine zV_aload_n (pc := 305) (i := 0) dX10_next_305 rfl rfl ?_
              refine zV_iload_n (pc := 306) (i := 1) dX10_next_306 rfl rfl ?_
              refine zV_i2l (pc := 307) dX10_next_307 (by omega) ?_
              refine zV_put (pc := 308) (j := 24) dX10_next_308 flX10_154 rfl (zOb_of rfl) rfl trivial ?_
              refine zV_aload_n (pc := 311) (i := 0) dX10_next_311 rfl rfl ?_
              refine zV_dup (pc := 312) dX10_next_312 (by simp) ?_
              refine zV_get (pc := 313) (j := 21) dX10_next_313 flX10_133 (zOb_of rfl) rfl ((zU_j _ _ _ _ (by decide)).trans ((zU_j _ _ _ _ (by decide)).trans ((zU_j _ _ _ _ (by decide)).trans ((zU_j _ _ _ _ (by decide)).trans h2)))) ?_
              refine zV_iconst (pc := 316) dX10_next_316 ?_
              refine zV_iadd (pc := 317) dX10_next_317 ?_
              refine zV_put (pc := 318) (j := 21) dX10_next_318 flX10_133 rfl (zOb_of rfl) rfl trivial ?_
              refine zV_vret (pc := 321) dX10_next_321 trivial ⟨Nat.zero_le _, Nat.zero_le _⟩ ?_
              rw [eA]
              first
                | (have cb : zbp tp z p = -1 := by omega
                   have hpe : p = z := by
                     by_cases q : p < z
                     · have := hT.2 p hpz.1 q
                       have e8 : zbp tp z p = tp p := if_pos ⟨hpz.1, q⟩
                       omega
                     · omega
                   have e9 : ztk tp z p (-1) = (0, 0, p, p, -1) := by unfold ztk; rw [zit_t cb]
                   rw [e9]
                   exact ⟨rfl, rfl, ⟨(zU_j _ _ _ _ (by decide)).trans ((zU_j _ _ _ _ (by decide)).trans ((zU_j _ _ _ _ (by decide)).trans ((zU_j _ _ _ _ (by decide)).trans (e26.trans (zb_f (fun q => q rfl)).symm)))), fun q => absurd rfl q, fun _ => ⟨(zU_s _ _ _ _).trans hpe.symm, Or.inl ⟨rfl, (zU_j _ _ _ _ (by decide)).trans (zU_s _ _ _ _)⟩⟩⟩, ((((hf1.up (a := 58) (j := 23) ⟨rfl, by decide, by decide⟩).up (a := 58) (j := 22) ⟨rfl, by decide, by decide⟩).up (a := 58) (j := 22) ⟨rfl, by decide, by decide⟩).up (a := 58) (j := 23) ⟨rfl, by decide, by decide⟩)⟩)
                | (have hsg : 0 ≤ zix2 13 (zbp tp z p) 0 8 := zix2_1 (by omega)
                   have e9 : ztk tp z p (-1) = (zbp tp z p, 0, p, p + 1, -1) := by unfold ztk; rw [zit_f (by omega), zit_f (by unfold zlt; omega), zit_f (by unfold zdg; omega), if_pos hsg]
                   rw [e9]
                   exact ⟨rfl, rfl, ⟨(zU_j _ _ _ _ (by decide)).trans ((zU_j _ _ _ _ (by decide)).trans ((zU_j _ _ _ _ (by decide)).trans ((zU_j _ _ _ _ (by decide)).trans ((zU_j _ _ _ _ (by decide)).trans (e26.trans (zb_f (fun q => q rfl)).symm))))), fun q => absurd rfl q, fun _ => ⟨(zU_j _ _ _ _ (by decide)).trans ((zU_j _ _ _ _ (by decide)).trans ((zU_j _ _ _ _ (by decide)).trans ((zU_j _ _ _ _ (by decide)).trans (zU_s _ _ _ _)))), Or.inr (Or.inr (Or.inr (Or.inr ⟨(zU_j _ _ _ _ (by decide)).trans ((zU_j _ _ _ _ (by decide)).trans (zU_s _ _ _ _)), (zU_j _ _ _ _ (by decide)).trans (zU_s _ _ _ _), zix2_0 hsg, zU_s _ _ _ _⟩)))⟩⟩, (((((hf1.up (a := 58) (j := 23) ⟨rfl, by decide, by decide⟩).up (a := 58) (j := 22) ⟨rfl, by decide, by decide⟩).up (a := 58) (j := 22) ⟨rfl, by decide, by decide⟩).up (a := 58) (j := 24) ⟨rfl, by decide, by decide⟩).up (a := 58) (j := 21) ⟨rfl, by decide, by decide⟩)⟩)
                | (have hsg : ¬ 0 ≤ zix2 13 (zbp tp z p) 0 8 := fun q => by have := zix2_0 q; omega
                   have e9 : ztk tp z p (-1) = (1, 0, p, p + 1, -1) := by unfold ztk; rw [zit_f (by omega), zit_f (by unfold zlt; omega), zit_f (by unfold zdg; omega), if_neg hsg]
                   rw [e9]
                   exact ⟨rfl, rfl, ⟨(zU_j _ _ _ _ (by decide)).trans ((zU_j _ _ _ _ (by decide)).trans (e26.trans (zb_f (fun q => q rfl)).symm)), fun q => absurd rfl q, fun _ => ⟨(zU_j _ _ _ _ (by decide)).trans (zU_s _ _ _ _), Or.inr (Or.inl ⟨rfl, zU_s _ _ _ _⟩)⟩⟩, ((hf1.up (a := 58) (j := 23) ⟨rfl, by decide, by decide⟩).up (a := 58) (j := 22) ⟨rfl, by decide, by decide⟩)⟩)
            · refine zV_iload_n (pc := 270) (i := 1) dX10_next_270 rfl rfl ?_
              refine zV_bipush (pc := 271) dX10_next_271 (by decide) ?_
              refine zV_icmp_eq (pc := 273) (tgt := 300) dX10_next_273 (by decide) (by omega) (fun c_273 => ?_) (fun c_273 => ?_)
              · refine zV_aload_n (pc := 300) (i := 0) dX10_next_300 rfl rfl ?_
                refine zV_iconst (pc := 301) dX10_next_301 ?_
                refine zV_put (pc := 302) (j := 22) dX10_next_302 flX10_143 rfl (zOb_of rfl) rfl trivial ?_
                refine zV_aload_n (pc := 305) (i := 0) dX10_next_305 rfl rfl ?_
                refine zV_iload_n (pc := 306) (i := 1) dX10_next_306 rfl rfl ?_
                refine zV_i2l (pc := 307) dX10_next_307 (by omega) ?_
                refine zV_put (pc := 308) (j := 24) dX10_next_308 flX10_154 rfl (zOb_of rfl) rfl trivial ?_
                refine zV_aload_n (pc := 311) (i := 0) dX10_next_311 rfl rfl ?_
                refine zV_dup (pc := 312) dX10_next_312 (by simp) ?_
                refine zV_get (pc := 313) (j := 21) dX10_next_313 flX10_133 (zOb_of rfl) rfl ((zU_j _ _ _ _ (by decide)).trans ((zU_j _ _ _ _ (by decide)).trans ((zU_j _ _ _ _ (by decide)).trans ((zU_j _ _ _ _ (by decide)).trans h2)))) ?_
                refine zV_iconst (pc := 316) dX10_next_316 ?_
                refine zV_iadd (pc := 317) dX10_next_317 ?_
                refine zV_put (pc := 318) (j := 21) dX10_next_318 flX10_133 rfl (zOb_of rfl) rfl trivial ?_
                refine zV_vret (pc := 321) dX10_next_321 trivial ⟨Nat.zero_le _, Nat.zero_le _⟩ ?_
                rw [eA]
                first
                  | (have cb : zbp tp z p = -1 := by omega
                     have hpe : p = z := by
                       by_cases q : p < z
                       · have := hT.2 p hpz.1 q
                         have e8 : zbp tp z p = tp p := if_pos ⟨hpz.1, q⟩
                         omega
                       · omega
                     have e9 : ztk tp z p (-1) = (0, 0, p, p, -1) := by unfold ztk; rw [zit_t cb]
                     rw [e9]
                     exact ⟨rfl, rfl, ⟨(zU_j _ _ _ _ (by decide)).trans ((zU_j _ _ _ _ (by decide)).trans ((zU_j _ _ _ _ (by decide)).trans ((zU_j _ _ _ _ (by decide)).trans (e26.trans (zb_f (fun q => q rfl)).symm)))), fun q => absurd rfl q, fun _ => ⟨(zU_s _ _ _ _).trans hpe.symm, Or.inl ⟨rfl, (zU_j _ _ _ _ (by decide)).trans (zU_s _ _ _ _)⟩⟩⟩, ((((hf1.up (a := 58) (j := 23) ⟨rfl, by decide, by decide⟩).up (a := 58) (j := 22) ⟨rfl, by decide, by decide⟩).up (a := 58) (j := 22) ⟨rfl, by decide, by decide⟩).up (a := 58) (j := 23) ⟨rfl, by decide, by decide⟩)⟩)
                  | (have hsg : 0 ≤ zix2 13 (zbp tp z p) 0 8 := zix2_1 (by omega)
                     have e9 : ztk tp z p (-1) = (zbp tp z p, 0, p, p + 1, -1) := by unfold ztk; rw [zit_f (by omega), zit_f (by unfold zlt; omega), zit_f (by unfold zdg; omega), if_pos hsg]
                     rw [e9]
                     exact ⟨rfl, rfl, ⟨(zU_j _ _ _ _ (by decide)).trans ((zU_j _ _ _ _ (by decide)).trans ((zU_j _ _ _ _ (by decide)).trans ((zU_j _ _ _ _ (by decide)).trans ((zU_j _ _ _ _ (by decide)).trans (e26.trans (zb_f (fun q => q rfl)).symm))))), fun q => absurd rfl q, fun _ => ⟨(zU_j _ _ _ _ (by decide)).trans ((zU_j _ _ _ _ (by decide)).trans ((zU_j _ _ _ _ (by decide)).trans ((zU_j _ _ _ _ (by decide)).trans (zU_s _ _ _ _)))), Or.inr (Or.inr (Or.inr (Or.inr ⟨(zU_j _ _ _ _ (by decide)).trans ((zU_j _ _ _ _ (by decide)).trans (zU_s _ _ _ _)), (zU_j _ _ _ _ (by decide)).trans (zU_s _ _ _ _), zix2_0 hsg, zU_s _ _ _ _⟩)))⟩⟩, (((((hf1.up (a := 58) (j := 23) ⟨rfl, by decide, by decide⟩).up (a := 58) (j := 22) ⟨rfl, by decide, by decide⟩).up (a := 58) (j := 22) ⟨rfl, by decide, by decide⟩).up (a := 58) (j := 24) ⟨rfl, by decide, by decide⟩).up (a := 58) (j := 21) ⟨rfl, by decide, by decide⟩)⟩)
                  | (have hsg : ¬ 0 ≤ zix2 13 (zbp tp z p) 0 8 := fun q => by have := zix2_0 q; omega
                     have e9 : ztk tp z p (-1) = (1, 0, p, p + 1, -1) := by unfold ztk; rw [zit_f (by omega), zit_f (by unfold zlt; omega), zit_f (by unfold zdg; omega), if_neg hsg]
                     rw [e9]
                     exact ⟨rfl, rfl, ⟨(zU_j _ _ _ _ (by decide)).trans ((zU_j _ _ _ _ (by decide)).trans (e26.trans (zb_f (fun q => q rfl)).symm)), fun q => absurd rfl q, fun _ => ⟨(zU_j _ _ _ _ (by decide)).trans (zU_s _ _ _ _), Or.inr (Or.inl ⟨rfl, zU_s _ _ _ _⟩)⟩⟩, ((hf1.up (a := 58) (j := 23) ⟨rfl, by decide, by decide⟩).up (a := 58) (j := 22) ⟨rfl, by decide, by decide⟩)⟩)
              · refine zV_iload_n (pc := 276) (i := 1) dX10_next_276 rfl rfl ?_
                refine zV_bipush (pc := 277) dX10_next_277 (by decide) ?_
                refine zV_icmp_eq (pc := 279) (tgt := 300) dX10_next_279 (by decide) (by omega) (fun c_279 => ?_) (fun c_279 => ?_)
                · refine zV_aload_n (pc := 300) (i := 0) dX10_next_300 rfl rfl ?_
                  refine zV_iconst (pc := 301) dX10_next_301 ?_
                  refine zV_put (pc := 302) (j := 22) dX10_next_302 flX10_143 rfl (zOb_of rfl) rfl trivial ?_
                  refine zV_aload_n (pc := 305) (i := 0) dX10_next_305 rfl rfl ?_
                  refine zV_iload_n (pc := 306) (i := 1) dX10_next_306 rfl rfl ?_
                  refine zV_i2l (pc := 307) dX10_next_307 (by omega) ?_
                  refine zV_put (pc := 308) (j := 24) dX10_next_308 flX10_154 rfl (zOb_of rfl) rfl trivial ?_
                  refine zV_aload_n (pc := 311) (i := 0) dX10_next_311 rfl rfl ?_
                  refine zV_dup (pc := 312) dX10_next_312 (by simp) ?_
                  refine zV_get (pc := 313) (j := 21) dX10_next_313 flX10_133 (zOb_of rfl) rfl ((zU_j _ _ _ _ (by decide)).trans ((zU_j _ _ _ _ (by decide)).trans ((zU_j _ _ _ _ (by decide)).trans ((zU_j _ _ _ _ (by decide)).trans h2)))) ?_
                  refine zV_iconst (pc := 316) dX10_next_316 ?_
                  refine zV_iadd (pc := 317) dX10_next_317 ?_
                  refine zV_put (pc := 318) (j := 21) dX10_next_318 flX10_133 rfl (zOb_of rfl) rfl trivial ?_
                  refine zV_vret (pc := 321) dX10_next_321 trivial ⟨Nat.zero_le _, Nat.zero_le _⟩ ?_
                  rw [eA]
                  first
                    | (have cb : zbp tp z p = -1 := by omega
                       have hpe : p = z := by
                         by_cases q : p < z
                         · have := hT.2 p hpz.1 q
                           have e8 : zbp tp z p = tp p := if_pos ⟨hpz.1, q⟩
                           omega
                         · omega
                       have e9 : ztk tp z p (-1) = (0, 0, p, p, -1) := by unfold ztk; rw [zit_t cb]
                       rw [e9]
                       exact ⟨rfl, rfl, ⟨(zU_j _ _ _ _ (by decide)).trans ((zU_j _ _ _ _ (by decide)).trans ((zU_j _ _ _ _ (by decide)).trans ((zU_j _ _ _ _ (by decide)).trans (e26.trans (zb_f (fun q => q rfl)).symm)))), fun q => absurd rfl q, fun _ => ⟨(zU_s _ _ _ _).trans hpe.symm, Or.inl ⟨rfl, (zU_j _ _ _ _ (by decide)).trans (zU_s _ _ _ _)⟩⟩⟩, ((((hf1.up (a := 58) (j := 23) ⟨rfl, by decide, by decide⟩).up (a := 58) (j := 22) ⟨rfl, by decide, by decide⟩).up (a := 58) (j := 22) ⟨rfl, by decide, by decide⟩).up (a := 58) (j := 23) ⟨rfl, by decide, by decide⟩)⟩)
                    | (have hsg : 0 ≤ zix2 13 (zbp tp z p) 0 8 := zix2_1 (by omega)
                       have e9 : ztk tp z p (-1) = (zbp tp z p, 0, p, p + 1, -1) := by unfold ztk; rw [zit_f (by omega), zit_f (by unfold zlt; omega), zit_f (by unfold zdg; omega), if_pos hsg]
                       rw [e9]
                       exact ⟨rfl, rfl, ⟨(zU_j _ _ _ _ (by decide)).trans ((zU_j _ _ _ _ (by decide)).trans ((zU_j _ _ _ _ (by decide)).trans ((zU_j _ _ _ _ (by decide)).trans ((zU_j _ _ _ _ (by decide)).trans (e26.trans (zb_f (fun q => q rfl)).symm))))), fun q => absurd rfl q, fun _ => ⟨(zU_j _ _ _ _ (by decide)).trans ((zU_j _ _ _ _ (by decide)).trans ((zU_j _ _ _ _ (by decide)).trans ((zU_j _ _ _ _ (by decide)).trans (zU_s _ _ _ _)))), Or.inr (Or.inr (Or.inr (Or.inr ⟨(zU_j _ _ _ _ (by decide)).trans ((zU_j _ _ _ _ (by decide)).trans (zU_s _ _ _ _)), (zU_j _ _ _ _ (by decide)).trans (zU_s _ _ _ _), zix2_0 hsg, zU_s _ _ _ _⟩)))⟩⟩, (((((hf1.up (a := 58) (j := 23) ⟨rfl, by decide, by decide⟩).up (a := 58) (j := 22) ⟨rfl, by decide, by decide⟩).up (a := 58) (j := 22) ⟨rfl, by decide, by decide⟩).up (a := 58) (j := 24) ⟨rfl, by decide, by decide⟩).up (a := 58) (j := 21) ⟨rfl, by decide, by decide⟩)⟩)
                    | (have hsg : ¬ 0 ≤ zix2 13 (zbp tp z p) 0 8 := fun q => by have := zix2_0 q; omega
                       have e9 : ztk tp z p (-1) = (1, 0, p, p + 1, -1) := by unfold ztk; rw [zit_f (by omega), zit_f (by unfold zlt; omega), zit_f (by unfold zdg; omega), if_neg hsg]
                       rw [e9]
                       exact ⟨rfl, rfl, ⟨(zU_j _ _ _ _ (by decide)).trans ((zU_j _ _ _ _ (by decide)).trans (e26.trans (zb_f (fun q => q rfl)).symm)), fun q => absurd rfl q, fun _ => ⟨(zU_j _ _ _ _ (by decide)).trans (zU_s _ _ _ _), Or.inr (Or.inl ⟨rfl, zU_s _ _ _ _⟩)⟩⟩, ((hf1.up (a := 58) (j := 23) ⟨rfl, by decide, by decide⟩).up (a := 58) (j := 22) ⟨rfl, by decide, by decide⟩)⟩)
                · refine zV_iload_n (pc := 282) (i := 1) dX10_next_282 rfl rfl ?_
                  refine zV_bipush (pc := 283) dX10_next_283 (by decide) ?_
                  refine zV_icmp_eq (pc := 285) (tgt := 300) dX10_next_285 (by decide) (by omega) (fun c_285 => ?_) (fun c_285 => ?_)
                  · refine zV_aload_n (pc := 300) (i := 0) dX10_next_300 rfl rfl ?_
                    refine zV_iconst (pc := 301) dX10_next_301 ?_
                    refine zV_put (pc := 302) (j := 22) dX10_next_302 flX10_143 rfl (zOb_of rfl) rfl trivial ?_
                    refine zV_aload_n (pc := 305) (i := 0) dX10_next_305 rfl rfl ?_
                    refine zV_iload_n (pc := 306) (i := 1) dX10_next_306 rfl rfl ?_
                    refine zV_i2l (pc := 307) dX10_next_307 (by omega) ?_
                    refine zV_put (pc := 308) (j := 24) dX10_next_308 flX10_154 rfl (zOb_of rfl) rfl trivial ?_
                    refine zV_aload_n (pc := 311) (i := 0) dX10_next_311 rfl rfl ?_
                    refine zV_dup (pc := 312) dX10_next_312 (by simp) ?_
                    refine zV_get (pc := 313) (j := 21) dX10_next_313 flX10_133 (zOb_of rfl) rfl ((zU_j _ _ _ _ (by decide)).trans ((zU_j _ _ _ _ (by decide)).trans ((zU_j _ _ _ _ (by decide)).trans ((zU_j _ _ _ _ (by decide)).trans h2)))) ?_
                    refine zV_iconst (pc := 316) dX10_next_316 ?_
                    refine zV_iadd (pc := 317) dX10_next_317 ?_
                    refine zV_put (pc := 318) (j := 21) dX10_next_318 flX10_133 rfl (zOb_of rfl) rfl trivial ?_
                    refine zV_vret (pc := 321) dX10_next_321 trivial ⟨Nat.zero_le _, Nat.zero_le _⟩ ?_
                    rw [eA]
                    first
                      | (have cb : zbp tp z p = -1 := by omega
                         have hpe : p = z := by
                           by_cases q : p < z
                           · have := hT.2 p hpz.1 q
                             have e8 : zbp tp z p = tp p := if_pos ⟨hpz.1, q⟩
                             omega
                           · omega
                         have e9 : ztk tp z p (-1) = (0, 0, p, p, -1) := by unfold ztk; rw [zit_t cb]
                         rw [e9]
                         exact ⟨rfl, rfl, ⟨(zU_j _ _ _ _ (by decide)).trans ((zU_j _ _ _ _ (by decide)).trans ((zU_j _ _ _ _ (by decide)).trans ((zU_j _ _ _ _ (by decide)).trans (e26.trans (zb_f (fun q => q rfl)).symm)))), fun q => absurd rfl q, fun _ => ⟨(zU_s _ _ _ _).trans hpe.symm, Or.inl ⟨rfl, (zU_j _ _ _ _ (by decide)).trans (zU_s _ _ _ _)⟩⟩⟩, ((((hf1.up (a := 58) (j := 23) ⟨rfl, by decide, by decide⟩).up (a := 58) (j := 22) ⟨rfl, by decide, by decide⟩).up (a := 58) (j := 22) ⟨rfl, by decide, by decide⟩).up (a := 58) (j := 23) ⟨rfl, by decide, by decide⟩)⟩)
                      | (have hsg : 0 ≤ zix2 13 (zbp tp z p) 0 8 := zix2_1 (by omega)
                         have e9 : ztk tp z p (-1) = (zbp tp z p, 0, p, p + 1, -1) := by unfold ztk; rw [zit_f (by omega), zit_f (by unfold zlt; omega), zit_f (by unfold zdg; omega), if_pos hsg]
                         rw [e9]
                         exact ⟨rfl, rfl, ⟨(zU_j _ _ _ _ (by decide)).trans ((zU_j _ _ _ _ (by decide)).trans ((zU_j _ _ _ _ (by decide)).trans ((zU_j _ _ _ _ (by decide)).trans ((zU_j _ _ _ _ (by decide)).trans (e26.trans (zb_f (fun q => q rfl)).symm))))), fun q => absurd rfl q, fun _ => ⟨(zU_j _ _ _ _ (by decide)).trans ((zU_j _ _ _ _ (by decide)).trans ((zU_j _ _ _ _ (by decide)).trans ((zU_j _ _ _ _ (by decide)).trans (zU_s _ _ _ _)))), Or.inr (Or.inr (Or.inr (Or.inr ⟨(zU_j _ _ _ _ (by decide)).trans ((zU_j _ _ _ _ (by decide)).trans (zU_s _ _ _ _)), (zU_j _ _ _ _ (by decide)).trans (zU_s _ _ _ _), zix2_0 hsg, zU_s _ _ _ _⟩)))⟩⟩, (((((hf1.up (a := 58) (j := 23) ⟨rfl, by decide, by decide⟩).up (a := 58) (j := 22) ⟨rfl, by decide, by decide⟩).up (a := 58) (j := 22) ⟨rfl, by decide, by decide⟩).up (a := 58) (j := 24) ⟨rfl, by decide, by decide⟩).up (a := 58) (j := 21) ⟨rfl, by decide, by decide⟩)⟩)
                      | (have hsg : ¬ 0 ≤ zix2 13 (zbp tp z p) 0 8 := fun q => by have := zix2_0 q; omega
                         have e9 : ztk tp z p (-1) = (1, 0, p, p + 1, -1) := by unfold ztk; rw [zit_f (by omega), zit_f (by unfold zlt; omega), zit_f (by unfold zdg; omega), if_neg hsg]
                         rw [e9]
                         exact ⟨rfl, rfl, ⟨(zU_j _ _ _ _ (by decide)).trans ((zU_j _ _ _ _ (by decide)).trans (e26.trans (zb_f (fun q => q rfl)).symm)), fun q => absurd rfl q, fun _ => ⟨(zU_j _ _ _ _ (by decide)).trans (zU_s _ _ _ _), Or.inr (Or.inl ⟨rfl, zU_s _ _ _ _⟩)⟩⟩, ((hf1.up (a := 58) (j := 23) ⟨rfl, by decide, by decide⟩).up (a := 58) (j := 22) ⟨rfl, by decide, by decide⟩)⟩)
                  · refine zV_iload_n (pc := 288) (i := 1) dX10_next_288 rfl rfl ?_
                    refine zV_bipush (pc := 289) dX10_next_289 (by decide) ?_
                    refine zV_icmp_eq (pc := 291) (tgt := 300) dX10_next_291 (by decide) (by omega) (fun c_291 => ?_) (fun c_291 => ?_)
                    · refine zV_aload_n (pc := 300) (i := 0) dX10_next_300 rfl rfl ?_
                      refine zV_iconst (pc := 301) dX10_next_301 ?_
                      refine zV_put (pc := 302) (j := 22) dX10_next_302 flX10_143 rfl (zOb_of rfl) rfl trivial ?_
                      refine zV_aload_n (pc := 305) (i := 0) dX10_next_305 rfl rfl ?_
                      refine zV_iload_n (pc := 306) (i := 1) dX10_next_306 rfl rfl ?_
                      refine zV_i2l (pc := 307) dX10_next_307 (by omega) ?_
                      refine zV_put (pc := 308) (j := 24) dX10_next_308 flX10_154 rfl (zOb_of rfl) rfl trivial ?_
                      refine zV_aload_n (pc := 311) (i := 0) dX10_next_311 rfl rfl ?_
                      refine zV_dup (pc := 312) dX10_next_312 (by simp) ?_
                      refine zV_get (pc := 313) (j := 21) dX10_next_313 flX10_133 (zOb_of rfl) rfl ((zU_j _ _ _ _ (by decide)).trans ((zU_j _ _ _ _ (by decide)).trans ((zU_j _ _ _ _ (by decide)).trans ((zU_j _ _ _ _ (by decide)).trans h2)))) ?_
                      refine zV_iconst (pc := 316) dX10_next_316 ?_
                      refine zV_iadd (pc := 317) dX10_next_317 ?_
                      refine zV_put (pc := 318) (j := 21) dX10_next_318 flX10_133 rfl (zOb_of rfl) rfl trivial ?_
                      refine zV_vret (pc := 321) dX10_next_321 trivial ⟨Nat.zero_le _, Nat.zero_le _⟩ ?_
                      rw [eA]
                      first
                        | (have cb : zbp tp z p = -1 := by omega
                           have hpe : p = z := by
                             by_cases q : p < z
                             · have := hT.2 p hpz.1 q
                               have e8 : zbp tp z p = tp p := if_pos ⟨hpz.1, q⟩
                               omega
                             · omega
                           have e9 : ztk tp z p (-1) = (0, 0, p, p, -1) := by unfold ztk; rw [zit_t cb]
                           rw [e9]
                           exact ⟨rfl, rfl, ⟨(zU_j _ _ _ _ (by decide)).trans ((zU_j _ _ _ _ (by decide)).trans ((zU_j _ _ _ _ (by decide)).trans ((zU_j _ _ _ _ (by decide)).trans (e26.trans (zb_f (fun q => q rfl)).symm)))), fun q => absurd rfl q, fun _ => ⟨(zU_s _ _ _ _).trans hpe.symm, Or.inl ⟨rfl, (zU_j _ _ _ _ (by decide)).trans (zU_s _ _ _ _)⟩⟩⟩, ((((hf1.up (a := 58) (j := 23) ⟨rfl, by decide, by decide⟩).up (a := 58) (j := 22) ⟨rfl, by decide, by decide⟩).up (a := 58) (j := 22) ⟨rfl, by decide, by decide⟩).up (a := 58) (j := 23) ⟨rfl, by decide, by decide⟩)⟩)
                        | (have hsg : 0 ≤ zix2 13 (zbp tp z p) 0 8 := zix2_1 (by omega)
                           have e9 : ztk tp z p (-1) = (zbp tp z p, 0, p, p + 1, -1) := by unfold ztk; rw [zit_f (by omega), zit_f (by unfold zlt; omega), zit_f (by unfold zdg; omega), if_pos hsg]
                           rw [e9]
                           exact ⟨rfl, rfl, ⟨(zU_j _ _ _ _ (by decide)).trans ((zU_j _ _ _ _ (by decide)).trans ((zU_j _ _ _ _ (by decide)).trans ((zU_j _ _ _ _ (by decide)).trans ((zU_j _ _ _ _ (by decide)).trans (e26.trans (zb_f (fun q => q rfl)).symm))))), fun q => absurd rfl q, fun _ => ⟨(zU_j _ _ _ _ (by decide)).trans ((zU_j _ _ _ _ (by decide)).trans ((zU_j _ _ _ _ (by decide)).trans ((zU_j _ _ _ _ (by decide)).trans (zU_s _ _ _ _)))), Or.inr (Or.inr (Or.inr (Or.inr ⟨(zU_j _ _ _ _ (by decide)).trans ((zU_j _ _ _ _ (by decide)).trans (zU_s _ _ _ _)), (zU_j _ _ _ _ (by decide)).trans (zU_s _ _ _ _), zix2_0 hsg, zU_s _ _ _ _⟩)))⟩⟩, (((((hf1.up (a := 58) (j := 23) ⟨rfl, by decide, by decide⟩).up (a := 58) (j := 22) ⟨rfl, by decide, by decide⟩).up (a := 58) (j := 22) ⟨rfl, by decide, by decide⟩).up (a := 58) (j := 24) ⟨rfl, by decide, by decide⟩).up (a := 58) (j := 21) ⟨rfl, by decide, by decide⟩)⟩)
                        | (have hsg : ¬ 0 ≤ zix2 13 (zbp tp z p) 0 8 := fun q => by have := zix2_0 q; omega
                           have e9 : ztk tp z p (-1) = (1, 0, p, p + 1, -1) := by unfold ztk; rw [zit_f (by omega), zit_f (by unfold zlt; omega), zit_f (by unfold zdg; omega), if_neg hsg]
                           rw [e9]
                           exact ⟨rfl, rfl, ⟨(zU_j _ _ _ _ (by decide)).trans ((zU_j _ _ _ _ (by decide)).trans (e26.trans (zb_f (fun q => q rfl)).symm)), fun q => absurd rfl q, fun _ => ⟨(zU_j _ _ _ _ (by decide)).trans (zU_s _ _ _ _), Or.inr (Or.inl ⟨rfl, zU_s _ _ _ _⟩)⟩⟩, ((hf1.up (a := 58) (j := 23) ⟨rfl, by decide, by decide⟩).up (a := 58) (j := 22) ⟨rfl, by decide, by decide⟩)⟩)
                    · refine zV_iload_n (pc := 294) (i := 1) dX10_next_294 rfl rfl ?_
                      refine zV_bipush (pc := 295) dX10_next_295 (by decide) ?_
                      refine zV_icmp_ne (pc := 297) (tgt := 321) dX10_next_297 (by decide) (by omega) (fun c_297 => ?_) (fun c_297 => ?_)
                      · refine zV_vret (pc := 321) dX10_next_321 trivial ⟨Nat.zero_le _, Nat.zero_le _⟩ ?_
                        rw [eA]
                        first
                          | (have cb : zbp tp z p = -1 := by omega
                             have hpe : p = z := by
                               by_cases q : p < z
                               · have := hT.2 p hpz.1 q
                                 have e8 : zbp tp z p = tp p := if_pos ⟨hpz.1, q⟩
                                 omega
                               · omega
                             have e9 : ztk tp z p (-1) = (0, 0, p, p, -1) := by unfold ztk; rw [zit_t cb]
                             rw [e9]
                             exact ⟨rfl, rfl, ⟨(zU_j _ _ _ _ (by decide)).trans ((zU_j _ _ _ _ (by decide)).trans ((zU_j _ _ _ _ (by decide)).trans ((zU_j _ _ _ _ (by decide)).trans (e26.trans (zb_f (fun q => q rfl)).symm)))), fun q => absurd rfl q, fun _ => ⟨(zU_s _ _ _ _).trans hpe.symm, Or.inl ⟨rfl, (zU_j _ _ _ _ (by decide)).trans (zU_s _ _ _ _)⟩⟩⟩, ((((hf1.up (a := 58) (j := 23) ⟨rfl, by decide, by decide⟩).up (a := 58) (j := 22) ⟨rfl, by decide, by decide⟩).up (a := 58) (j := 22) ⟨rfl, by decide, by decide⟩).up (a := 58) (j := 23) ⟨rfl, by decide, by decide⟩)⟩)
                          | (have hsg : 0 ≤ zix2 13 (zbp tp z p) 0 8 := zix2_1 (by omega)
                             have e9 : ztk tp z p (-1) = (zbp tp z p, 0, p, p + 1, -1) := by unfold ztk; rw [zit_f (by omega), zit_f (by unfold zlt; omega), zit_f (by unfold zdg; omega), if_pos hsg]
                             rw [e9]
                             exact ⟨rfl, rfl, ⟨(zU_j _ _ _ _ (by decide)).trans ((zU_j _ _ _ _ (by decide)).trans ((zU_j _ _ _ _ (by decide)).trans ((zU_j _ _ _ _ (by decide)).trans ((zU_j _ _ _ _ (by decide)).trans (e26.trans (zb_f (fun q => q rfl)).symm))))), fun q => absurd rfl q, fun _ => ⟨(zU_j _ _ _ _ (by decide)).trans ((zU_j _ _ _ _ (by decide)).trans ((zU_j _ _ _ _ (by decide)).trans ((zU_j _ _ _ _ (by decide)).trans (zU_s _ _ _ _)))), Or.inr (Or.inr (Or.inr (Or.inr ⟨(zU_j _ _ _ _ (by decide)).trans ((zU_j _ _ _ _ (by decide)).trans (zU_s _ _ _ _)), (zU_j _ _ _ _ (by decide)).trans (zU_s _ _ _ _), zix2_0 hsg, zU_s _ _ _ _⟩)))⟩⟩, (((((hf1.up (a := 58) (j := 23) ⟨rfl, by decide, by decide⟩).up (a := 58) (j := 22) ⟨rfl, by decide, by decide⟩).up (a := 58) (j := 22) ⟨rfl, by decide, by decide⟩).up (a := 58) (j := 24) ⟨rfl, by decide, by decide⟩).up (a := 58) (j := 21) ⟨rfl, by decide, by decide⟩)⟩)
                          | (have hsg : ¬ 0 ≤ zix2 13 (zbp tp z p) 0 8 := fun q => by have := zix2_0 q; omega
                             have e9 : ztk tp z p (-1) = (1, 0, p, p + 1, -1) := by unfold ztk; rw [zit_f (by omega), zit_f (by unfold zlt; omega), zit_f (by unfold zdg; omega), if_neg hsg]
                             rw [e9]
                             exact ⟨rfl, rfl, ⟨(zU_j _ _ _ _ (by decide)).trans ((zU_j _ _ _ _ (by decide)).trans (e26.trans (zb_f (fun q => q rfl)).symm)), fun q => absurd rfl q, fun _ => ⟨(zU_j _ _ _ _ (by decide)).trans (zU_s _ _ _ _), Or.inr (Or.inl ⟨rfl, zU_s _ _ _ _⟩)⟩⟩, ((hf1.up (a := 58) (j := 23) ⟨rfl, by decide, by decide⟩).up (a := 58) (j := 22) ⟨rfl, by decide, by decide⟩)⟩)
                      · refine zV_aload_n (pc := 300) (i := 0) dX10_next_300 rfl rfl ?_
                        refine zV_iconst (pc := 301) dX10_next_301 ?_
                        refine zV_put (pc := 302) (j := 22) dX10_next_302 flX10_143 rfl (zOb_of rfl) rfl trivial ?_
                        refine zV_aload_n (pc := 305) (i := 0) dX10_next_305 rfl rfl ?_
                        refine zV_iload_n (pc := 306) (i := 1) dX10_next_306 rfl rfl ?_
                        refine zV_i2l (pc := 307) dX10_next_307 (by omega) ?_
                        refine zV_put (pc := 308) (j := 24) dX10_next_308 flX10_154 rfl (zOb_of rfl) rfl trivial ?_
                        refine zV_aload_n (pc := 311) (i := 0) dX10_next_311 rfl rfl ?_
                        refine zV_dup (pc := 312) dX10_next_312 (by simp) ?_
                        refine zV_get (pc := 313) (j := 21) dX10_next_313 flX10_133 (zOb_of rfl) rfl ((zU_j _ _ _ _ (by decide)).trans ((zU_j _ _ _ _ (by decide)).trans ((zU_j _ _ _ _ (by decide)).trans ((zU_j _ _ _ _ (by decide)).trans h2)))) ?_
                        refine zV_iconst (pc := 316) dX10_next_316 ?_
                        refine zV_iadd (pc := 317) dX10_next_317 ?_
                        refine zV_put (pc := 318) (j := 21) dX10_next_318 flX10_133 rfl (zOb_of rfl) rfl trivial ?_
                        refine zV_vret (pc := 321) dX10_next_321 trivial ⟨Nat.zero_le _, Nat.zero_le _⟩ ?_
                        rw [eA]
                        first
                          | (have cb : zbp tp z p = -1 := by omega
                             have hpe : p = z := by
                               by_cases q : p < z
                               · have := hT.2 p hpz.1 q
                                 have e8 : zbp tp z p = tp p := if_pos ⟨hpz.1, q⟩
                                 omega
                               · omega
                             have e9 : ztk tp z p (-1) = (0, 0, p, p, -1) := by unfold ztk; rw [zit_t cb]
                             rw [e9]
                             exact ⟨rfl, rfl, ⟨(zU_j _ _ _ _ (by decide)).trans ((zU_j _ _ _ _ (by decide)).trans ((zU_j _ _ _ _ (by decide)).trans ((zU_j _ _ _ _ (by decide)).trans (e26.trans (zb_f (fun q => q rfl)).symm)))), fun q => absurd rfl q, fun _ => ⟨(zU_s _ _ _ _).trans hpe.symm, Or.inl ⟨rfl, (zU_j _ _ _ _ (by decide)).trans (zU_s _ _ _ _)⟩⟩⟩, ((((hf1.up (a := 58) (j := 23) ⟨rfl, by decide, by decide⟩).up (a := 58) (j := 22) ⟨rfl, by decide, by decide⟩).up (a := 58) (j := 22) ⟨rfl, by decide, by decide⟩).up (a := 58) (j := 23) ⟨rfl, by decide, by decide⟩)⟩)
                          | (have hsg : 0 ≤ zix2 13 (zbp tp z p) 0 8 := zix2_1 (by omega)
                             have e9 : ztk tp z p (-1) = (zbp tp z p, 0, p, p + 1, -1) := by unfold ztk; rw [zit_f (by omega), zit_f (by unfold zlt; omega), zit_f (by unfold zdg; omega), if_pos hsg]
                             rw [e9]
                             exact ⟨rfl, rfl, ⟨(zU_j _ _ _ _ (by decide)).trans ((zU_j _ _ _ _ (by decide)).trans ((zU_j _ _ _ _ (by decide)).trans ((zU_j _ _ _ _ (by decide)).trans ((zU_j _ _ _ _ (by decide)).trans (e26.trans (zb_f (fun q => q rfl)).symm))))), fun q => absurd rfl q, fun _ => ⟨(zU_j _ _ _ _ (by decide)).trans ((zU_j _ _ _ _ (by decide)).trans ((zU_j _ _ _ _ (by decide)).trans ((zU_j _ _ _ _ (by decide)).trans (zU_s _ _ _ _)))), Or.inr (Or.inr (Or.inr (Or.inr ⟨(zU_j _ _ _ _ (by decide)).trans ((zU_j _ _ _ _ (by decide)).trans (zU_s _ _ _ _)), (zU_j _ _ _ _ (by decide)).trans (zU_s _ _ _ _), zix2_0 hsg, zU_s _ _ _ _⟩)))⟩⟩, (((((hf1.up (a := 58) (j := 23) ⟨rfl, by decide, by decide⟩).up (a := 58) (j := 22) ⟨rfl, by decide, by decide⟩).up (a := 58) (j := 22) ⟨rfl, by decide, by decide⟩).up (a := 58) (j := 24) ⟨rfl, by decide, by decide⟩).up (a := 58) (j := 21) ⟨rfl, by decide, by decide⟩)⟩)
                          | (have hsg : ¬ 0 ≤ zix2 13 (zbp tp z p) 0 8 := fun q => by have := zix2_0 q; omega
                             have e9 : ztk tp z p (-1) = (1, 0, p, p + 1, -1) := by unfold ztk; rw [zit_f (by omega), zit_f (by unfold zlt; omega), zit_f (by unfold zdg; omega), if_neg hsg]
                             rw [e9]
                             exact ⟨rfl, rfl, ⟨(zU_j _ _ _ _ (by decide)).trans ((zU_j _ _ _ _ (by decide)).trans (e26.trans (zb_f (fun q => q rfl)).symm)), fun q => absurd rfl q, fun _ => ⟨(zU_j _ _ _ _ (by decide)).trans (zU_s _ _ _ _), Or.inr (Or.inl ⟨rfl, zU_s _ _ _ _⟩)⟩⟩, ((hf1.up (a := 58) (j := 23) ⟨rfl, by decide, by decide⟩).up (a := 58) (j := 22) ⟨rfl, by decide, by decide⟩)⟩)
      · refine zV_aload_n (pc := 148) (i := 0) dX10_next_148 rfl rfl ?_
        refine zV_iconst (pc := 149) dX10_next_149 ?_
        refine zV_put (pc := 150) (j := 22) dX10_next_150 flX10_143 rfl (zOb_of rfl) rfl trivial ?_
        refine zV_aload_n (pc := 153) (i := 0) dX10_next_153 rfl rfl ?_
        refine zV_lconst0 (pc := 154) dX10_next_154 ?_
        refine zV_put (pc := 155) (j := 24) dX10_next_155 flX10_154 rfl (zOb_of rfl) rfl trivial ?_
        refine zV_iconst (pc := 158) dX10_next_158 ?_
        refine zV_istore_n (pc := 159) (i := 2) dX10_next_159 rfl rfl ?_
        try dsimp only [List.set_cons_succ, List.set_cons_zero]
        exact kX10_nxD hC hT hat h21 hft h26 hp hpz c_145 160 p 0 0 _ (by omega) ((zU_j _ _ _ _ (by decide)).trans ((zU_j _ _ _ _ (by decide)).trans ((zU_j _ _ _ _ (by decide)).trans ((zU_j _ _ _ _ (by decide)).trans h2)))) ((((hf1.up (a := 58) (j := 23) ⟨rfl, by decide, by decide⟩).up (a := 58) (j := 22) ⟨rfl, by decide, by decide⟩).up (a := 58) (j := 22) ⟨rfl, by decide, by decide⟩).up (a := 58) (j := 24) ⟨rfl, by decide, by decide⟩) rfl ((zU_j _ _ _ _ (by decide)).trans ((zU_j _ _ _ _ (by decide)).trans ((zU_j _ _ _ _ (by decide)).trans (zU_s _ _ _ _)))) (fun _ => rfl) (by omega) (zU_s _ _ _ _) ⟨by omega, by omega⟩
    · refine zV_aload_n (pc := 95) (i := 0) dX10_next_95 rfl rfl ?_
      refine zV_iconst (pc := 96) dX10_next_96 ?_
      refine zV_put (pc := 97) (j := 22) dX10_next_97 flX10_143 rfl (zOb_of rfl) rfl trivial ?_
      exact kX10_nxW hC hT hat h21 hft h26 hp hpz c_92 160 p _ (by omega) ((zU_j _ _ _ _ (by decide)).trans ((zU_j _ _ _ _ (by decide)).trans ((zU_j _ _ _ _ (by decide)).trans h2))) (((hf1.up (a := 58) (j := 23) ⟨rfl, by decide, by decide⟩).up (a := 58) (j := 22) ⟨rfl, by decide, by decide⟩).up (a := 58) (j := 22) ⟨rfl, by decide, by decide⟩) rfl (zU_s _ _ _ _) ((zU_j _ _ _ _ (by decide)).trans ((zU_j _ _ _ _ (by decide)).trans (zU_s _ _ _ _))) ⟨by omega, by omega⟩
  · refine zV_aload_n (pc := 65) (i := 0) dX10_next_65 rfl rfl ?_
    refine zV_iconst (pc := 66) dX10_next_66 ?_
    refine zV_put (pc := 67) (j := 22) dX10_next_67 flX10_143 rfl (zOb_of rfl) rfl trivial ?_
    refine zV_aload_n (pc := 70) (i := 0) dX10_next_70 rfl rfl ?_
    refine zV_aload_n (pc := 71) (i := 0) dX10_next_71 rfl rfl ?_
    refine zV_get (pc := 72) (j := 20) dX10_next_72 flX10_127 (zOb_of rfl) rfl ((zU_j _ _ _ _ (by decide)).trans ((zU_j _ _ _ _ (by decide)).trans ((zU_j _ _ _ _ (by decide)).trans z20))) ?_
    refine zV_put (pc := 75) (j := 23) dX10_next_75 flX10_140 rfl (zOb_of rfl) rfl trivial ?_
    refine zV_goto (pc := 78) (tgt := 321) dX10_next_78 (by decide) ?_
    refine zV_vret (pc := 321) dX10_next_321 trivial ⟨Nat.zero_le _, Nat.zero_le _⟩ ?_
    rw [eA]
    first
      | (have cb : zbp tp z p = -1 := by omega
         have hpe : p = z := by
           by_cases q : p < z
           · have := hT.2 p hpz.1 q
             have e8 : zbp tp z p = tp p := if_pos ⟨hpz.1, q⟩
             omega
           · omega
         have e9 : ztk tp z p (-1) = (0, 0, p, p, -1) := by unfold ztk; rw [zit_t cb]
         rw [e9]
         exact ⟨rfl, rfl, ⟨(zU_j _ _ _ _ (by decide)).trans ((zU_j _ _ _ _ (by decide)).trans ((zU_j _ _ _ _ (by decide)).trans ((zU_j _ _ _ _ (by decide)).trans (e26.trans (zb_f (fun q => q rfl)).symm)))), fun q => absurd rfl q, fun _ => ⟨(zU_s _ _ _ _).trans hpe.symm, Or.inl ⟨rfl, (zU_j _ _ _ _ (by decide)).trans (zU_s _ _ _ _)⟩⟩⟩, ((((hf1.up (a := 58) (j := 23) ⟨rfl, by decide, by decide⟩).up (a := 58) (j := 22) ⟨rfl, by decide, by decide⟩).up (a := 58) (j := 22) ⟨rfl, by decide, by decide⟩).up (a := 58) (j := 23) ⟨rfl, by decide, by decide⟩)⟩)
      | (have hsg : 0 ≤ zix2 13 (zbp tp z p) 0 8 := zix2_1 (by omega)
         have e9 : ztk tp z p (-1) = (zbp tp z p, 0, p, p + 1, -1) := by unfold ztk; rw [zit_f (by omega), zit_f (by unfold zlt; omega), zit_f (by unfold zdg; omega), if_pos hsg]
         rw [e9]
         exact ⟨rfl, rfl, ⟨(zU_j _ _ _ _ (by decide)).trans ((zU_j _ _ _ _ (by decide)).trans ((zU_j _ _ _ _ (by decide)).trans ((zU_j _ _ _ _ (by decide)).trans ((zU_j _ _ _ _ (by decide)).trans (e26.trans (zb_f (fun q => q rfl)).symm))))), fun q => absurd rfl q, fun _ => ⟨(zU_j _ _ _ _ (by decide)).trans ((zU_j _ _ _ _ (by decide)).trans ((zU_j _ _ _ _ (by decide)).trans ((zU_j _ _ _ _ (by decide)).trans (zU_s _ _ _ _)))), Or.inr (Or.inr (Or.inr (Or.inr ⟨(zU_j _ _ _ _ (by decide)).trans ((zU_j _ _ _ _ (by decide)).trans (zU_s _ _ _ _)), (zU_j _ _ _ _ (by decide)).trans (zU_s _ _ _ _), zix2_0 hsg, zU_s _ _ _ _⟩)))⟩⟩, (((((hf1.up (a := 58) (j := 23) ⟨rfl, by decide, by decide⟩).up (a := 58) (j := 22) ⟨rfl, by decide, by decide⟩).up (a := 58) (j := 22) ⟨rfl, by decide, by decide⟩).up (a := 58) (j := 24) ⟨rfl, by decide, by decide⟩).up (a := 58) (j := 21) ⟨rfl, by decide, by decide⟩)⟩)
      | (have hsg : ¬ 0 ≤ zix2 13 (zbp tp z p) 0 8 := fun q => by have := zix2_0 q; omega
         have e9 : ztk tp z p (-1) = (1, 0, p, p + 1, -1) := by unfold ztk; rw [zit_f (by omega), zit_f (by unfold zlt; omega), zit_f (by unfold zdg; omega), if_neg hsg]
         rw [e9]
         exact ⟨rfl, rfl, ⟨(zU_j _ _ _ _ (by decide)).trans ((zU_j _ _ _ _ (by decide)).trans (e26.trans (zb_f (fun q => q rfl)).symm)), fun q => absurd rfl q, fun _ => ⟨(zU_j _ _ _ _ (by decide)).trans (zU_s _ _ _ _), Or.inr (Or.inl ⟨rfl, zU_s _ _ _ _⟩)⟩⟩, ((hf1.up (a := 58) (j := 23) ⟨rfl, by decide, by decide⟩).up (a := 58) (j := 22) ⟨rfl, by decide, by decide⟩)⟩)
set_option maxRecDepth 20000 in
set_option maxHeartbeats 2000000 in
theorem kX10_nxB {f z : Int} {tp : Int → Int} (hC : zMC M f tp z) (hT : ztp tp z) {s : zσ} (hat : 0 ≤ s.at ∧ s.at ≤ z) (h21 : M 58 21 = s.at) (hft : s.ft = -1) (h26 : M 58 26 = 0) : ∀ (k : Nat) (x : Int) (M1 : zM), z - x ≤ k → M1 58 21 = x → zFr zNF M M1 → zrn (fun j => zbk (zbp tp z j)) k x = zrn (fun j => zbk (zbp tp z j)) 160 s.at → 0 ≤ x ∧ x ≤ z → zV g xX10_next (zPn 75 (fun M1 => zMd tp M1 (zadv tp z s) ∧ zFr zNF M M1)) 0 [zr 58, (3, 0), (3, 0)] [] 75 M1 0 0 := by
  intro k
  induction k with
  | zero =>
    intro x M1 h0 h1 h2 h3 h4
    have hzz := hT.1
    have hC1 := hC.fr (h2.mono (fun a j q => zNF_G q))
    have hb1 := zbp_r (p := x) hT
    refine zV_aload_n (pc := 0) (i := 0) dX10_next_0 rfl rfl ?_
    refine zV_aload_n (pc := 1) (i := 0) dX10_next_1 rfl rfl ?_
    refine zV_get (pc := 2) (j := 21) dX10_next_2 flX10_133 (zOb_of rfl) rfl h1 ?_
    refine zV_ivp (pc := 5) (ci := 10) dX10_next_5 klX10_136 mX10_byteAt ⟨by decide, rfl⟩ rfl ⟨Nat.zero_le _, Nat.zero_le _⟩ (kX10_byteAt hC1 hT (by omega)) (zOb_of rfl) rfl rfl (Nat.le_of_ble_eq_true rfl) ?_
    refine zV_bipush (pc := 8) dX10_next_8 (by decide) ?_
    refine zV_icmp_eq (pc := 10) (tgt := 26) dX10_next_10 (by decide) (by omega) (fun c_10 => ?_) (fun c_10 => ?_)
    · exfalso
      have := zbp_z (tp := tp) (z := z) (p := x) (by omega)
      omega
    · refine zV_aload_n (pc := 13) (i := 0) dX10_next_13 rfl rfl ?_
      refine zV_aload_n (pc := 14) (i := 0) dX10_next_14 rfl rfl ?_
      refine zV_get (pc := 15) (j := 21) dX10_next_15 flX10_133 (zOb_of rfl) rfl h1 ?_
      refine zV_ivp (pc := 18) (ci := 10) dX10_next_18 klX10_136 mX10_byteAt ⟨by decide, rfl⟩ rfl ⟨Nat.zero_le _, Nat.zero_le _⟩ (kX10_byteAt hC1 hT (by omega)) (zOb_of rfl) rfl rfl (Nat.le_of_ble_eq_true rfl) ?_
      refine zV_bipush (pc := 21) dX10_next_21 (by decide) ?_
      refine zV_icmp_ne (pc := 23) (tgt := 39) dX10_next_23 (by decide) (by omega) (fun c_23 => ?_) (fun c_23 => ?_)
      · have c2 : ¬ zbk (zbp tp z x) := by unfold zbk; omega
        have eX : x = zrn (fun j => zbk (zbp tp z j)) 160 s.at := (zrn_0 (q := fun j => zbk (zbp tp z j)) (k := 0) c2).symm.trans h3
        exact kX10_nxT hC hT hat h21 hft h26 eX.symm (by omega) h1 h2
      · exfalso
        have := zbp_z (tp := tp) (z := z) (p := x) (by omega)
        omega
  | succ k ih =>
    intro x M1 h0 h1 h2 h3 h4
    have hzz := hT.1
    have hC1 := hC.fr (h2.mono (fun a j q => zNF_G q))
    have hb1 := zbp_r (p := x) hT
    refine zV_aload_n (pc := 0) (i := 0) dX10_next_0 rfl rfl ?_
    refine zV_aload_n (pc := 1) (i := 0) dX10_next_1 rfl rfl ?_
    refine zV_get (pc := 2) (j := 21) dX10_next_2 flX10_133 (zOb_of rfl) rfl h1 ?_
    refine zV_ivp (pc := 5) (ci := 10) dX10_next_5 klX10_136 mX10_byteAt ⟨by decide, rfl⟩ rfl ⟨Nat.zero_le _, Nat.zero_le _⟩ (kX10_byteAt hC1 hT (by omega)) (zOb_of rfl) rfl rfl (Nat.le_of_ble_eq_true rfl) ?_
    refine zV_bipush (pc := 8) dX10_next_8 (by decide) ?_
    refine zV_icmp_eq (pc := 10) (tgt := 26) dX10_next_10 (by decide) (by omega) (fun c_10 => ?_) (fun c_10 => ?_)
    · refine zV_aload_n (pc := 26) (i := 0) dX10_next_26 rfl rfl ?_
      refine zV_dup (pc := 27) dX10_next_27 (by simp) ?_
      refine zV_get (pc := 28) (j := 21) dX10_next_28 flX10_133 (zOb_of rfl) rfl h1 ?_
      refine zV_iconst (pc := 31) dX10_next_31 ?_
      refine zV_iadd (pc := 32) dX10_next_32 ?_
      refine zV_put (pc := 33) (j := 21) dX10_next_33 flX10_133 rfl (zOb_of rfl) rfl trivial ?_
      refine zV_goto (pc := 36) (tgt := 0) dX10_next_36 (by decide) ?_
      have c2 : zbk (zbp tp z x) := by unfold zbk; omega
      refine ih (x + 1) _ (by omega) (zU_s _ _ _ _) (h2.up (a := 58) (j := 21) ⟨rfl, by decide, by decide⟩) ((zrn_1 (q := fun j => zbk (zbp tp z j)) c2).symm.trans h3) ⟨by omega, ?_⟩
      by_cases q : z ≤ x
      · exact absurd c2 (zbk_z x q)
      · omega
    · refine zV_aload_n (pc := 13) (i := 0) dX10_next_13 rfl rfl ?_
      refine zV_aload_n (pc := 14) (i := 0) dX10_next_14 rfl rfl ?_
      refine zV_get (pc := 15) (j := 21) dX10_next_15 flX10_133 (zOb_of rfl) rfl h1 ?_
      refine zV_ivp (pc := 18) (ci := 10) dX10_next_18 klX10_136 mX10_byteAt ⟨by decide, rfl⟩ rfl ⟨Nat.zero_le _, Nat.zero_le _⟩ (kX10_byteAt hC1 hT (by omega)) (zOb_of rfl) rfl rfl (Nat.le_of_ble_eq_true rfl) ?_
      refine zV_bipush (pc := 21) dX10_next_21 (by decide) ?_
      refine zV_icmp_ne (pc := 23) (tgt := 39) dX10_next_23 (by decide) (by omega) (fun c_23 => ?_) (fun c_23 => ?_)
      · have c2 : ¬ zbk (zbp tp z x) := by unfold zbk; omega
        have eX : x = zrn (fun j => zbk (zbp tp z j)) 160 s.at := (zrn_0 (q := fun j => zbk (zbp tp z j)) (k := k + 1) c2).symm.trans h3
        exact kX10_nxT hC hT hat h21 hft h26 eX.symm (by omega) h1 h2
      · refine zV_aload_n (pc := 26) (i := 0) dX10_next_26 rfl rfl ?_
        refine zV_dup (pc := 27) dX10_next_27 (by simp) ?_
        refine zV_get (pc := 28) (j := 21) dX10_next_28 flX10_133 (zOb_of rfl) rfl h1 ?_
        refine zV_iconst (pc := 31) dX10_next_31 ?_
        refine zV_iadd (pc := 32) dX10_next_32 ?_
        refine zV_put (pc := 33) (j := 21) dX10_next_33 flX10_133 rfl (zOb_of rfl) rfl trivial ?_
        refine zV_goto (pc := 36) (tgt := 0) dX10_next_36 (by decide) ?_
        have c2 : zbk (zbp tp z x) := by unfold zbk; omega
        refine ih (x + 1) _ (by omega) (zU_s _ _ _ _) (h2.up (a := 58) (j := 21) ⟨rfl, by decide, by decide⟩) ((zrn_1 (q := fun j => zbk (zbp tp z j)) c2).symm.trans h3) ⟨by omega, ?_⟩
        by_cases q : z ≤ x
        · exact absurd c2 (zbk_z x q)
        · omega
set_option maxRecDepth 20000 in
set_option maxHeartbeats 2000000 in
theorem kX10_next {f z : Int} {tp : Int → Int} (hC : zMC M f tp z) (hT : ztp tp z) {s : zσ} (hat : 0 ≤ s.at ∧ s.at ≤ z) (h21 : M 58 21 = s.at) (hft : s.ft = -1) (h26 : M 58 26 = 0) : zK g yX10_next xX10_next [zr 58] 75 M (zPn 75 (fun M1 => zMd tp M1 (zadv tp z s) ∧ zFr zNF M M1)) := by
  refine zK_of (ls0 := [zr 58, (3, 0), (3, 0)]) (by decide) rfl (by decide) rfl (Nat.le_of_ble_eq_true rfl) ?_
  have hzz := hT.1
  exact kX10_nxB hC hT hat h21 hft h26 160 s.at M (by omega) h21 zFr.rf rfl hat
end
