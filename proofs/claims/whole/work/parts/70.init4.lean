/-! CONSTRUCTORS of the class and of the model: what stands behind them (printed by wip/whole/p70.py) -/
section
variable {g : zG} {N : Nat} {M : zM}
set_option maxRecDepth 20000 in
set_option maxHeartbeats 2000000 in
theorem kX9_inA (hS : zSw M) (h5 : M 0 5 = 18) {P : zP} (hX : ∀ M2 : zM, M2 18 1 = 43 → (∀ j : Nat, j < 43 → M2 19 j = zby 0 j) → zFr (fun a j => a = 19 ∨ (a = 18 ∧ j = 1)) M M2 → zV g xX9_init P 178 [zr 0, zi 43] [] 52 M2 51 1845) : ∀ (k : Nat) (i : Nat) (M1 : zM), i + k = 43 → M1 18 1 = i → (∀ j : Nat, j < i → M1 19 j = zby 0 j) → zFr (fun a j => a = 19 ∨ (a = 18 ∧ j = 1)) M M1 → zV g xX9_init P 149 [zr 0, zi (i : Int)] [] 52 M1 51 1845 := by
  intro k
  induction k with
  | zero =>
    intro i M1 h0 h1 h2 h3
    have hS1 := hS.fr h3 (by decide)
    have h51 : M1 0 5 = 18 := (h3 0 5 (by decide)).trans h5
    refine zV_iload_n (pc := 149) (i := 1) dX9_init_149 rfl rfl ?_
    refine zV_ldcS (pc := 150) 0 dX9_init_150 (by decide) rfl rfl ?_
    refine zV_ivS (i := 0) (pc := 152) dX9_init_152 klX9_63 mJ0_length_8abf5 rfl rfl ⟨Nat.le_of_ble_eq_true rfl, Nat.le_of_ble_eq_true rfl⟩ (kJ0_length (by decide)) (by decide) rfl rfl (Nat.le_of_ble_eq_true rfl) ?_
    have hl0 : zln 0 = 43 := rfl
    refine zV_icmp_ge (pc := 155) (tgt := 178) dX9_init_155 (by decide) (by omega) (fun c_155 => ?_) (fun c_155 => absurd (by omega) c_155)
    have e : i = 43 := by omega
    subst e
    exact hX M1 h1 (fun j hj => h2 j hj) h3
  | succ k ih =>
    intro i M1 h0 h1 h2 h3
    have hS1 := hS.fr h3 (by decide)
    have h51 : M1 0 5 = 18 := (h3 0 5 (by decide)).trans h5
    refine zV_iload_n (pc := 149) (i := 1) dX9_init_149 rfl rfl ?_
    refine zV_ldcS (pc := 150) 0 dX9_init_150 (by decide) rfl rfl ?_
    refine zV_ivS (i := 0) (pc := 152) dX9_init_152 klX9_63 mJ0_length_8abf5 rfl rfl ⟨Nat.le_of_ble_eq_true rfl, Nat.le_of_ble_eq_true rfl⟩ (kJ0_length (by decide)) (by decide) rfl rfl (Nat.le_of_ble_eq_true rfl) ?_
    have hl0 : zln 0 = 43 := rfl
    refine zV_icmp_ge (pc := 155) (tgt := 178) dX9_init_155 (by decide) (by omega) (fun c_155 => absurd c_155 (by omega)) (fun c_155 => ?_)
    refine zV_aload_n (pc := 158) (i := 0) dX9_init_158 rfl rfl ?_
    refine zV_get (pc := 159) (j := 5) dX9_init_159 flX9_28 (zOb_of rfl) rfl h51 ?_
    refine zV_ldcS (pc := 162) 0 dX9_init_162 (by decide) rfl rfl ?_
    refine zV_iload_n (pc := 164) (i := 1) dX9_init_164 rfl rfl ?_
    refine zV_ivS (i := 0) (pc := 165) dX9_init_165 klX9_69 mJ0_charAt_5068e rfl rfl ⟨Nat.le_of_ble_eq_true rfl, Nat.le_of_ble_eq_true rfl⟩ (kJ0_charAt (by decide) (show i < 43 by omega)) (by decide) rfl rfl (Nat.le_of_ble_eq_true rfl) ?_
    refine zV_ivs (pc := 168) (ci := 3) dX9_init_168 klX9_73 mX3_add ⟨by decide, rfl⟩ rfl ⟨Nat.le_of_ble_eq_true rfl, Nat.le_of_ble_eq_true rfl⟩ (kW3_add hS1 (by omega)) (zOb_of rfl) rfl rfl (Nat.le_of_ble_eq_true rfl) ?_
    rintro w9 N9 M9 ⟨rfl, ⟨q, -, -⟩ | ⟨-, rfl, rfl⟩⟩
    · omega
    refine zV_pop (pc := 171) dX9_init_171 (by simp) ?_
    refine zV_iinc (pc := 172) dX9_init_172 rfl rfl ?_
    try dsimp only [List.set_cons_succ, List.set_cons_zero]
    refine zV_goto (pc := 175) (tgt := 149) dX9_init_175 (by decide) ?_
    refine ih (i + 1) _ (by omega) ?_ ?_ (zFr.up (zFr.up h3 (Or.inl rfl)) (Or.inr ⟨rfl, rfl⟩))
    · rw [zU_s, h1]; rfl
    · intro j hj
      rw [zU_a _ _ _ _ (by decide), h1]
      by_cases c : j = i
      · subst c
        exact zU_s _ _ _ _
      · rw [zU_j _ _ _ _ (by omega)]
        exact h2 j (by omega)
set_option maxRecDepth 20000 in
set_option maxHeartbeats 2000000 in
theorem kX9_inR (hS : zSw M) (h5 : M 0 5 = 18) (h4 : M 0 3 = 17) (h0 : M 0 0 = 1) (h17 : M 17 0 = 26) (h18 : M 18 1 = 0) : zV g xX9_init (fun w N' M1 => w = none ∧ N' = 58 ∧ ∃ M2 : zM, zRT M2 0 ytc 43 ∧ zFr (fun a j => (a = 19 ∨ (a = 18 ∧ 1 ≤ j)) ∨ a = 26 ∨ a = 27 ∨ a = 28) M M2 ∧ M2 26 0 = M 26 0 ∧ M2 26 1 = M 26 1 ∧ M1 = zU (zal (zNw (zU (zU M2 18 1 0) 0 4 1) 52 (fun j => zdf (zty 0 j.toNat)))) 0 6 52) 149 [zr 0, zi 0] [] 52 M 51 1845 := by
  refine kX9_inA hS h5 (fun M2 h1 h2 h3 => ?_) 43 0 M (by decide) h18 (fun j hj => absurd hj (Nat.not_lt_zero _)) zFr.rf
  have hS2 := hS.fr h3 (by decide)
  have h51 : M2 0 5 = 18 := (h3 0 5 (by decide)).trans h5
  have h41 : M2 0 3 = 17 := (h3 0 3 (by decide)).trans h4
  have h61 : M2 17 0 = 26 := (h3 17 0 (by decide)).trans h17
  refine zV_aload_n (pc := 178) (i := 0) dX9_init_178 rfl rfl ?_
  refine zV_get (pc := 179) (j := 5) dX9_init_179 flX9_28 (zOb_of rfl) rfl h51 ?_
  refine zV_aload_n (pc := 182) (i := 0) dX9_init_182 rfl rfl ?_
  refine zV_get (pc := 183) (j := 3) dX9_init_183 flX9_21 (zOb_of rfl) rfl h41 ?_
  refine zV_iconst (pc := 186) dX9_init_186 ?_
  refine zV_aald (pc := 187) dX9_init_187 (zAr_of rfl : zAr 52 17 3 6) ⟨rfl, rfl⟩ (by omega) h61 ?_
  refine zV_ivq (pc := 188) (ci := 3) dX9_init_188 klX9_77 mX3_read ⟨by decide, rfl⟩ rfl ⟨Nat.le_of_ble_eq_true rfl, Nat.le_of_ble_eq_true rfl⟩ (kW3_read (t := 0) (by decide) hS2 h1 ytc_t (fun j j0 j1 => by have := h2 j.toNat (by omega); rw [Int.toNat_of_nonneg j0] at this; exact this)) (zOb_of rfl) rfl rfl (Nat.le_of_ble_eq_true rfl) (fun M3 q3 => ?_)
  have h53 : M3 0 5 = 18 := (q3.2 0 5 (by unfold zXF; omega)).trans h51
  have h54 : M3 0 0 = 1 := (q3.2 0 0 (by unfold zXF; omega)).trans ((h3 0 0 (by decide)).trans h0)
  have h55 : M3 0 3 = 17 := (q3.2 0 3 (by unfold zXF; omega)).trans ((h3 0 3 (by decide)).trans h4)
  refine zV_pop (pc := 191) dX9_init_191 (by simp) ?_
  refine zV_aload_n (pc := 192) (i := 0) dX9_init_192 rfl rfl ?_
  refine zV_get (pc := 193) (j := 5) dX9_init_193 flX9_28 (zOb_of rfl) rfl h53 ?_
  refine zV_ivn (pc := 196) (ci := 3) dX9_init_196 klX9_81 mX3_clear ⟨by decide, rfl⟩ rfl ⟨Nat.le_of_ble_eq_true rfl, Nat.le_of_ble_eq_true rfl⟩ kW3_clear (zOb_of rfl) rfl rfl (Nat.le_of_ble_eq_true rfl) (fun M4 q4 => ?_)
  subst q4
  refine zV_aload_n (pc := 199) (i := 0) dX9_init_199 rfl rfl ?_
  refine zV_iconst (pc := 200) dX9_init_200 ?_
  refine zV_put (pc := 201) (j := 4) dX9_init_201 flX9_84 rfl (zOb_of rfl) rfl trivial ?_
  refine zV_aload_n (pc := 204) (i := 0) dX9_init_204 rfl rfl ?_
  refine zV_new (ci := 0) (pc := 205) dX9_init_205 (by decide) clX9_88 icX0 ncX0 rfl zht_0 (by decide) ⟨Nat.le_of_ble_eq_true rfl, Nat.le_of_ble_eq_true rfl⟩ ?_
  refine zV_dup (pc := 208) dX9_init_208 (by simp) ?_
  refine zV_aload_n (pc := 209) (i := 0) dX9_init_209 rfl rfl ?_
  refine zV_get (pc := 210) (j := 0) dX9_init_210 flX9_12 (zOb_of rfl) rfl (show _ = (1 : Int) from h54) ?_
  refine zV_aload_n (pc := 213) (i := 0) dX9_init_213 rfl rfl ?_
  refine zV_get (pc := 214) (j := 3) dX9_init_214 flX9_21 (zOb_of rfl) rfl (show _ = (17 : Int) from h55) ?_
  refine zV_ii (pc := 217) dX9_init_217 klX9_90 mX0_init rfl ⟨by decide, by decide, by decide, by decide⟩ kX0_init (by omega) rfl rfl (Nat.le_of_ble_eq_true rfl) ?_
  rintro w9 N9 M9 ⟨rfl, rfl, rfl⟩
  refine zV_putF (pc := 220) (j := 6) dX9_init_220 flX9_93 rfl rfl rfl (zOb_of rfl) rfl trivial ?_
  refine zV_vret (pc := 223) dX9_init_223 trivial ⟨Nat.le_of_ble_eq_true rfl, Nat.le_of_ble_eq_true rfl⟩ ?_
  refine ⟨rfl, rfl, M3, q3.1, h3.mono (fun a j y => by omega) |>.tr (q3.2.mono (fun a j y => by unfold zXF at y; omega)), (q3.2 26 0 (by unfold zXF; omega)).trans (h3 26 0 (by decide)), (q3.2 26 1 (by unfold zXF; omega)).trans (h3 26 1 (by decide)), rfl⟩
end
