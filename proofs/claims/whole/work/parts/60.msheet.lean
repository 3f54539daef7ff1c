/-! THE MODEL: sheet, cell, copy, things, film (printed by wip/whole/p60.py) -/
/-- the model's sheets are in range -/
def zShg (M : zM) : Prop := (∀ s : Int, 0 ≤ s → s < 4 → (M 71 s = 0 ∨ M 71 s = 1) ∧ (-1 ≤ M 72 s ∧ M 72 s ≤ 2) ∧ (-2147483648 ≤ M 73 s ∧ M 73 s ≤ 2147483647) ∧ (M 71 s = 1 → 0 ≤ M 72 s ∧ 0 ≤ M 73 s ∧ M 73 s ≤ 40)) ∧ ∀ i : Int, 0 ≤ i → i < 160 → -2147483648 ≤ M 74 i ∧ M 74 i ≤ 2147483647
def zSg (s n a j : Int) : Prop := ((a = 71 ∨ a = 72 ∨ a = 73) ∧ j = s) ∨ (a = 74 ∧ 40 * s ≤ j ∧ j < 40 * s + n)
theorem zSg_st {s n : Int} : ∀ q ∈ zstL, ¬ zSg s n q.1 q.2.1 := by
  have h : ∀ q ∈ zstL, q.1 < 71 := by decide
  intro q hq y
  have := h q hq
  unfold zSg at y
  omega
def zceG (M : zM) (s i : Int) : Int := if 0 ≤ s ∧ s ≤ 3 then (if M 71 s = 0 then -11 else if 0 ≤ i ∧ i < M 73 s then 1 else -12) else -2
def zcoG (M : zM) (s i t j n : Int) : Int := if (0 ≤ s ∧ s ≤ 3) ∧ (0 ≤ t ∧ t ≤ 3) then (if M 71 s = 0 ∨ M 71 t = 0 then -11 else if M 72 s ≠ M 72 t then -13 else if 0 ≤ n ∧ (0 ≤ i ∧ i ≤ M 73 s - n) ∧ (0 ≤ j ∧ j ≤ M 73 t - n) then n else -12) else -2
theorem zcpy_0 {M : zM} {a i b j : Int} : zcpy M a i b j 0 = M := by
  funext x e
  unfold zcpy
  rw [if_neg (by omega)]
theorem zcpy_n {M : zM} {a i j q : Int} (hq : 0 ≤ q) : zU (zcpy M a i a j q) a (j + q) (M a (i + q)) = zcpy M a i a j (q + 1) := by
  funext x e
  unfold zU zcpy
  by_cases cx : x = a
  · rw [if_pos cx]
    by_cases ce : e = j + q
    · rw [if_pos ce, if_pos (by omega), show i + (e - j) = i + q by omega]
    · rw [if_neg ce]
      by_cases cj : j ≤ e ∧ e < j + q
      · rw [if_pos (by omega), if_pos (by omega)]
      · rw [if_neg (by omega), if_neg (by omega)]
  · rw [if_neg cx, if_neg (by omega), if_neg (by omega)]
theorem zcpy_p {M : zM} {a i j q : Int} (hq : 0 ≤ q) : zU (zcpy M a (i + 1) a (j + 1) q) a j (M a i) = zcpy M a i a j (q + 1) := by
  funext x e
  unfold zU zcpy
  by_cases cx : x = a
  · rw [if_pos cx]
    by_cases ce : e = j
    · rw [if_pos ce, if_pos (by omega), show i + (e - j) = i by omega]
    · rw [if_neg ce]
      by_cases cj : j + 1 ≤ e ∧ e < j + 1 + q
      · rw [if_pos (by omega), if_pos (by omega), show i + 1 + (e - (j + 1)) = i + (e - j) by omega]
      · rw [if_neg (by omega), if_neg (by omega)]
  · rw [if_neg cx, if_neg (by omega), if_neg (by omega)]
theorem zcpy_o {M : zM} {a i b j q x e : Int} (h : ¬ (x = b ∧ j ≤ e ∧ e < j + q)) : zcpy M a i b j q x e = M x e := if_neg h
section
variable {g : zG} {N : Nat} {M : zM}
set_option maxRecDepth 20000 in
set_option maxHeartbeats 2000000 in
theorem kX10_sheL (hS : zSt M) {s x n : Int} (hs : 0 ≤ s ∧ s < 4) (hx : 0 ≤ x ∧ x ≤ 2) (hn : 0 ≤ n ∧ n ≤ 40) : ∀ (k : Nat) (i : Int) (M1 : zM), i + k = n → 0 ≤ i → (∀ e : Int, 0 ≤ e → e < i → M1 74 (40 * s + e) = 0) → zFr (fun a j => a = 74 ∧ 40 * s ≤ j ∧ j < 40 * s + n) M M1 → zV g xX10_sheet (zPq (zi 1) 75 (fun M1 => (∀ e : Int, 0 ≤ e → e < n → M1 74 (40 * s + e) = 0) ∧ zFr (fun a j => a = 74 ∧ 40 * s ≤ j ∧ j < 40 * s + n) M M1)) 77 [zr 58, zi s, zi x, zi n, zi i] [] 75 M1 0 0 := by
  intro k
  induction k with
  | zero =>
    intro i M1 h0 h1 h2 h3
    have hS1 := hS.fr (h3.mono (C' := fun a _ => a = 74) (fun a j y => y.1)) (by decide)
    refine zV_iload (pc := 77) dX10_sheet_77 rfl ?_
    refine zV_iload_n (pc := 79) (i := 3) dX10_sheet_79 rfl rfl ?_
    refine zV_icmp_ge (pc := 80) (tgt := 106) dX10_sheet_80 (by decide) (by omega) (fun c_80 => ?_) (fun c_80 => absurd (by omega) c_80)
    refine zV_iconst (pc := 106) dX10_sheet_106 ?_
    refine zV_iret (pc := 107) dX10_sheet_107 trivial ⟨Nat.zero_le _, Nat.zero_le _⟩ ?_
    exact ⟨rfl, rfl, fun e e0 e1 => h2 e e0 (by omega), h3⟩
  | succ k ih =>
    intro i M1 h0 h1 h2 h3
    have hS1 := hS.fr (h3.mono (C' := fun a _ => a = 74) (fun a j y => y.1)) (by decide)
    refine zV_iload (pc := 77) dX10_sheet_77 rfl ?_
    refine zV_iload_n (pc := 79) (i := 3) dX10_sheet_79 rfl rfl ?_
    refine zV_icmp_ge (pc := 80) (tgt := 106) dX10_sheet_80 (by decide) (by omega) (fun c_80 => absurd c_80 (by omega)) (fun c_80 => ?_)
    refine zV_iload_n (pc := 83) (i := 2) dX10_sheet_83 rfl rfl ?_
    refine zV_if_lt (pc := 84) (tgt := 106) dX10_sheet_84 (by decide) (by omega) (fun c_84 => absurd c_84 (by omega)) (fun c_84 => ?_)
    refine zV_aload_n (pc := 87) (i := 0) dX10_sheet_87 rfl rfl ?_
    refine zV_get (pc := 88) (j := 42) dX10_sheet_88 flX10_63 (zOb_of rfl) rfl hS1.e58_42 ?_
    refine zV_bipush (pc := 91) dX10_sheet_91 (by decide) ?_
    refine zV_iload_n (pc := 93) (i := 1) dX10_sheet_93 rfl rfl ?_
    refine zV_imul (pc := 94) dX10_sheet_94 ?_
    refine zV_iload (pc := 95) dX10_sheet_95 rfl ?_
    refine zV_iadd (pc := 97) dX10_sheet_97 ?_
    refine zV_iconst (pc := 98) dX10_sheet_98 ?_
    refine zV_iast (pc := 99) dX10_sheet_99 (zAr_of rfl : zAr 75 74 0 160) (by omega) ?_
    refine zV_iinc (pc := 100) dX10_sheet_100 rfl rfl ?_
    try dsimp only [List.set_cons_succ, List.set_cons_zero]
    refine zV_goto (pc := 103) (tgt := 77) dX10_sheet_103 (by decide) ?_
    refine ih (i + 1) _ (by omega) (by omega) (fun e e0 e1 => ?_) (zFr.up h3 ⟨rfl, by omega, by omega⟩)
    by_cases c : e = i
    · rw [c]
      exact zU_s _ _ _ _
    · rw [zU_j _ _ _ _ (by omega)]
      exact h2 e e0 (by omega)
set_option maxRecDepth 20000 in
set_option maxHeartbeats 2000000 in
theorem kX10_sheet (hS : zSt M) {s x n : Int} (hs : -2147483648 ≤ s ∧ s ≤ 2147483647) (hx : -2147483648 ≤ x ∧ x ≤ 2147483647) (hn : -2147483648 ≤ n ∧ n ≤ 2147483647) : zK g yX10_sheet xX10_sheet [zr 58, zi s, zi x, zi n] 75 M (fun w N' M1 => N' = 75 ∧ w = some (zi (zshA s x n)) ∧ (zshA s x n ≠ 1 → M1 = M) ∧ (zshA s x n = 1 → 0 ≤ s ∧ s < 4 ∧ M1 71 s = zb (0 ≤ x) ∧ M1 72 s = x ∧ M1 73 s = n ∧ (0 ≤ x → ∀ e : Int, 0 ≤ e → e < n → M1 74 (40 * s + e) = 0) ∧ zFr (zSg s (if 0 ≤ x then n else 0)) M M1)) := by
  refine zK_of (ls0 := [zr 58, zi s, zi x, zi n, (3, 0)]) (by decide) rfl (by decide) rfl (Nat.le_of_ble_eq_true rfl) ?_
  refine zV_iload_n (pc := 0) (i := 1) dX10_sheet_0 rfl rfl ?_
  refine zV_isp (pc := 1) dX10_sheet_1 klX10_408 mX10_isSheet rfl ⟨Nat.zero_le _, Nat.zero_le _⟩ (kX10_isSheet (by omega)) rfl rfl (Nat.le_of_ble_eq_true rfl) ?_
  refine zV_if_eqb (pc := 4) (tgt := 31) dX10_sheet_4 (by decide) (fun c_4 => ?_) (fun c_4 => ?_)
  · refine zV_bipush (pc := 31) dX10_sheet_31 (by decide) ?_
    refine zV_iret (pc := 33) dX10_sheet_33 trivial ⟨Nat.zero_le _, Nat.zero_le _⟩ ?_
    have e : zshA s x n = -2 := by unfold zshA; (repeat' split) <;> omega
    exact ⟨rfl, by rw [e], fun _ => rfl, fun q => absurd (e.symm.trans q) (by decide)⟩
  · refine zV_iload_n (pc := 7) (i := 2) dX10_sheet_7 rfl rfl ?_
    refine zV_i2l (pc := 8) dX10_sheet_8 (by omega) ?_
    refine zV_ldc2 (pc := 9) dX10_sheet_9 kiX10_452 ?_
    refine zV_ldc2 (pc := 12) dX10_sheet_12 kiX10_358 ?_
    refine zV_isp (pc := 15) dX10_sheet_15 klX10_76 mX10_in rfl ⟨Nat.zero_le _, Nat.zero_le _⟩ (kX10_in (by omega) (by omega) (by omega)) rfl rfl (Nat.le_of_ble_eq_true rfl) ?_
    refine zV_if_eqb (pc := 18) (tgt := 31) dX10_sheet_18 (by decide) (fun c_18 => ?_) (fun c_18 => ?_)
    · refine zV_bipush (pc := 31) dX10_sheet_31 (by decide) ?_
      refine zV_iret (pc := 33) dX10_sheet_33 trivial ⟨Nat.zero_le _, Nat.zero_le _⟩ ?_
      have e : zshA s x n = -2 := by unfold zshA; (repeat' split) <;> omega
      exact ⟨rfl, by rw [e], fun _ => rfl, fun q => absurd (e.symm.trans q) (by decide)⟩
    · refine zV_iload_n (pc := 21) (i := 2) dX10_sheet_21 rfl rfl ?_
      refine zV_if_lt (pc := 22) (tgt := 34) dX10_sheet_22 (by decide) (by omega) (fun c_22 => ?_) (fun c_22 => ?_)
      · refine zV_iload_n (pc := 34) (i := 2) dX10_sheet_34 rfl rfl ?_
        refine zV_if_lt (pc := 35) (tgt := 45) dX10_sheet_35 (by decide) (by omega) (fun c_35 => ?_) (fun c_35 => ?_)
        · by_cases cx : 0 ≤ x
          · refine zV_aload_n (pc := 45) (i := 0) dX10_sheet_45 rfl rfl ?_
            refine zV_get (pc := 46) (j := 39) dX10_sheet_46 flX10_54 (zOb_of rfl) rfl hS.e58_39 ?_
            refine zV_iload_n (pc := 49) (i := 1) dX10_sheet_49 rfl rfl ?_
            refine zV_iload_n (pc := 50) (i := 2) dX10_sheet_50 rfl rfl ?_
            refine zV_if_lt (pc := 51) (tgt := 58) dX10_sheet_51 (by decide) (by omega) (fun c_51 => absurd c_51 (by omega)) (fun c_51 => ?_)
            refine zV_iconst (pc := 54) dX10_sheet_54 ?_
            refine zV_goto (pc := 55) (tgt := 59) dX10_sheet_55 (by decide) ?_
            refine zV_zast (pc := 59) dX10_sheet_59 (zAr_of rfl : zAr 75 71 1 4) (by omega) (by omega) ?_
            refine zV_aload_n (pc := 60) (i := 0) dX10_sheet_60 rfl rfl ?_
            refine zV_get (pc := 61) (j := 40) dX10_sheet_61 flX10_57 (zOb_of rfl) rfl hS.e58_40 ?_
            refine zV_iload_n (pc := 64) (i := 1) dX10_sheet_64 rfl rfl ?_
            refine zV_iload_n (pc := 65) (i := 2) dX10_sheet_65 rfl rfl ?_
            refine zV_iast (pc := 66) dX10_sheet_66 (zAr_of rfl : zAr 75 72 0 4) (by omega) ?_
            refine zV_aload_n (pc := 67) (i := 0) dX10_sheet_67 rfl rfl ?_
            refine zV_get (pc := 68) (j := 41) dX10_sheet_68 flX10_60 (zOb_of rfl) rfl hS.e58_41 ?_
            refine zV_iload_n (pc := 71) (i := 1) dX10_sheet_71 rfl rfl ?_
            refine zV_iload_n (pc := 72) (i := 3) dX10_sheet_72 rfl rfl ?_
            refine zV_iast (pc := 73) dX10_sheet_73 (zAr_of rfl : zAr 75 73 0 4) (by omega) ?_
            refine zV_iconst (pc := 74) dX10_sheet_74 ?_
            refine zV_istore (pc := 75) dX10_sheet_75 rfl ?_
            try dsimp only [List.set_cons_succ, List.set_cons_zero]
            have e1 : zshA s x n = 1 := by unfold zshA; (repeat' split) <;> omega
            have f0 : zFr (zSg s n) M (zU (zU (zU M 71 s 1) 72 s x) 73 s n) := (zFr.up (zFr.up (zFr.up zFr.rf (Or.inl ⟨Or.inl rfl, rfl⟩)) (Or.inl ⟨Or.inr (Or.inl rfl), rfl⟩)) (Or.inl ⟨Or.inr (Or.inr rfl), rfl⟩))
            refine (kX10_sheL (hS.fr f0 zSg_st) (s := s) (x := x) (n := n) (by omega) (by omega) (by omega) n.toNat 0 _ (by omega) (by omega) (fun e e0 e1 => absurd e0 (by omega)) zFr.rf).mono ?_
            rintro v N9 M9 ⟨rfl, rfl, q, f⟩
            refine ⟨rfl, by rw [e1], fun y => absurd e1 y, fun _ => ⟨by omega, by omega, ?_, ?_, ?_, fun _ => q, by rw [if_pos cx]; exact f0.tr (f.mono (fun a j y => Or.inr y))⟩⟩
            · exact (f 71 s (by omega)).trans ((zU_a _ _ _ _ (by decide)).trans ((zU_a _ _ _ _ (by decide)).trans ((zU_s _ _ _ _).trans (zb_t (by omega)).symm)))
            · exact (f 72 s (by omega)).trans ((zU_a _ _ _ _ (by decide)).trans (zU_s _ _ _ _))
            · exact (f 73 s (by omega)).trans (zU_s _ _ _ _)
          · refine zV_aload_n (pc := 45) (i := 0) dX10_sheet_45 rfl rfl ?_
            refine zV_get (pc := 46) (j := 39) dX10_sheet_46 flX10_54 (zOb_of rfl) rfl hS.e58_39 ?_
            refine zV_iload_n (pc := 49) (i := 1) dX10_sheet_49 rfl rfl ?_
            refine zV_iload_n (pc := 50) (i := 2) dX10_sheet_50 rfl rfl ?_
            refine zV_if_lt (pc := 51) (tgt := 58) dX10_sheet_51 (by decide) (by omega) (fun c_51 => ?_) (fun c_51 => absurd (by omega) c_51)
            refine zV_iconst (pc := 58) dX10_sheet_58 ?_
            refine zV_zast (pc := 59) dX10_sheet_59 (zAr_of rfl : zAr 75 71 1 4) (by omega) (by omega) ?_
            refine zV_aload_n (pc := 60) (i := 0) dX10_sheet_60 rfl rfl ?_
            refine zV_get (pc := 61) (j := 40) dX10_sheet_61 flX10_57 (zOb_of rfl) rfl hS.e58_40 ?_
            refine zV_iload_n (pc := 64) (i := 1) dX10_sheet_64 rfl rfl ?_
            refine zV_iload_n (pc := 65) (i := 2) dX10_sheet_65 rfl rfl ?_
            refine zV_iast (pc := 66) dX10_sheet_66 (zAr_of rfl : zAr 75 72 0 4) (by omega) ?_
            refine zV_aload_n (pc := 67) (i := 0) dX10_sheet_67 rfl rfl ?_
            refine zV_get (pc := 68) (j := 41) dX10_sheet_68 flX10_60 (zOb_of rfl) rfl hS.e58_41 ?_
            refine zV_iload_n (pc := 71) (i := 1) dX10_sheet_71 rfl rfl ?_
            refine zV_iload_n (pc := 72) (i := 3) dX10_sheet_72 rfl rfl ?_
            refine zV_iast (pc := 73) dX10_sheet_73 (zAr_of rfl : zAr 75 73 0 4) (by omega) ?_
            refine zV_iconst (pc := 74) dX10_sheet_74 ?_
            refine zV_istore (pc := 75) dX10_sheet_75 rfl ?_
            try dsimp only [List.set_cons_succ, List.set_cons_zero]
            refine zV_iload (pc := 77) dX10_sheet_77 rfl ?_
            refine zV_iload_n (pc := 79) (i := 3) dX10_sheet_79 rfl rfl ?_
            refine zV_icmp_ge (pc := 80) (tgt := 106) dX10_sheet_80 (by decide) (by omega) (fun c_80 => ?_) (fun c_80 => ?_)
            · refine zV_iconst (pc := 106) dX10_sheet_106 ?_
              refine zV_iret (pc := 107) dX10_sheet_107 trivial ⟨Nat.zero_le _, Nat.zero_le _⟩ ?_
              have e1 : zshA s x n = 1 := by unfold zshA; (repeat' split) <;> omega
              have f0 : zFr (zSg s 0) M (zU (zU (zU M 71 s 0) 72 s x) 73 s n) := (zFr.up (zFr.up (zFr.up zFr.rf (Or.inl ⟨Or.inl rfl, rfl⟩)) (Or.inl ⟨Or.inr (Or.inl rfl), rfl⟩)) (Or.inl ⟨Or.inr (Or.inr rfl), rfl⟩))
              refine ⟨rfl, by rw [e1], fun y => absurd e1 y, fun _ => ⟨by omega, by omega, ?_, ?_, ?_, fun q => by omega, by rw [if_neg cx]; exact f0⟩⟩
              · exact (zU_a _ _ _ _ (by decide)).trans ((zU_a _ _ _ _ (by decide)).trans ((zU_s _ _ _ _).trans (zb_f (by omega)).symm))
              · exact (zU_a _ _ _ _ (by decide)).trans (zU_s _ _ _ _)
              · exact zU_s _ _ _ _
            · refine zV_iload_n (pc := 83) (i := 2) dX10_sheet_83 rfl rfl ?_
              refine zV_if_lt (pc := 84) (tgt := 106) dX10_sheet_84 (by decide) (by omega) (fun c_84 => ?_) (fun c_84 => absurd (by omega) c_84)
              refine zV_iconst (pc := 106) dX10_sheet_106 ?_
              refine zV_iret (pc := 107) dX10_sheet_107 trivial ⟨Nat.zero_le _, Nat.zero_le _⟩ ?_
              have e1 : zshA s x n = 1 := by unfold zshA; (repeat' split) <;> omega
              have f0 : zFr (zSg s 0) M (zU (zU (zU M 71 s 0) 72 s x) 73 s n) := (zFr.up (zFr.up (zFr.up zFr.rf (Or.inl ⟨Or.inl rfl, rfl⟩)) (Or.inl ⟨Or.inr (Or.inl rfl), rfl⟩)) (Or.inl ⟨Or.inr (Or.inr rfl), rfl⟩))
              refine ⟨rfl, by rw [e1], fun y => absurd e1 y, fun _ => ⟨by omega, by omega, ?_, ?_, ?_, fun q => by omega, by rw [if_neg cx]; exact f0⟩⟩
              · exact (zU_a _ _ _ _ (by decide)).trans ((zU_a _ _ _ _ (by decide)).trans ((zU_s _ _ _ _).trans (zb_f (by omega)).symm))
              · exact (zU_a _ _ _ _ (by decide)).trans (zU_s _ _ _ _)
              · exact zU_s _ _ _ _
        · refine zV_iload_n (pc := 38) (i := 3) dX10_sheet_38 rfl rfl ?_
          refine zV_if_ge (pc := 39) (tgt := 45) dX10_sheet_39 (by decide) (by omega) (fun c_39 => ?_) (fun c_39 => ?_)
          · by_cases cx : 0 ≤ x
            · refine zV_aload_n (pc := 45) (i := 0) dX10_sheet_45 rfl rfl ?_
              refine zV_get (pc := 46) (j := 39) dX10_sheet_46 flX10_54 (zOb_of rfl) rfl hS.e58_39 ?_
              refine zV_iload_n (pc := 49) (i := 1) dX10_sheet_49 rfl rfl ?_
              refine zV_iload_n (pc := 50) (i := 2) dX10_sheet_50 rfl rfl ?_
              refine zV_if_lt (pc := 51) (tgt := 58) dX10_sheet_51 (by decide) (by omega) (fun c_51 => absurd c_51 (by omega)) (fun c_51 => ?_)
              refine zV_iconst (pc := 54) dX10_sheet_54 ?_
              refine zV_goto (pc := 55) (tgt := 59) dX10_sheet_55 (by decide) ?_
              refine zV_zast (pc := 59) dX10_sheet_59 (zAr_of rfl : zAr 75 71 1 4) (by omega) (by omega) ?_
              refine zV_aload_n (pc := 60) (i := 0) dX10_sheet_60 rfl rfl ?_
              refine zV_get (pc := 61) (j := 40) dX10_sheet_61 flX10_57 (zOb_of rfl) rfl hS.e58_40 ?_
              refine zV_iload_n (pc := 64) (i := 1) dX10_sheet_64 rfl rfl ?_
              refine zV_iload_n (pc := 65) (i := 2) dX10_sheet_65 rfl rfl ?_
              refine zV_iast (pc := 66) dX10_sheet_66 (zAr_of rfl : zAr 75 72 0 4) (by omega) ?_
              refine zV_aload_n (pc := 67) (i := 0) dX10_sheet_67 rfl rfl ?_
              refine zV_get (pc := 68) (j := 41) dX10_sheet_68 flX10_60 (zOb_of rfl) rfl hS.e58_41 ?_
              refine zV_iload_n (pc := 71) (i := 1) dX10_sheet_71 rfl rfl ?_
              refine zV_iload_n (pc := 72) (i := 3) dX10_sheet_72 rfl rfl ?_
              refine zV_iast (pc := 73) dX10_sheet_73 (zAr_of rfl : zAr 75 73 0 4) (by omega) ?_
              refine zV_iconst (pc := 74) dX10_sheet_74 ?_
              refine zV_istore (pc := 75) dX10_sheet_75 rfl ?_
              try dsimp only [List.set_cons_succ, List.set_cons_zero]
              have e1 : zshA s x n = 1 := by unfold zshA; (repeat' split) <;> omega
              have f0 : zFr (zSg s n) M (zU (zU (zU M 71 s 1) 72 s x) 73 s n) := (zFr.up (zFr.up (zFr.up zFr.rf (Or.inl ⟨Or.inl rfl, rfl⟩)) (Or.inl ⟨Or.inr (Or.inl rfl), rfl⟩)) (Or.inl ⟨Or.inr (Or.inr rfl), rfl⟩))
              refine (kX10_sheL (hS.fr f0 zSg_st) (s := s) (x := x) (n := n) (by omega) (by omega) (by omega) n.toNat 0 _ (by omega) (by omega) (fun e e0 e1 => absurd e0 (by omega)) zFr.rf).mono ?_
              rintro v N9 M9 ⟨rfl, rfl, q, f⟩
              refine ⟨rfl, by rw [e1], fun y => absurd e1 y, fun _ => ⟨by omega, by omega, ?_, ?_, ?_, fun _ => q, by rw [if_pos cx]; exact f0.tr (f.mono (fun a j y => Or.inr y))⟩⟩
              · exact (f 71 s (by omega)).trans ((zU_a _ _ _ _ (by decide)).trans ((zU_a _ _ _ _ (by decide)).trans ((zU_s _ _ _ _).trans (zb_t (by omega)).symm)))
              · exact (f 72 s (by omega)).trans ((zU_a _ _ _ _ (by decide)).trans (zU_s _ _ _ _))
              · exact (f 73 s (by omega)).trans (zU_s _ _ _ _)
            · refine zV_aload_n (pc := 45) (i := 0) dX10_sheet_45 rfl rfl ?_
              refine zV_get (pc := 46) (j := 39) dX10_sheet_46 flX10_54 (zOb_of rfl) rfl hS.e58_39 ?_
              refine zV_iload_n (pc := 49) (i := 1) dX10_sheet_49 rfl rfl ?_
              refine zV_iload_n (pc := 50) (i := 2) dX10_sheet_50 rfl rfl ?_
              refine zV_if_lt (pc := 51) (tgt := 58) dX10_sheet_51 (by decide) (by omega) (fun c_51 => ?_) (fun c_51 => absurd (by omega) c_51)
              refine zV_iconst (pc := 58) dX10_sheet_58 ?_
              refine zV_zast (pc := 59) dX10_sheet_59 (zAr_of rfl : zAr 75 71 1 4) (by omega) (by omega) ?_
              refine zV_aload_n (pc := 60) (i := 0) dX10_sheet_60 rfl rfl ?_
              refine zV_get (pc := 61) (j := 40) dX10_sheet_61 flX10_57 (zOb_of rfl) rfl hS.e58_40 ?_
              refine zV_iload_n (pc := 64) (i := 1) dX10_sheet_64 rfl rfl ?_
              refine zV_iload_n (pc := 65) (i := 2) dX10_sheet_65 rfl rfl ?_
              refine zV_iast (pc := 66) dX10_sheet_66 (zAr_of rfl : zAr 75 72 0 4) (by omega) ?_
              refine zV_aload_n (pc := 67) (i := 0) dX10_sheet_67 rfl rfl ?_
              refine zV_get (pc := 68) (j := 41) dX10_sheet_68 flX10_60 (zOb_of rfl) rfl hS.e58_41 ?_
              refine zV_iload_n (pc := 71) (i := 1) dX10_sheet_71 rfl rfl ?_
              refine zV_iload_n (pc := 72) (i := 3) dX10_sheet_72 rfl rfl ?_
              refine zV_iast (pc := 73) dX10_sheet_73 (zAr_of rfl : zAr 75 73 0 4) (by omega) ?_
              refine zV_iconst (pc := 74) dX10_sheet_74 ?_
              refine zV_istore (pc := 75) dX10_sheet_75 rfl ?_
              try dsimp only [List.set_cons_succ, List.set_cons_zero]
              refine zV_iload (pc := 77) dX10_sheet_77 rfl ?_
              refine zV_iload_n (pc := 79) (i := 3) dX10_sheet_79 rfl rfl ?_
              refine zV_icmp_ge (pc := 80) (tgt := 106) dX10_sheet_80 (by decide) (by omega) (fun c_80 => ?_) (fun c_80 => ?_)
              · refine zV_iconst (pc := 106) dX10_sheet_106 ?_
                refine zV_iret (pc := 107) dX10_sheet_107 trivial ⟨Nat.zero_le _, Nat.zero_le _⟩ ?_
                have e1 : zshA s x n = 1 := by unfold zshA; (repeat' split) <;> omega
                have f0 : zFr (zSg s 0) M (zU (zU (zU M 71 s 0) 72 s x) 73 s n) := (zFr.up (zFr.up (zFr.up zFr.rf (Or.inl ⟨Or.inl rfl, rfl⟩)) (Or.inl ⟨Or.inr (Or.inl rfl), rfl⟩)) (Or.inl ⟨Or.inr (Or.inr rfl), rfl⟩))
                refine ⟨rfl, by rw [e1], fun y => absurd e1 y, fun _ => ⟨by omega, by omega, ?_, ?_, ?_, fun q => by omega, by rw [if_neg cx]; exact f0⟩⟩
                · exact (zU_a _ _ _ _ (by decide)).trans ((zU_a _ _ _ _ (by decide)).trans ((zU_s _ _ _ _).trans (zb_f (by omega)).symm))
                · exact (zU_a _ _ _ _ (by decide)).trans (zU_s _ _ _ _)
                · exact zU_s _ _ _ _
              · refine zV_iload_n (pc := 83) (i := 2) dX10_sheet_83 rfl rfl ?_
                refine zV_if_lt (pc := 84) (tgt := 106) dX10_sheet_84 (by decide) (by omega) (fun c_84 => ?_) (fun c_84 => absurd (by omega) c_84)
                refine zV_iconst (pc := 106) dX10_sheet_106 ?_
                refine zV_iret (pc := 107) dX10_sheet_107 trivial ⟨Nat.zero_le _, Nat.zero_le _⟩ ?_
                have e1 : zshA s x n = 1 := by unfold zshA; (repeat' split) <;> omega
                have f0 : zFr (zSg s 0) M (zU (zU (zU M 71 s 0) 72 s x) 73 s n) := (zFr.up (zFr.up (zFr.up zFr.rf (Or.inl ⟨Or.inl rfl, rfl⟩)) (Or.inl ⟨Or.inr (Or.inl rfl), rfl⟩)) (Or.inl ⟨Or.inr (Or.inr rfl), rfl⟩))
                refine ⟨rfl, by rw [e1], fun y => absurd e1 y, fun _ => ⟨by omega, by omega, ?_, ?_, ?_, fun q => by omega, by rw [if_neg cx]; exact f0⟩⟩
                · exact (zU_a _ _ _ _ (by decide)).trans ((zU_a _ _ _ _ (by decide)).trans ((zU_s _ _ _ _).trans (zb_f (by omega)).symm))
                · exact (zU_a _ _ _ _ (by decide)).trans (zU_s _ _ _ _)
                · exact zU_s _ _ _ _
          · refine zV_bipush (pc := 42) dX10_sheet_42 (by decide) ?_
            refine zV_iret (pc := 44) dX10_sheet_44 trivial ⟨Nat.zero_le _, Nat.zero_le _⟩ ?_
            have e : zshA s x n = -14 := by unfold zshA; (repeat' split) <;> omega
            exact ⟨rfl, by rw [e], fun _ => rfl, fun q => absurd (e.symm.trans q) (by decide)⟩
      · refine zV_iload_n (pc := 25) (i := 3) dX10_sheet_25 rfl rfl ?_
        refine zV_bipush (pc := 26) dX10_sheet_26 (by decide) ?_
        refine zV_icmp_le (pc := 28) (tgt := 34) dX10_sheet_28 (by decide) (by omega) (fun c_28 => ?_) (fun c_28 => ?_)
        · refine zV_iload_n (pc := 34) (i := 2) dX10_sheet_34 rfl rfl ?_
          refine zV_if_lt (pc := 35) (tgt := 45) dX10_sheet_35 (by decide) (by omega) (fun c_35 => ?_) (fun c_35 => ?_)
          · by_cases cx : 0 ≤ x
            · refine zV_aload_n (pc := 45) (i := 0) dX10_sheet_45 rfl rfl ?_
              refine zV_get (pc := 46) (j := 39) dX10_sheet_46 flX10_54 (zOb_of rfl) rfl hS.e58_39 ?_
              refine zV_iload_n (pc := 49) (i := 1) dX10_sheet_49 rfl rfl ?_
              refine zV_iload_n (pc := 50) (i := 2) dX10_sheet_50 rfl rfl ?_
              refine zV_if_lt (pc := 51) (tgt := 58) dX10_sheet_51 (by decide) (by omega) (fun c_51 => absurd c_51 (by omega)) (fun c_51 => ?_)
              refine zV_iconst (pc := 54) dX10_sheet_54 ?_
              refine zV_goto (pc := 55) (tgt := 59) dX10_sheet_55 (by decide) ?_
              refine zV_zast (pc := 59) dX10_sheet_59 (zAr_of rfl : zAr 75 71 1 4) (by omega) (by omega) ?_
              refine zV_aload_n (pc := 60) (i := 0) dX10_sheet_60 rfl rfl ?_
              refine zV_get (pc := 61) (j := 40) dX10_sheet_61 flX10_57 (zOb_of rfl) rfl hS.e58_40 ?_
              refine zV_iload_n (pc := 64) (i := 1) dX10_sheet_64 rfl rfl ?_
              refine zV_iload_n (pc := 65) (i := 2) dX10_sheet_65 rfl rfl ?_
              refine zV_iast (pc := 66) dX10_sheet_66 (zAr_of rfl : zAr 75 72 0 4) (by omega) ?_
              refine zV_aload_n (pc := 67) (i := 0) dX10_sheet_67 rfl rfl ?_
              refine zV_get (pc := 68) (j := 41) dX10_sheet_68 flX10_60 (zOb_of rfl) rfl hS.e58_41 ?_
              refine zV_iload_n (pc := 71) (i := 1) dX10_sheet_71 rfl rfl ?_
              refine zV_iload_n (pc := 72) (i := 3) dX10_sheet_72 rfl rfl ?_
              refine zV_iast (pc := 73) dX10_sheet_73 (zAr_of rfl : zAr 75 73 0 4) (by omega) ?_
              refine zV_iconst (pc := 74) dX10_sheet_74 ?_
              refine zV_istore (pc := 75) dX10_sheet_75 rfl ?_
              try dsimp only [List.set_cons_succ, List.set_cons_zero]
              have e1 : zshA s x n = 1 := by unfold zshA; (repeat' split) <;> omega
              have f0 : zFr (zSg s n) M (zU (zU (zU M 71 s 1) 72 s x) 73 s n) := (zFr.up (zFr.up (zFr.up zFr.rf (Or.inl ⟨Or.inl rfl, rfl⟩)) (Or.inl ⟨Or.inr (Or.inl rfl), rfl⟩)) (Or.inl ⟨Or.inr (Or.inr rfl), rfl⟩))
              refine (kX10_sheL (hS.fr f0 zSg_st) (s := s) (x := x) (n := n) (by omega) (by omega) (by omega) n.toNat 0 _ (by omega) (by omega) (fun e e0 e1 => absurd e0 (by omega)) zFr.rf).mono ?_
              rintro v N9 M9 ⟨rfl, rfl, q, f⟩
              refine ⟨rfl, by rw [e1], fun y => absurd e1 y, fun _ => ⟨by omega, by omega, ?_, ?_, ?_, fun _ => q, by rw [if_pos cx]; exact f0.tr (f.mono (fun a j y => Or.inr y))⟩⟩
              · exact (f 71 s (by omega)).trans ((zU_a _ _ _ _ (by decide)).trans ((zU_a _ _ _ _ (by decide)).trans ((zU_s _ _ _ _).trans (zb_t (by omega)).symm)))
              · exact (f 72 s (by omega)).trans ((zU_a _ _ _ _ (by decide)).trans (zU_s _ _ _ _))
              · exact (f 73 s (by omega)).trans (zU_s _ _ _ _)
            · refine zV_aload_n (pc := 45) (i := 0) dX10_sheet_45 rfl rfl ?_
              refine zV_get (pc := 46) (j := 39) dX10_sheet_46 flX10_54 (zOb_of rfl) rfl hS.e58_39 ?_
              refine zV_iload_n (pc := 49) (i := 1) dX10_sheet_49 rfl rfl ?_
              refine zV_iload_n (pc := 50) (i := 2) dX10_sheet_50 rfl rfl ?_
              refine zV_if_lt (pc := 51) (tgt := 58) dX10_sheet_51 (by decide) (by omega) (fun c_51 => ?_) (fun c_51 => absurd (by omega) c_51)
              refine zV_iconst (pc := 58) dX10_sheet_58 ?_
              refine zV_zast (pc := 59) dX10_sheet_59 (zAr_of rfl : zAr 75 71 1 4) (by omega) (by omega) ?_
              refine zV_aload_n (pc := 60) (i := 0) dX10_sheet_60 rfl rfl ?_
              refine zV_get (pc := 61) (j := 40) dX10_sheet_61 flX10_57 (zOb_of rfl) rfl hS.e58_40 ?_
              refine zV_iload_n (pc := 64) (i := 1) dX10_sheet_64 rfl rfl ?_
              refine zV_iload_n (pc := 65) (i := 2) dX10_sheet_65 rfl rfl ?_
              refine zV_iast (pc := 66) dX10_sheet_66 (zAr_of rfl : zAr 75 72 0 4) (by omega) ?_
              refine zV_aload_n (pc := 67) (i := 0) dX10_sheet_67 rfl rfl ?_
              refine zV_get (pc := 68) (j := 41) dX10_sheet_68 flX10_60 (zOb_of rfl) rfl hS.e58_41 ?_
              refine zV_iload_n (pc := 71) (i := 1) dX10_sheet_71 rfl rfl ?_
              refine zV_iload_n (pc := 72) (i := 3) dX10_sheet_72 rfl rfl ?_
              refine zV_iast (pc := 73) dX10_sheet_73 (zAr_of rfl : zAr 75 73 0 4) (by omega) ?_
              refine zV_iconst (pc := 74) dX10_sheet_74 ?_
              refine zV_istore (pc := 75) dX10_sheet_75 rfl ?_
              try dsimp only [List.set_cons_succ, List.set_cons_zero]
              refine zV_iload (pc := 77) dX10_sheet_77 rfl ?_
              refine zV_iload_n (pc := 79) (i := 3) dX10_sheet_79 rfl rfl ?_
              refine zV_icmp_ge (pc := 80) (tgt := 106) dX10_sheet_80 (by decide) (by omega) (fun c_80 => ?_) (fun c_80 => ?_)
              · refine zV_iconst (pc := 106) dX10_sheet_106 ?_
                refine zV_iret (pc := 107) dX10_sheet_107 trivial ⟨Nat.zero_le _, Nat.zero_le _⟩ ?_
                have e1 : zshA s x n = 1 := by unfold zshA; (repeat' split) <;> omega
                have f0 : zFr (zSg s 0) M (zU (zU (zU M 71 s 0) 72 s x) 73 s n) := (zFr.up (zFr.up (zFr.up zFr.rf (Or.inl ⟨Or.inl rfl, rfl⟩)) (Or.inl ⟨Or.inr (Or.inl rfl), rfl⟩)) (Or.inl ⟨Or.inr (Or.inr rfl), rfl⟩))
                refine ⟨rfl, by rw [e1], fun y => absurd e1 y, fun _ => ⟨by omega, by omega, ?_, ?_, ?_, fun q => by omega, by rw [if_neg cx]; exact f0⟩⟩
                · exact (zU_a _ _ _ _ (by decide)).trans ((zU_a _ _ _ _ (by decide)).trans ((zU_s _ _ _ _).trans (zb_f (by omega)).symm))
                · exact (zU_a _ _ _ _ (by decide)).trans (zU_s _ _ _ _)
                · exact zU_s _ _ _ _
              · refine zV_iload_n (pc := 83) (i := 2) dX10_sheet_83 rfl rfl ?_
                refine zV_if_lt (pc := 84) (tgt := 106) dX10_sheet_84 (by decide) (by omega) (fun c_84 => ?_) (fun c_84 => absurd (by omega) c_84)
                refine zV_iconst (pc := 106) dX10_sheet_106 ?_
                refine zV_iret (pc := 107) dX10_sheet_107 trivial ⟨Nat.zero_le _, Nat.zero_le _⟩ ?_
                have e1 : zshA s x n = 1 := by unfold zshA; (repeat' split) <;> omega
                have f0 : zFr (zSg s 0) M (zU (zU (zU M 71 s 0) 72 s x) 73 s n) := (zFr.up (zFr.up (zFr.up zFr.rf (Or.inl ⟨Or.inl rfl, rfl⟩)) (Or.inl ⟨Or.inr (Or.inl rfl), rfl⟩)) (Or.inl ⟨Or.inr (Or.inr rfl), rfl⟩))
                refine ⟨rfl, by rw [e1], fun y => absurd e1 y, fun _ => ⟨by omega, by omega, ?_, ?_, ?_, fun q => by omega, by rw [if_neg cx]; exact f0⟩⟩
                · exact (zU_a _ _ _ _ (by decide)).trans ((zU_a _ _ _ _ (by decide)).trans ((zU_s _ _ _ _).trans (zb_f (by omega)).symm))
                · exact (zU_a _ _ _ _ (by decide)).trans (zU_s _ _ _ _)
                · exact zU_s _ _ _ _
          · refine zV_iload_n (pc := 38) (i := 3) dX10_sheet_38 rfl rfl ?_
            refine zV_if_ge (pc := 39) (tgt := 45) dX10_sheet_39 (by decide) (by omega) (fun c_39 => ?_) (fun c_39 => ?_)
            · by_cases cx : 0 ≤ x
              · refine zV_aload_n (pc := 45) (i := 0) dX10_sheet_45 rfl rfl ?_
                refine zV_get (pc := 46) (j := 39) dX10_sheet_46 flX10_54 (zOb_of rfl) rfl hS.e58_39 ?_
                refine zV_iload_n (pc := 49) (i := 1) dX10_sheet_49 rfl rfl ?_
                refine zV_iload_n (pc := 50) (i := 2) dX10_sheet_50 rfl rfl ?_
                refine zV_if_lt (pc := 51) (tgt := 58) dX10_sheet_51 (by decide) (by omega) (fun c_51 => absurd c_51 (by omega)) (fun c_51 => ?_)
                refine zV_iconst (pc := 54) dX10_sheet_54 ?_
                refine zV_goto (pc := 55) (tgt := 59) dX10_sheet_55 (by decide) ?_
                refine zV_zast (pc := 59) dX10_sheet_59 (zAr_of rfl : zAr 75 71 1 4) (by omega) (by omega) ?_
                refine zV_aload_n (pc := 60) (i := 0) dX10_sheet_60 rfl rfl ?_
                refine zV_get (pc := 61) (j := 40) dX10_sheet_61 flX10_57 (zOb_of rfl) rfl hS.e58_40 ?_
                refine zV_iload_n (pc := 64) (i := 1) dX10_sheet_64 rfl rfl ?_
                refine zV_iload_n (pc := 65) (i := 2) dX10_sheet_65 rfl rfl ?_
                refine zV_iast (pc := 66) dX10_sheet_66 (zAr_of rfl : zAr 75 72 0 4) (by omega) ?_
                refine zV_aload_n (pc := 67) (i := 0) dX10_sheet_67 rfl rfl ?_
                refine zV_get (pc := 68) (j := 41) dX10_sheet_68 flX10_60 (zOb_of rfl) rfl hS.e58_41 ?_
                refine zV_iload_n (pc := 71) (i := 1) dX10_sheet_71 rfl rfl ?_
                refine zV_iload_n (pc := 72) (i := 3) dX10_sheet_72 rfl rfl ?_
                refine zV_iast (pc := 73) dX10_sheet_73 (zAr_of rfl : zAr 75 73 0 4) (by omega) ?_
                refine zV_iconst (pc := 74) dX10_sheet_74 ?_
                refine zV_istore (pc := 75) dX10_sheet_75 rfl ?_
                try dsimp only [List.set_cons_succ, List.set_cons_zero]
                have e1 : zshA s x n = 1 := by unfold zshA; (repeat' split) <;> omega
                have f0 : zFr (zSg s n) M (zU (zU (zU M 71 s 1) 72 s x) 73 s n) := (zFr.up (zFr.up (zFr.up zFr.rf (Or.inl ⟨Or.inl rfl, rfl⟩)) (Or.inl ⟨Or.inr (Or.inl rfl), rfl⟩)) (Or.inl ⟨Or.inr (Or.inr rfl), rfl⟩))
                refine (kX10_sheL (hS.fr f0 zSg_st) (s := s) (x := x) (n := n) (by omega) (by omega) (by omega) n.toNat 0 _ (by omega) (by omega) (fun e e0 e1 => absurd e0 (by omega)) zFr.rf).mono ?_
                rintro v N9 M9 ⟨rfl, rfl, q, f⟩
                refine ⟨rfl, by rw [e1], fun y => absurd e1 y, fun _ => ⟨by omega, by omega, ?_, ?_, ?_, fun _ => q, by rw [if_pos cx]; exact f0.tr (f.mono (fun a j y => Or.inr y))⟩⟩
                · exact (f 71 s (by omega)).trans ((zU_a _ _ _ _ (by decide)).trans ((zU_a _ _ _ _ (by decide)).trans ((zU_s _ _ _ _).trans (zb_t (by omega)).symm)))
                · exact (f 72 s (by omega)).trans ((zU_a _ _ _ _ (by decide)).trans (zU_s _ _ _ _))
                · exact (f 73 s (by omega)).trans (zU_s _ _ _ _)
              · refine zV_aload_n (pc := 45) (i := 0) dX10_sheet_45 rfl rfl ?_
                refine zV_get (pc := 46) (j := 39) dX10_sheet_46 flX10_54 (zOb_of rfl) rfl hS.e58_39 ?_
                refine zV_iload_n (pc := 49) (i := 1) dX10_sheet_49 rfl rfl ?_
                refine zV_iload_n (pc := 50) (i := 2) dX10_sheet_50 rfl rfl ?_
                refine zV_if_lt (pc := 51) (tgt := 58) dX10_sheet_51 (by decide) (by omega) (fun c_51 => ?_) (fun c_51 => absurd (by omega) c_51)
                refine zV_iconst (pc := 58) dX10_sheet_58 ?_
                refine zV_zast (pc := 59) dX10_sheet_59 (zAr_of rfl : zAr 75 71 1 4) (by omega) (by omega) ?_
                refine zV_aload_n (pc := 60) (i := 0) dX10_sheet_60 rfl rfl ?_
                refine zV_get (pc := 61) (j := 40) dX10_sheet_61 flX10_57 (zOb_of rfl) rfl hS.e58_40 ?_
                refine zV_iload_n (pc := 64) (i := 1) dX10_sheet_64 rfl rfl ?_
                refine zV_iload_n (pc := 65) (i := 2) dX10_sheet_65 rfl rfl ?_
                refine zV_iast (pc := 66) dX10_sheet_66 (zAr_of rfl : zAr 75 72 0 4) (by omega) ?_
                refine zV_aload_n (pc := 67) (i := 0) dX10_sheet_67 rfl rfl ?_
                refine zV_get (pc := 68) (j := 41) dX10_sheet_68 flX10_60 (zOb_of rfl) rfl hS.e58_41 ?_
                refine zV_iload_n (pc := 71) (i := 1) dX10_sheet_71 rfl rfl ?_
                refine zV_iload_n (pc := 72) (i := 3) dX10_sheet_72 rfl rfl ?_
                refine zV_iast (pc := 73) dX10_sheet_73 (zAr_of rfl : zAr 75 73 0 4) (by omega) ?_
                refine zV_iconst (pc := 74) dX10_sheet_74 ?_
                refine zV_istore (pc := 75) dX10_sheet_75 rfl ?_
                try dsimp only [List.set_cons_succ, List.set_cons_zero]
                refine zV_iload (pc := 77) dX10_sheet_77 rfl ?_
                refine zV_iload_n (pc := 79) (i := 3) dX10_sheet_79 rfl rfl ?_
                refine zV_icmp_ge (pc := 80) (tgt := 106) dX10_sheet_80 (by decide) (by omega) (fun c_80 => ?_) (fun c_80 => ?_)
                · refine zV_iconst (pc := 106) dX10_sheet_106 ?_
                  refine zV_iret (pc := 107) dX10_sheet_107 trivial ⟨Nat.zero_le _, Nat.zero_le _⟩ ?_
                  have e1 : zshA s x n = 1 := by unfold zshA; (repeat' split) <;> omega
                  have f0 : zFr (zSg s 0) M (zU (zU (zU M 71 s 0) 72 s x) 73 s n) := (zFr.up (zFr.up (zFr.up zFr.rf (Or.inl ⟨Or.inl rfl, rfl⟩)) (Or.inl ⟨Or.inr (Or.inl rfl), rfl⟩)) (Or.inl ⟨Or.inr (Or.inr rfl), rfl⟩))
                  refine ⟨rfl, by rw [e1], fun y => absurd e1 y, fun _ => ⟨by omega, by omega, ?_, ?_, ?_, fun q => by omega, by rw [if_neg cx]; exact f0⟩⟩
                  · exact (zU_a _ _ _ _ (by decide)).trans ((zU_a _ _ _ _ (by decide)).trans ((zU_s _ _ _ _).trans (zb_f (by omega)).symm))
                  · exact (zU_a _ _ _ _ (by decide)).trans (zU_s _ _ _ _)
                  · exact zU_s _ _ _ _
                · refine zV_iload_n (pc := 83) (i := 2) dX10_sheet_83 rfl rfl ?_
                  refine zV_if_lt (pc := 84) (tgt := 106) dX10_sheet_84 (by decide) (by omega) (fun c_84 => ?_) (fun c_84 => absurd (by omega) c_84)
                  refine zV_iconst (pc := 106) dX10_sheet_106 ?_
                  refine zV_iret (pc := 107) dX10_sheet_107 trivial ⟨Nat.zero_le _, Nat.zero_le _⟩ ?_
                  have e1 : zshA s x n = 1 := by unfold zshA; (repeat' split) <;> omega
                  have f0 : zFr (zSg s 0) M (zU (zU (zU M 71 s 0) 72 s x) 73 s n) := (zFr.up (zFr.up (zFr.up zFr.rf (Or.inl ⟨Or.inl rfl, rfl⟩)) (Or.inl ⟨Or.inr (Or.inl rfl), rfl⟩)) (Or.inl ⟨Or.inr (Or.inr rfl), rfl⟩))
                  refine ⟨rfl, by rw [e1], fun y => absurd e1 y, fun _ => ⟨by omega, by omega, ?_, ?_, ?_, fun q => by omega, by rw [if_neg cx]; exact f0⟩⟩
                  · exact (zU_a _ _ _ _ (by decide)).trans ((zU_a _ _ _ _ (by decide)).trans ((zU_s _ _ _ _).trans (zb_f (by omega)).symm))
                  · exact (zU_a _ _ _ _ (by decide)).trans (zU_s _ _ _ _)
                  · exact zU_s _ _ _ _
            · refine zV_bipush (pc := 42) dX10_sheet_42 (by decide) ?_
              refine zV_iret (pc := 44) dX10_sheet_44 trivial ⟨Nat.zero_le _, Nat.zero_le _⟩ ?_
              have e : zshA s x n = -14 := by unfold zshA; (repeat' split) <;> omega
              exact ⟨rfl, by rw [e], fun _ => rfl, fun q => absurd (e.symm.trans q) (by decide)⟩
        · refine zV_bipush (pc := 31) dX10_sheet_31 (by decide) ?_
          refine zV_iret (pc := 33) dX10_sheet_33 trivial ⟨Nat.zero_le _, Nat.zero_le _⟩ ?_
          have e : zshA s x n = -2 := by unfold zshA; (repeat' split) <;> omega
          exact ⟨rfl, by rw [e], fun _ => rfl, fun q => absurd (e.symm.trans q) (by decide)⟩
set_option maxRecDepth 20000 in
set_option maxHeartbeats 2000000 in
theorem kX10_cell (hS : zSt M) (hG : zShg M) {s i v : Int} (hs : -2147483648 ≤ s ∧ s ≤ 2147483647) (hi : -2147483648 ≤ i ∧ i ≤ 2147483647) (hv : -2147483648 ≤ v ∧ v ≤ 2147483647) : zK g yX10_cell xX10_cell [zr 58, zi s, zi i, zi v] 75 M (fun w N' M1 => N' = 75 ∧ w = some (zi (zceG M s i)) ∧ M1 = if zceG M s i = 1 then zU M 74 (40 * s + i) (zct8 (M 72 s) v) else M) := by
  refine zK_of (ls0 := [zr 58, zi s, zi i, zi v]) (by decide) rfl (by decide) rfl (Nat.le_of_ble_eq_true rfl) ?_
  refine zV_iload_n (pc := 0) (i := 1) dX10_cell_0 rfl rfl ?_
  refine zV_isp (pc := 1) dX10_cell_1 klX10_408 mX10_isSheet rfl ⟨Nat.zero_le _, Nat.zero_le _⟩ (kX10_isSheet (by omega)) rfl rfl (Nat.le_of_ble_eq_true rfl) ?_
  refine zV_if_neb (pc := 4) (tgt := 10) dX10_cell_4 (by decide) (fun c_4 => ?_) (fun c_4 => ?_)
  · have hg := hG.1 s (by omega) (by omega)
    refine zV_aload_n (pc := 10) (i := 0) dX10_cell_10 rfl rfl ?_
    refine zV_get (pc := 11) (j := 39) dX10_cell_11 flX10_54 (zOb_of rfl) rfl hS.e58_39 ?_
    refine zV_iload_n (pc := 14) (i := 1) dX10_cell_14 rfl rfl ?_
    refine zV_zald (pc := 15) dX10_cell_15 (zAr_of rfl : zAr 75 71 1 4) (by omega) rfl ?_
    refine zV_if_ne (pc := 16) (tgt := 22) dX10_cell_16 (by decide) (by omega) (fun c_16 => ?_) (fun c_16 => ?_)
    · refine zV_iload_n (pc := 22) (i := 2) dX10_cell_22 rfl rfl ?_
      refine zV_i2l (pc := 23) dX10_cell_23 (by omega) ?_
      refine zV_lconst0 (pc := 24) dX10_cell_24 ?_
      refine zV_aload_n (pc := 25) (i := 0) dX10_cell_25 rfl rfl ?_
      refine zV_get (pc := 26) (j := 41) dX10_cell_26 flX10_60 (zOb_of rfl) rfl hS.e58_41 ?_
      refine zV_iload_n (pc := 29) (i := 1) dX10_cell_29 rfl rfl ?_
      refine zV_iald (pc := 30) dX10_cell_30 (zAr_of rfl : zAr 75 73 0 4) (by omega) rfl ?_
      refine zV_iconst (pc := 31) dX10_cell_31 ?_
      refine zV_isub (pc := 32) dX10_cell_32 ?_
      refine zV_i2l (pc := 33) dX10_cell_33 (by omega) ?_
      refine zV_isp (pc := 34) dX10_cell_34 klX10_76 mX10_in rfl ⟨Nat.zero_le _, Nat.zero_le _⟩ (kX10_in (by omega) (by omega) (by omega)) rfl rfl (Nat.le_of_ble_eq_true rfl) ?_
      refine zV_if_neb (pc := 37) (tgt := 43) dX10_cell_37 (by decide) (fun c_37 => ?_) (fun c_37 => ?_)
      · refine zV_aload_n (pc := 43) (i := 0) dX10_cell_43 rfl rfl ?_
        refine zV_get (pc := 44) (j := 42) dX10_cell_44 flX10_63 (zOb_of rfl) rfl hS.e58_42 ?_
        refine zV_bipush (pc := 47) dX10_cell_47 (by decide) ?_
        refine zV_iload_n (pc := 49) (i := 1) dX10_cell_49 rfl rfl ?_
        refine zV_imul (pc := 50) dX10_cell_50 ?_
        refine zV_iload_n (pc := 51) (i := 2) dX10_cell_51 rfl rfl ?_
        refine zV_iadd (pc := 52) dX10_cell_52 ?_
        refine zV_aload_n (pc := 53) (i := 0) dX10_cell_53 rfl rfl ?_
        refine zV_get (pc := 54) (j := 40) dX10_cell_54 flX10_57 (zOb_of rfl) rfl hS.e58_40 ?_
        refine zV_iload_n (pc := 57) (i := 1) dX10_cell_57 rfl rfl ?_
        refine zV_iald (pc := 58) dX10_cell_58 (zAr_of rfl : zAr 75 72 0 4) (by omega) rfl ?_
        refine zV_if_ne (pc := 59) (tgt := 67) dX10_cell_59 (by decide) (by omega) (fun c_59 => ?_) (fun c_59 => ?_)
        · refine zV_aload_n (pc := 67) (i := 0) dX10_cell_67 rfl rfl ?_
          refine zV_get (pc := 68) (j := 40) dX10_cell_68 flX10_57 (zOb_of rfl) rfl hS.e58_40 ?_
          refine zV_iload_n (pc := 71) (i := 1) dX10_cell_71 rfl rfl ?_
          refine zV_iald (pc := 72) dX10_cell_72 (zAr_of rfl : zAr 75 72 0 4) (by omega) rfl ?_
          refine zV_iconst (pc := 73) dX10_cell_73 ?_
          refine zV_icmp_ne (pc := 74) (tgt := 82) dX10_cell_74 (by decide) (by omega) (fun c_74 => ?_) (fun c_74 => ?_)
          · refine zV_iload_n (pc := 82) (i := 3) dX10_cell_82 rfl rfl ?_
            refine zV_iast (pc := 83) dX10_cell_83 (zAr_of rfl : zAr 75 74 0 160) (by omega) ?_
            refine zV_iconst (pc := 84) dX10_cell_84 ?_
            refine zV_iret (pc := 85) dX10_cell_85 trivial ⟨Nat.zero_le _, Nat.zero_le _⟩ ?_
            have e : zceG M s i = 1 := by unfold zceG; (repeat' split) <;> omega
            refine ⟨rfl, by rw [e], ?_⟩
            rw [if_pos e]
            unfold zct8
            first
              | rw [if_pos c_59]
              | rw [if_neg c_59, if_pos c_74]
              | rw [if_neg c_59, if_neg c_74]
          · refine zV_iload_n (pc := 77) (i := 3) dX10_cell_77 rfl rfl ?_
            refine zV_i2s (pc := 78) dX10_cell_78 (z_i2s hv) ?_
            refine zV_goto (pc := 79) (tgt := 83) dX10_cell_79 (by decide) ?_
            refine zV_iast (pc := 83) dX10_cell_83 (zAr_of rfl : zAr 75 74 0 160) (by omega) ?_
            refine zV_iconst (pc := 84) dX10_cell_84 ?_
            refine zV_iret (pc := 85) dX10_cell_85 trivial ⟨Nat.zero_le _, Nat.zero_le _⟩ ?_
            have e : zceG M s i = 1 := by unfold zceG; (repeat' split) <;> omega
            refine ⟨rfl, by rw [e], ?_⟩
            rw [if_pos e]
            unfold zct8
            first
              | rw [if_pos c_59]
              | rw [if_neg c_59, if_pos c_74]
              | rw [if_neg c_59, if_neg c_74]
        · refine zV_iload_n (pc := 62) (i := 3) dX10_cell_62 rfl rfl ?_
          refine zV_i2b (pc := 63) dX10_cell_63 (z_i2b hv) ?_
          refine zV_goto (pc := 64) (tgt := 83) dX10_cell_64 (by decide) ?_
          refine zV_iast (pc := 83) dX10_cell_83 (zAr_of rfl : zAr 75 74 0 160) (by omega) ?_
          refine zV_iconst (pc := 84) dX10_cell_84 ?_
          refine zV_iret (pc := 85) dX10_cell_85 trivial ⟨Nat.zero_le _, Nat.zero_le _⟩ ?_
          have e : zceG M s i = 1 := by unfold zceG; (repeat' split) <;> omega
          refine ⟨rfl, by rw [e], ?_⟩
          rw [if_pos e]
          unfold zct8
          first
            | rw [if_pos c_59]
            | rw [if_neg c_59, if_pos c_74]
            | rw [if_neg c_59, if_neg c_74]
      · refine zV_bipush (pc := 40) dX10_cell_40 (by decide) ?_
        refine zV_iret (pc := 42) dX10_cell_42 trivial ⟨Nat.zero_le _, Nat.zero_le _⟩ ?_
        have e : zceG M s i = -12 := by unfold zceG; (repeat' split) <;> omega
        exact ⟨rfl, by rw [e], by rw [if_neg (by rw [e]; decide)]⟩
    · refine zV_bipush (pc := 19) dX10_cell_19 (by decide) ?_
      refine zV_iret (pc := 21) dX10_cell_21 trivial ⟨Nat.zero_le _, Nat.zero_le _⟩ ?_
      have e : zceG M s i = -11 := by unfold zceG; (repeat' split) <;> omega
      exact ⟨rfl, by rw [e], by rw [if_neg (by rw [e]; decide)]⟩
  · refine zV_bipush (pc := 7) dX10_cell_7 (by decide) ?_
    refine zV_iret (pc := 9) dX10_cell_9 trivial ⟨Nat.zero_le _, Nat.zero_le _⟩ ?_
    have e : zceG M s i = -2 := by unfold zceG; (repeat' split) <;> omega
    exact ⟨rfl, by rw [e], by rw [if_neg (by rw [e]; decide)]⟩
set_option maxRecDepth 20000 in
set_option maxHeartbeats 2000000 in
theorem kX10_cpD (hS : zSt M) (hG : zShg M) {s i t j n : Int} (hs : 0 ≤ s ∧ s < 4) (ht : 0 ≤ t ∧ t < 4) (hi : 0 ≤ i ∧ i + n ≤ 40) (hj : 0 ≤ j ∧ j + n ≤ 40) (hn : 0 ≤ n) (hd : 40 * t + j ≤ 40 * s + i ∨ 40 * s + i + n ≤ 40 * t + j) : ∀ (k : Nat) (q : Int) (M1 : zM) (w8 : zv), q + k = n → 0 ≤ q → M1 = zcpy M 74 (40 * s + i) 74 (40 * t + j) q → zV g xX10_copy (zPq (zi n) 75 (fun M1 => M1 = zcpy M 74 (40 * s + i) 74 (40 * t + j) n)) 121 [zr 58, zi s, zi i, zi t, zi j, zi n, zi 0, zi q, w8] [] 75 M1 0 0 := by
  intro k
  induction k with
  | zero =>
    intro q M1 w8 h1 h2 h3
    subst h3
    have hS1 : zSt (zcpy M 74 (40 * s + i) 74 (40 * t + j) q) := hS.fr (C := fun a _ => a = 74) (fun a e c => zcpy_o (fun y => c y.1)) (by decide)
    refine zV_iload (pc := 121) dX10_copy_121 rfl ?_
    refine zV_iload (pc := 123) dX10_copy_123 rfl ?_
    refine zV_icmp_ge (pc := 125) (tgt := 182) dX10_copy_125 (by decide) (by omega) (fun c_125 => ?_) (fun c_125 => absurd (by omega) c_125)
    refine zV_iload (pc := 182) dX10_copy_182 rfl ?_
    refine zV_iret (pc := 184) dX10_copy_184 trivial ⟨Nat.zero_le _, Nat.zero_le _⟩ ?_
    have e : q = n := by omega
    subst e
    exact ⟨rfl, rfl, rfl⟩
  | succ k ih =>
    intro q M1 w8 h1 h2 h3
    subst h3
    have hS1 : zSt (zcpy M 74 (40 * s + i) 74 (40 * t + j) q) := hS.fr (C := fun a _ => a = 74) (fun a e c => zcpy_o (fun y => c y.1)) (by decide)
    refine zV_iload (pc := 121) dX10_copy_121 rfl ?_
    refine zV_iload (pc := 123) dX10_copy_123 rfl ?_
    refine zV_icmp_ge (pc := 125) (tgt := 182) dX10_copy_125 (by decide) (by omega) (fun c_125 => absurd c_125 (by omega)) (fun c_125 => ?_)
    refine zV_iload (pc := 128) dX10_copy_128 rfl ?_
    refine zV_if_eq (pc := 130) (tgt := 143) dX10_copy_130 (by decide) (by omega) (fun c_130 => ?_) (fun c_130 => absurd rfl c_130)
    refine zV_iload (pc := 143) dX10_copy_143 rfl ?_
    refine zV_istore (pc := 145) dX10_copy_145 rfl ?_
    try dsimp only [List.set_cons_succ, List.set_cons_zero]
    refine zV_aload_n (pc := 147) (i := 0) dX10_copy_147 rfl rfl ?_
    refine zV_get (pc := 148) (j := 42) dX10_copy_148 flX10_63 (zOb_of rfl) rfl hS1.e58_42 ?_
    refine zV_bipush (pc := 151) dX10_copy_151 (by decide) ?_
    refine zV_iload_n (pc := 153) (i := 3) dX10_copy_153 rfl rfl ?_
    refine zV_imul (pc := 154) dX10_copy_154 ?_
    refine zV_iload (pc := 155) dX10_copy_155 rfl ?_
    refine zV_iadd (pc := 157) dX10_copy_157 ?_
    refine zV_iload (pc := 158) dX10_copy_158 rfl ?_
    refine zV_iadd (pc := 160) dX10_copy_160 ?_
    refine zV_aload_n (pc := 161) (i := 0) dX10_copy_161 rfl rfl ?_
    refine zV_get (pc := 162) (j := 42) dX10_copy_162 flX10_63 (zOb_of rfl) rfl hS1.e58_42 ?_
    refine zV_bipush (pc := 165) dX10_copy_165 (by decide) ?_
    refine zV_iload_n (pc := 167) (i := 1) dX10_copy_167 rfl rfl ?_
    refine zV_imul (pc := 168) dX10_copy_168 ?_
    refine zV_iload_n (pc := 169) (i := 2) dX10_copy_169 rfl rfl ?_
    refine zV_iadd (pc := 170) dX10_copy_170 ?_
    refine zV_iload (pc := 171) dX10_copy_171 rfl ?_
    refine zV_iadd (pc := 173) dX10_copy_173 ?_
    refine zV_iald (pc := 174) dX10_copy_174 (zAr_of rfl : zAr 75 74 0 160) (by omega) (zcpy_o (by omega)) ?_
    refine zV_iast (pc := 175) dX10_copy_175 (zAr_of rfl : zAr 75 74 0 160) (by omega) ?_
    refine zV_iinc (pc := 176) dX10_copy_176 rfl rfl ?_
    try dsimp only [List.set_cons_succ, List.set_cons_zero]
    refine zV_goto (pc := 179) (tgt := 121) dX10_copy_179 (by decide) ?_
    exact ih (q + 1) _ _ (by omega) (by omega) (zcpy_n h2)
set_option maxRecDepth 20000 in
set_option maxHeartbeats 2000000 in
theorem kX10_cpU (hS : zSt M) (hG : zShg M) {s i t j n : Int} (hs : 0 ≤ s ∧ s < 4) (ht : 0 ≤ t ∧ t < 4) (hi : 0 ≤ i ∧ i + n ≤ 40) (hj : 0 ≤ j ∧ j + n ≤ 40) (hn : 0 ≤ n) (hd : 40 * s + i < 40 * t + j) : ∀ (k : Nat) (q : Int) (M1 : zM) (w8 : zv), q + k = n → 0 ≤ q → M1 = zcpy M 74 (40 * s + i + (n - q)) 74 (40 * t + j + (n - q)) q → zV g xX10_copy (zPq (zi n) 75 (fun M1 => M1 = zcpy M 74 (40 * s + i) 74 (40 * t + j) n)) 121 [zr 58, zi s, zi i, zi t, zi j, zi n, zi 1, zi q, w8] [] 75 M1 0 0 := by
  intro k
  induction k with
  | zero =>
    intro q M1 w8 h1 h2 h3
    subst h3
    have hS1 : zSt (zcpy M 74 (40 * s + i + (n - q)) 74 (40 * t + j + (n - q)) q) := hS.fr (C := fun a _ => a = 74) (fun a e c => zcpy_o (fun y => c y.1)) (by decide)
    refine zV_iload (pc := 121) dX10_copy_121 rfl ?_
    refine zV_iload (pc := 123) dX10_copy_123 rfl ?_
    refine zV_icmp_ge (pc := 125) (tgt := 182) dX10_copy_125 (by decide) (by omega) (fun c_125 => ?_) (fun c_125 => absurd (by omega) c_125)
    refine zV_iload (pc := 182) dX10_copy_182 rfl ?_
    refine zV_iret (pc := 184) dX10_copy_184 trivial ⟨Nat.zero_le _, Nat.zero_le _⟩ ?_
    have e : q = n := by omega
    subst e
    exact ⟨rfl, rfl, by rw [show 40 * s + i + (q - q) = 40 * s + i by omega, show 40 * t + j + (q - q) = 40 * t + j by omega]⟩
  | succ k ih =>
    intro q M1 w8 h1 h2 h3
    subst h3
    have hS1 : zSt (zcpy M 74 (40 * s + i + (n - q)) 74 (40 * t + j + (n - q)) q) := hS.fr (C := fun a _ => a = 74) (fun a e c => zcpy_o (fun y => c y.1)) (by decide)
    refine zV_iload (pc := 121) dX10_copy_121 rfl ?_
    refine zV_iload (pc := 123) dX10_copy_123 rfl ?_
    refine zV_icmp_ge (pc := 125) (tgt := 182) dX10_copy_125 (by decide) (by omega) (fun c_125 => absurd c_125 (by omega)) (fun c_125 => ?_)
    refine zV_iload (pc := 128) dX10_copy_128 rfl ?_
    refine zV_if_eq (pc := 130) (tgt := 143) dX10_copy_130 (by decide) (by omega) (fun c_130 => absurd c_130 (by decide)) (fun c_130 => ?_)
    refine zV_iload (pc := 133) dX10_copy_133 rfl ?_
    refine zV_iconst (pc := 135) dX10_copy_135 ?_
    refine zV_isub (pc := 136) dX10_copy_136 ?_
    refine zV_iload (pc := 137) dX10_copy_137 rfl ?_
    refine zV_isub (pc := 139) dX10_copy_139 ?_
    refine zV_goto (pc := 140) (tgt := 145) dX10_copy_140 (by decide) ?_
    refine zV_istore (pc := 145) dX10_copy_145 rfl ?_
    try dsimp only [List.set_cons_succ, List.set_cons_zero]
    refine zV_aload_n (pc := 147) (i := 0) dX10_copy_147 rfl rfl ?_
    refine zV_get (pc := 148) (j := 42) dX10_copy_148 flX10_63 (zOb_of rfl) rfl hS1.e58_42 ?_
    refine zV_bipush (pc := 151) dX10_copy_151 (by decide) ?_
    refine zV_iload_n (pc := 153) (i := 3) dX10_copy_153 rfl rfl ?_
    refine zV_imul (pc := 154) dX10_copy_154 ?_
    refine zV_iload (pc := 155) dX10_copy_155 rfl ?_
    refine zV_iadd (pc := 157) dX10_copy_157 ?_
    refine zV_iload (pc := 158) dX10_copy_158 rfl ?_
    refine zV_iadd (pc := 160) dX10_copy_160 ?_
    refine zV_aload_n (pc := 161) (i := 0) dX10_copy_161 rfl rfl ?_
    refine zV_get (pc := 162) (j := 42) dX10_copy_162 flX10_63 (zOb_of rfl) rfl hS1.e58_42 ?_
    refine zV_bipush (pc := 165) dX10_copy_165 (by decide) ?_
    refine zV_iload_n (pc := 167) (i := 1) dX10_copy_167 rfl rfl ?_
    refine zV_imul (pc := 168) dX10_copy_168 ?_
    refine zV_iload_n (pc := 169) (i := 2) dX10_copy_169 rfl rfl ?_
    refine zV_iadd (pc := 170) dX10_copy_170 ?_
    refine zV_iload (pc := 171) dX10_copy_171 rfl ?_
    refine zV_iadd (pc := 173) dX10_copy_173 ?_
    refine zV_iald (pc := 174) dX10_copy_174 (zAr_of rfl : zAr 75 74 0 160) (by omega) (zcpy_o (by omega)) ?_
    refine zV_iast (pc := 175) dX10_copy_175 (zAr_of rfl : zAr 75 74 0 160) (by omega) ?_
    refine zV_iinc (pc := 176) dX10_copy_176 rfl rfl ?_
    try dsimp only [List.set_cons_succ, List.set_cons_zero]
    refine zV_goto (pc := 179) (tgt := 121) dX10_copy_179 (by decide) ?_
    exact ih (q + 1) _ _ (by omega) (by omega) (by have := zcpy_p (M := M) (a := 74) (i := 40 * s + i + (n - 1 - q)) (j := 40 * t + j + (n - 1 - q)) h2; rw [show 40 * s + i + (n - 1 - q) + 1 = 40 * s + i + (n - q) by omega, show 40 * t + j + (n - 1 - q) + 1 = 40 * t + j + (n - q) by omega] at this; rw [show n - (q + 1) = n - 1 - q by omega]; exact this)
set_option maxRecDepth 20000 in
set_option maxHeartbeats 2000000 in
theorem kX10_copy (hS : zSt M) (hG : zShg M) {s i t j n : Int} (hs : -2147483648 ≤ s ∧ s ≤ 2147483647) (hi : -2147483648 ≤ i ∧ i ≤ 2147483647) (ht : -2147483648 ≤ t ∧ t ≤ 2147483647) (hj : -2147483648 ≤ j ∧ j ≤ 2147483647) (hn : -2147483648 ≤ n ∧ n ≤ 2147483647) : zK g yX10_copy xX10_copy [zr 58, zi s, zi i, zi t, zi j, zi n] 75 M (fun w N' M1 => N' = 75 ∧ w = some (zi (zcoG M s i t j n)) ∧ M1 = if 0 ≤ zcoG M s i t j n then zcpy M 74 (40 * s + i) 74 (40 * t + j) n else M) := by
  refine zK_of (ls0 := [zr 58, zi s, zi i, zi t, zi j, zi n, (3, 0), (3, 0), (3, 0)]) (by decide) rfl (by decide) rfl (Nat.le_of_ble_eq_true rfl) ?_
  refine zV_iload_n (pc := 0) (i := 1) dX10_copy_0 rfl rfl ?_
  refine zV_isp (pc := 1) dX10_copy_1 klX10_408 mX10_isSheet rfl ⟨Nat.zero_le _, Nat.zero_le _⟩ (kX10_isSheet (by omega)) rfl rfl (Nat.le_of_ble_eq_true rfl) ?_
  refine zV_if_eqb (pc := 4) (tgt := 14) dX10_copy_4 (by decide) (fun c_4 => ?_) (fun c_4 => ?_)
  · refine zV_bipush (pc := 14) dX10_copy_14 (by decide) ?_
    refine zV_iret (pc := 16) dX10_copy_16 trivial ⟨Nat.zero_le _, Nat.zero_le _⟩ ?_
    have e : zcoG M s i t j n = -2 := by unfold zcoG; (repeat' split) <;> omega
    exact ⟨rfl, by rw [e], by rw [if_neg (by rw [e]; decide)]⟩
  · refine zV_iload_n (pc := 7) (i := 3) dX10_copy_7 rfl rfl ?_
    refine zV_isp (pc := 8) dX10_copy_8 klX10_408 mX10_isSheet rfl ⟨Nat.zero_le _, Nat.zero_le _⟩ (kX10_isSheet (by omega)) rfl rfl (Nat.le_of_ble_eq_true rfl) ?_
    refine zV_if_neb (pc := 11) (tgt := 17) dX10_copy_11 (by decide) (fun c_11 => ?_) (fun c_11 => ?_)
    · have hgs := hG.1 s (by omega) (by omega)
      have hgt := hG.1 t (by omega) (by omega)
      refine zV_aload_n (pc := 17) (i := 0) dX10_copy_17 rfl rfl ?_
      refine zV_get (pc := 18) (j := 39) dX10_copy_18 flX10_54 (zOb_of rfl) rfl hS.e58_39 ?_
      refine zV_iload_n (pc := 21) (i := 1) dX10_copy_21 rfl rfl ?_
      refine zV_zald (pc := 22) dX10_copy_22 (zAr_of rfl : zAr 75 71 1 4) (by omega) rfl ?_
      refine zV_if_eq (pc := 23) (tgt := 35) dX10_copy_23 (by decide) (by omega) (fun c_23 => ?_) (fun c_23 => ?_)
      · refine zV_bipush (pc := 35) dX10_copy_35 (by decide) ?_
        refine zV_iret (pc := 37) dX10_copy_37 trivial ⟨Nat.zero_le _, Nat.zero_le _⟩ ?_
        have e : zcoG M s i t j n = -11 := by unfold zcoG; (repeat' split) <;> omega
        exact ⟨rfl, by rw [e], by rw [if_neg (by rw [e]; decide)]⟩
      · refine zV_aload_n (pc := 26) (i := 0) dX10_copy_26 rfl rfl ?_
        refine zV_get (pc := 27) (j := 39) dX10_copy_27 flX10_54 (zOb_of rfl) rfl hS.e58_39 ?_
        refine zV_iload_n (pc := 30) (i := 3) dX10_copy_30 rfl rfl ?_
        refine zV_zald (pc := 31) dX10_copy_31 (zAr_of rfl : zAr 75 71 1 4) (by omega) rfl ?_
        refine zV_if_ne (pc := 32) (tgt := 38) dX10_copy_32 (by decide) (by omega) (fun c_32 => ?_) (fun c_32 => ?_)
        · refine zV_aload_n (pc := 38) (i := 0) dX10_copy_38 rfl rfl ?_
          refine zV_get (pc := 39) (j := 40) dX10_copy_39 flX10_57 (zOb_of rfl) rfl hS.e58_40 ?_
          refine zV_iload_n (pc := 42) (i := 1) dX10_copy_42 rfl rfl ?_
          refine zV_iald (pc := 43) dX10_copy_43 (zAr_of rfl : zAr 75 72 0 4) (by omega) rfl ?_
          refine zV_aload_n (pc := 44) (i := 0) dX10_copy_44 rfl rfl ?_
          refine zV_get (pc := 45) (j := 40) dX10_copy_45 flX10_57 (zOb_of rfl) rfl hS.e58_40 ?_
          refine zV_iload_n (pc := 48) (i := 3) dX10_copy_48 rfl rfl ?_
          refine zV_iald (pc := 49) dX10_copy_49 (zAr_of rfl : zAr 75 72 0 4) (by omega) rfl ?_
          refine zV_icmp_eq (pc := 50) (tgt := 56) dX10_copy_50 (by decide) (by omega) (fun c_50 => ?_) (fun c_50 => ?_)
          · refine zV_iload (pc := 56) dX10_copy_56 rfl ?_
            refine zV_if_lt (pc := 58) (tgt := 97) dX10_copy_58 (by decide) (by omega) (fun c_58 => ?_) (fun c_58 => ?_)
            · refine zV_bipush (pc := 97) dX10_copy_97 (by decide) ?_
              refine zV_iret (pc := 99) dX10_copy_99 trivial ⟨Nat.zero_le _, Nat.zero_le _⟩ ?_
              have e : zcoG M s i t j n = -12 := by unfold zcoG; (repeat' split) <;> omega
              exact ⟨rfl, by rw [e], by rw [if_neg (by rw [e]; decide)]⟩
            · refine zV_iload_n (pc := 61) (i := 2) dX10_copy_61 rfl rfl ?_
              refine zV_if_lt (pc := 62) (tgt := 97) dX10_copy_62 (by decide) (by omega) (fun c_62 => ?_) (fun c_62 => ?_)
              · refine zV_bipush (pc := 97) dX10_copy_97 (by decide) ?_
                refine zV_iret (pc := 99) dX10_copy_99 trivial ⟨Nat.zero_le _, Nat.zero_le _⟩ ?_
                have e : zcoG M s i t j n = -12 := by unfold zcoG; (repeat' split) <;> omega
                exact ⟨rfl, by rw [e], by rw [if_neg (by rw [e]; decide)]⟩
              · refine zV_iload (pc := 65) dX10_copy_65 rfl ?_
                refine zV_if_lt (pc := 67) (tgt := 97) dX10_copy_67 (by decide) (by omega) (fun c_67 => ?_) (fun c_67 => ?_)
                · refine zV_bipush (pc := 97) dX10_copy_97 (by decide) ?_
                  refine zV_iret (pc := 99) dX10_copy_99 trivial ⟨Nat.zero_le _, Nat.zero_le _⟩ ?_
                  have e : zcoG M s i t j n = -12 := by unfold zcoG; (repeat' split) <;> omega
                  exact ⟨rfl, by rw [e], by rw [if_neg (by rw [e]; decide)]⟩
                · refine zV_iload_n (pc := 70) (i := 2) dX10_copy_70 rfl rfl ?_
                  refine zV_aload_n (pc := 71) (i := 0) dX10_copy_71 rfl rfl ?_
                  refine zV_get (pc := 72) (j := 41) dX10_copy_72 flX10_60 (zOb_of rfl) rfl hS.e58_41 ?_
                  refine zV_iload_n (pc := 75) (i := 1) dX10_copy_75 rfl rfl ?_
                  refine zV_iald (pc := 76) dX10_copy_76 (zAr_of rfl : zAr 75 73 0 4) (by omega) rfl ?_
                  refine zV_iload (pc := 77) dX10_copy_77 rfl ?_
                  refine zV_isub (pc := 79) dX10_copy_79 ?_
                  refine zV_icmp_gt (pc := 80) (tgt := 97) dX10_copy_80 (by decide) (by omega) (fun c_80 => ?_) (fun c_80 => ?_)
                  · refine zV_bipush (pc := 97) dX10_copy_97 (by decide) ?_
                    refine zV_iret (pc := 99) dX10_copy_99 trivial ⟨Nat.zero_le _, Nat.zero_le _⟩ ?_
                    have e : zcoG M s i t j n = -12 := by unfold zcoG; (repeat' split) <;> omega
                    exact ⟨rfl, by rw [e], by rw [if_neg (by rw [e]; decide)]⟩
                  · refine zV_iload (pc := 83) dX10_copy_83 rfl ?_
                    refine zV_aload_n (pc := 85) (i := 0) dX10_copy_85 rfl rfl ?_
                    refine zV_get (pc := 86) (j := 41) dX10_copy_86 flX10_60 (zOb_of rfl) rfl hS.e58_41 ?_
                    refine zV_iload_n (pc := 89) (i := 3) dX10_copy_89 rfl rfl ?_
                    refine zV_iald (pc := 90) dX10_copy_90 (zAr_of rfl : zAr 75 73 0 4) (by omega) rfl ?_
                    refine zV_iload (pc := 91) dX10_copy_91 rfl ?_
                    refine zV_isub (pc := 93) dX10_copy_93 ?_
                    refine zV_icmp_le (pc := 94) (tgt := 100) dX10_copy_94 (by decide) (by omega) (fun c_94 => ?_) (fun c_94 => ?_)
                    · refine zV_iload_n (pc := 100) (i := 1) dX10_copy_100 rfl rfl ?_
                      refine zV_iload_n (pc := 101) (i := 3) dX10_copy_101 rfl rfl ?_
                      refine zV_icmp_ne (pc := 102) (tgt := 115) dX10_copy_102 (by decide) (by omega) (fun c_102 => ?_) (fun c_102 => ?_)
                      · refine zV_iconst (pc := 115) dX10_copy_115 ?_
                        refine zV_istore (pc := 116) dX10_copy_116 rfl ?_
                        try dsimp only [List.set_cons_succ, List.set_cons_zero]
                        refine zV_iconst (pc := 118) dX10_copy_118 ?_
                        refine zV_istore (pc := 119) dX10_copy_119 rfl ?_
                        try dsimp only [List.set_cons_succ, List.set_cons_zero]
                        have e : zcoG M s i t j n = n := by unfold zcoG; (repeat' split) <;> omega
                        refine (kX10_cpD hS hG (s := s) (i := i) (t := t) (j := j) (n := n) (by omega) (by omega) (by omega) (by omega) (by omega) (by omega) n.toNat 0 M _ (by omega) (by omega) zcpy_0.symm).mono ?_
                        rintro v N9 M9 ⟨rfl, rfl, q⟩
                        exact ⟨rfl, by rw [e], by rw [e, if_pos (by omega)]; exact q⟩
                      · refine zV_iload_n (pc := 105) (i := 2) dX10_copy_105 rfl rfl ?_
                        refine zV_iload (pc := 106) dX10_copy_106 rfl ?_
                        refine zV_icmp_ge (pc := 108) (tgt := 115) dX10_copy_108 (by decide) (by omega) (fun c_108 => ?_) (fun c_108 => ?_)
                        · refine zV_iconst (pc := 115) dX10_copy_115 ?_
                          refine zV_istore (pc := 116) dX10_copy_116 rfl ?_
                          try dsimp only [List.set_cons_succ, List.set_cons_zero]
                          refine zV_iconst (pc := 118) dX10_copy_118 ?_
                          refine zV_istore (pc := 119) dX10_copy_119 rfl ?_
                          try dsimp only [List.set_cons_succ, List.set_cons_zero]
                          have e : zcoG M s i t j n = n := by unfold zcoG; (repeat' split) <;> omega
                          refine (kX10_cpD hS hG (s := s) (i := i) (t := t) (j := j) (n := n) (by omega) (by omega) (by omega) (by omega) (by omega) (by omega) n.toNat 0 M _ (by omega) (by omega) zcpy_0.symm).mono ?_
                          rintro v N9 M9 ⟨rfl, rfl, q⟩
                          exact ⟨rfl, by rw [e], by rw [e, if_pos (by omega)]; exact q⟩
                        · refine zV_iconst (pc := 111) dX10_copy_111 ?_
                          refine zV_goto (pc := 112) (tgt := 116) dX10_copy_112 (by decide) ?_
                          refine zV_istore (pc := 116) dX10_copy_116 rfl ?_
                          try dsimp only [List.set_cons_succ, List.set_cons_zero]
                          refine zV_iconst (pc := 118) dX10_copy_118 ?_
                          refine zV_istore (pc := 119) dX10_copy_119 rfl ?_
                          try dsimp only [List.set_cons_succ, List.set_cons_zero]
                          have e : zcoG M s i t j n = n := by unfold zcoG; (repeat' split) <;> omega
                          refine (kX10_cpU hS hG (s := s) (i := i) (t := t) (j := j) (n := n) (by omega) (by omega) (by omega) (by omega) (by omega) (by omega) n.toNat 0 M _ (by omega) (by omega) (by rw [Int.sub_zero]; exact zcpy_0.symm)).mono ?_
                          rintro v N9 M9 ⟨rfl, rfl, q⟩
                          exact ⟨rfl, by rw [e], by rw [e, if_pos (by omega)]; exact q⟩
                    · refine zV_bipush (pc := 97) dX10_copy_97 (by decide) ?_
                      refine zV_iret (pc := 99) dX10_copy_99 trivial ⟨Nat.zero_le _, Nat.zero_le _⟩ ?_
                      have e : zcoG M s i t j n = -12 := by unfold zcoG; (repeat' split) <;> omega
                      exact ⟨rfl, by rw [e], by rw [if_neg (by rw [e]; decide)]⟩
          · refine zV_bipush (pc := 53) dX10_copy_53 (by decide) ?_
            refine zV_iret (pc := 55) dX10_copy_55 trivial ⟨Nat.zero_le _, Nat.zero_le _⟩ ?_
            have e : zcoG M s i t j n = -13 := by unfold zcoG; (repeat' split) <;> omega
            exact ⟨rfl, by rw [e], by rw [if_neg (by rw [e]; decide)]⟩
        · refine zV_bipush (pc := 35) dX10_copy_35 (by decide) ?_
          refine zV_iret (pc := 37) dX10_copy_37 trivial ⟨Nat.zero_le _, Nat.zero_le _⟩ ?_
          have e : zcoG M s i t j n = -11 := by unfold zcoG; (repeat' split) <;> omega
          exact ⟨rfl, by rw [e], by rw [if_neg (by rw [e]; decide)]⟩
    · refine zV_bipush (pc := 14) dX10_copy_14 (by decide) ?_
      refine zV_iret (pc := 16) dX10_copy_16 trivial ⟨Nat.zero_le _, Nat.zero_le _⟩ ?_
      have e : zcoG M s i t j n = -2 := by unfold zcoG; (repeat' split) <;> omega
      exact ⟨rfl, by rw [e], by rw [if_neg (by rw [e]; decide)]⟩
end
