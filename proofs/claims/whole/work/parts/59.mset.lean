/-! THE MODEL: set, thing, image, back, taken (printed by wip/whole/p59.py) -/
/-- what a new thing reaches in the model -/
def zAdG (a j : Int) : Prop := (62 ≤ a ∧ a ≤ 65) ∨ (a = 58 ∧ j = 12)
def zImM (a j : Int) : Prop := a = 70 ∨ (a = 58 ∧ (36 ≤ j ∧ j ≤ 38))
def zBaM (a j : Int) : Prop := (63 ≤ a ∧ a ≤ 65) ∨ (a = 58 ∧ (j = 12 ∨ j = 7 ∨ j = 4))
/-- the kept facts of a thing: fact f (1 to 3) of thing t -/
def zKp (M : zM) (t f : Int) : Int := M 70 (6 * (f - 1) + t)
theorem zU3 {M : zM} {i x y z e : Int} (hi : 0 ≤ i ∧ i < 6) (he : 0 ≤ e ∧ e < 6) : zU (zU (zU M 70 i x) 70 (6 + i) y) 70 (12 + i) z 70 e = (if e = i then x else M 70 e) ∧ zU (zU (zU M 70 i x) 70 (6 + i) y) 70 (12 + i) z 70 (6 + e) = (if e = i then y else M 70 (6 + e)) ∧ zU (zU (zU M 70 i x) 70 (6 + i) y) 70 (12 + i) z 70 (12 + e) = (if e = i then z else M 70 (12 + e)) := by
  by_cases c : e = i
  · subst c
    rw [if_pos rfl, if_pos rfl, if_pos rfl, zU_s]
    refine ⟨?_, ?_, rfl⟩
    · rw [zU_j _ _ _ _ (by omega), zU_j _ _ _ _ (by omega), zU_s]
    · rw [zU_j _ _ _ _ (by omega), zU_s]
  · rw [if_neg c, if_neg c, if_neg c]
    refine ⟨?_, ?_, ?_⟩
    all_goals rw [zU_j _ _ _ _ (by omega), zU_j _ _ _ _ (by omega), zU_j _ _ _ _ (by omega)]
section
variable {g : zG} {N : Nat} {M : zM}
set_option maxRecDepth 20000 in
set_option maxHeartbeats 2000000 in
theorem kX10_set (hS : zSt M) (hn : 0 ≤ M 58 12 ∧ M 58 12 ≤ 6) {k i v : Int} (hk : -2147483648 ≤ k ∧ k ≤ 2147483647) (hi : -2147483648 ≤ i ∧ i ≤ 2147483647) (hv : -2147483648 ≤ v ∧ v ≤ 2147483647) : zK g yX10_set xX10_set [zr 58, zi k, zi i, zi v] 75 M (fun w N' M' => N' = 75 ∧ ((zstOK (M 58 12) k i v ∧ w = some (zi (if k = 0 then M 58 7 else M (62 + k) i)) ∧ M' = if k = 0 then zU M 58 7 v else zU M (62 + k) i v) ∨ (¬ zstOK (M 58 12) k i v ∧ w = some (zi (-2)) ∧ M' = M))) := by
  refine zK_of (ls0 := [zr 58, zi k, zi i, zi v, (3, 0)]) (by decide) rfl (by decide) rfl (Nat.le_of_ble_eq_true rfl) ?_
  refine zV_iload_n (pc := 0) (i := 1) dX10_set_0 rfl rfl ?_
  refine zV_i2l (pc := 1) dX10_set_1 (by omega) ?_
  refine zV_lconst0 (pc := 2) dX10_set_2 ?_
  refine zV_ldc2 (pc := 3) dX10_set_3 kiX10_82 ?_
  refine zV_isp (pc := 6) dX10_set_6 klX10_76 mX10_in rfl ⟨Nat.zero_le _, Nat.zero_le _⟩ (kX10_in (by omega) (by omega) (by omega)) rfl rfl (Nat.le_of_ble_eq_true rfl) ?_
  refine zV_if_eqb (pc := 9) (tgt := 24) dX10_set_9 (by decide) (fun c_9 => ?_) (fun c_9 => ?_)
  · refine zV_bipush (pc := 24) dX10_set_24 (by decide) ?_
    refine zV_iret (pc := 26) dX10_set_26 trivial ⟨Nat.zero_le _, Nat.zero_le _⟩ ?_
    refine ⟨rfl, Or.inr ⟨fun q => ?_, rfl, rfl⟩⟩
    unfold zstOK zRg at q
    omega
  · refine zV_iload_n (pc := 12) (i := 1) dX10_set_12 rfl rfl ?_
    refine zV_if_le (pc := 13) (tgt := 27) dX10_set_13 (by decide) (by omega) (fun c_13 => ?_) (fun c_13 => ?_)
    · rcases (show k = 0 ∨ k = 1 ∨ k = 2 ∨ k = 3 by omega) with rfl | rfl | rfl | rfl
      · refine zV_iload_n (pc := 27) (i := 3) dX10_set_27 rfl rfl ?_
        refine zV_i2l (pc := 28) dX10_set_28 (by omega) ?_
        refine zV_iload_n (pc := 29) (i := 1) dX10_set_29 rfl rfl ?_
        refine zV_iconst (pc := 30) dX10_set_30 ?_
        refine zV_icmp_ne (pc := 31) (tgt := 38) dX10_set_31 (by decide) (by omega) (fun c_31 => ?_) (fun c_31 => absurd c_31 (by decide))
        refine zV_lconst0 (pc := 38) dX10_set_38 ?_
        refine zV_iload_n (pc := 39) (i := 1) dX10_set_39 rfl rfl ?_
        refine zV_if_ne (pc := 40) (tgt := 49) dX10_set_40 (by decide) (by omega) (fun c_40 => absurd c_40 (by decide)) (fun c_40 => ?_)
        refine zV_ldc2 (pc := 43) dX10_set_43 kiX10_88 ?_
        refine zV_goto (pc := 46) (tgt := 74) dX10_set_46 (by decide) ?_
        refine zV_isp (pc := 74) dX10_set_74 klX10_76 mX10_in rfl ⟨Nat.zero_le _, Nat.zero_le _⟩ (kX10_in (by omega) (by omega) (by omega)) rfl rfl (Nat.le_of_ble_eq_true rfl) ?_
        refine zV_if_neb (pc := 77) (tgt := 83) dX10_set_77 (by decide) (fun c_77 => ?_) (fun c_77 => ?_)
        · refine zV_iload_n (pc := 83) (i := 1) dX10_set_83 rfl rfl ?_
          refine zV_if_ne (pc := 84) (tgt := 94) dX10_set_84 (by decide) (by omega) (fun c_84 => absurd c_84 (by decide)) (fun c_84 => ?_)
          refine zV_aload_n (pc := 87) (i := 0) dX10_set_87 rfl rfl ?_
          refine zV_get (pc := 88) (j := 7) dX10_set_88 flX10_96 (zOb_of rfl) rfl rfl ?_
          refine zV_goto (pc := 91) (tgt := 100) dX10_set_91 (by decide) ?_
          refine zV_istore (pc := 100) dX10_set_100 rfl ?_
          try dsimp only [List.set_cons_succ, List.set_cons_zero]
          refine zV_iload_n (pc := 102) (i := 1) dX10_set_102 rfl rfl ?_
          refine zV_if_ne (pc := 103) (tgt := 114) dX10_set_103 (by decide) (by omega) (fun c_103 => absurd c_103 (by decide)) (fun c_103 => ?_)
          refine zV_aload_n (pc := 106) (i := 0) dX10_set_106 rfl rfl ?_
          refine zV_iload_n (pc := 107) (i := 3) dX10_set_107 rfl rfl ?_
          refine zV_put (pc := 108) (j := 7) dX10_set_108 flX10_96 rfl (zOb_of rfl) rfl trivial ?_
          refine zV_goto (pc := 111) (tgt := 151) dX10_set_111 (by decide) ?_
          refine zV_iload (pc := 151) dX10_set_151 rfl ?_
          refine zV_iret (pc := 153) dX10_set_153 trivial ⟨Nat.zero_le _, Nat.zero_le _⟩ ?_
          exact ⟨rfl, Or.inl ⟨by unfold zstOK; omega, rfl, rfl⟩⟩
        · refine zV_bipush (pc := 80) dX10_set_80 (by decide) ?_
          refine zV_iret (pc := 82) dX10_set_82 trivial ⟨Nat.zero_le _, Nat.zero_le _⟩ ?_
          refine ⟨rfl, Or.inr ⟨fun q => ?_, rfl, rfl⟩⟩
          unfold zstOK zRg at q
          omega
      · refine zV_iload_n (pc := 27) (i := 3) dX10_set_27 rfl rfl ?_
        refine zV_i2l (pc := 28) dX10_set_28 (by omega) ?_
        refine zV_iload_n (pc := 29) (i := 1) dX10_set_29 rfl rfl ?_
        refine zV_iconst (pc := 30) dX10_set_30 ?_
        refine zV_icmp_ne (pc := 31) (tgt := 38) dX10_set_31 (by decide) (by omega) (fun c_31 => ?_) (fun c_31 => absurd c_31 (by decide))
        refine zV_lconst0 (pc := 38) dX10_set_38 ?_
        refine zV_iload_n (pc := 39) (i := 1) dX10_set_39 rfl rfl ?_
        refine zV_if_ne (pc := 40) (tgt := 49) dX10_set_40 (by decide) (by omega) (fun c_40 => ?_) (fun c_40 => absurd c_40 (by decide))
        refine zV_iload_n (pc := 49) (i := 1) dX10_set_49 rfl rfl ?_
        refine zV_iconst (pc := 50) dX10_set_50 ?_
        refine zV_icmp_ne (pc := 51) (tgt := 60) dX10_set_51 (by decide) (by omega) (fun c_51 => absurd c_51 (by decide)) (fun c_51 => ?_)
        refine zV_ldc2 (pc := 54) dX10_set_54 kiX10_90 ?_
        refine zV_goto (pc := 57) (tgt := 74) dX10_set_57 (by decide) ?_
        refine zV_isp (pc := 74) dX10_set_74 klX10_76 mX10_in rfl ⟨Nat.zero_le _, Nat.zero_le _⟩ (kX10_in (by omega) (by omega) (by omega)) rfl rfl (Nat.le_of_ble_eq_true rfl) ?_
        refine zV_if_neb (pc := 77) (tgt := 83) dX10_set_77 (by decide) (fun c_77 => ?_) (fun c_77 => ?_)
        · refine zV_iload_n (pc := 83) (i := 1) dX10_set_83 rfl rfl ?_
          refine zV_if_ne (pc := 84) (tgt := 94) dX10_set_84 (by decide) (by omega) (fun c_84 => ?_) (fun c_84 => absurd c_84 (by decide))
          refine zV_aload_n (pc := 94) (i := 0) dX10_set_94 rfl rfl ?_
          refine zV_iload_n (pc := 95) (i := 2) dX10_set_95 rfl rfl ?_
          refine zV_iload_n (pc := 96) (i := 1) dX10_set_96 rfl rfl ?_
          refine zV_ivp (pc := 97) (ci := 10) dX10_set_97 klX10_99 mX10_told ⟨by decide, rfl⟩ rfl ⟨Nat.zero_le _, Nat.zero_le _⟩ (kX10_told hS hn (by omega) (by decide)) (zOb_of rfl) rfl rfl (Nat.le_of_ble_eq_true rfl) ?_
          refine zV_istore (pc := 100) dX10_set_100 rfl ?_
          try dsimp only [List.set_cons_succ, List.set_cons_zero]
          refine zV_iload_n (pc := 102) (i := 1) dX10_set_102 rfl rfl ?_
          refine zV_if_ne (pc := 103) (tgt := 114) dX10_set_103 (by decide) (by omega) (fun c_103 => ?_) (fun c_103 => absurd c_103 (by decide))
          refine zV_iload_n (pc := 114) (i := 1) dX10_set_114 rfl rfl ?_
          refine zV_iconst (pc := 115) dX10_set_115 ?_
          refine zV_icmp_ne (pc := 116) (tgt := 129) dX10_set_116 (by decide) (by omega) (fun c_116 => absurd c_116 (by decide)) (fun c_116 => ?_)
          refine zV_aload_n (pc := 119) (i := 0) dX10_set_119 rfl rfl ?_
          refine zV_get (pc := 120) (j := 9) dX10_set_120 flX10_26 (zOb_of rfl) rfl hS.e58_9 ?_
          refine zV_iload_n (pc := 123) (i := 2) dX10_set_123 rfl rfl ?_
          refine zV_iload_n (pc := 124) (i := 3) dX10_set_124 rfl rfl ?_
          refine zV_iast (pc := 125) dX10_set_125 (zAr_of rfl : zAr 75 63 0 6) (by omega) ?_
          refine zV_goto (pc := 126) (tgt := 151) dX10_set_126 (by decide) ?_
          refine zV_iload (pc := 151) dX10_set_151 rfl ?_
          refine zV_iret (pc := 153) dX10_set_153 trivial ⟨Nat.zero_le _, Nat.zero_le _⟩ ?_
          exact ⟨rfl, Or.inl ⟨by unfold zstOK zRg; omega, congrArg (fun x => some (zi x)) (zif_t ⟨by omega, by decide, by decide⟩), rfl⟩⟩
        · refine zV_bipush (pc := 80) dX10_set_80 (by decide) ?_
          refine zV_iret (pc := 82) dX10_set_82 trivial ⟨Nat.zero_le _, Nat.zero_le _⟩ ?_
          refine ⟨rfl, Or.inr ⟨fun q => ?_, rfl, rfl⟩⟩
          unfold zstOK zRg at q
          omega
      · refine zV_iload_n (pc := 27) (i := 3) dX10_set_27 rfl rfl ?_
        refine zV_i2l (pc := 28) dX10_set_28 (by omega) ?_
        refine zV_iload_n (pc := 29) (i := 1) dX10_set_29 rfl rfl ?_
        refine zV_iconst (pc := 30) dX10_set_30 ?_
        refine zV_icmp_ne (pc := 31) (tgt := 38) dX10_set_31 (by decide) (by omega) (fun c_31 => absurd c_31 (by decide)) (fun c_31 => ?_)
        refine zV_lconst1 (pc := 34) dX10_set_34 ?_
        refine zV_goto (pc := 35) (tgt := 39) dX10_set_35 (by decide) ?_
        refine zV_iload_n (pc := 39) (i := 1) dX10_set_39 rfl rfl ?_
        refine zV_if_ne (pc := 40) (tgt := 49) dX10_set_40 (by decide) (by omega) (fun c_40 => ?_) (fun c_40 => absurd c_40 (by decide))
        refine zV_iload_n (pc := 49) (i := 1) dX10_set_49 rfl rfl ?_
        refine zV_iconst (pc := 50) dX10_set_50 ?_
        refine zV_icmp_ne (pc := 51) (tgt := 60) dX10_set_51 (by decide) (by omega) (fun c_51 => ?_) (fun c_51 => absurd c_51 (by decide))
        refine zV_iload_n (pc := 60) (i := 1) dX10_set_60 rfl rfl ?_
        refine zV_iconst (pc := 61) dX10_set_61 ?_
        refine zV_icmp_ne (pc := 62) (tgt := 71) dX10_set_62 (by decide) (by omega) (fun c_62 => absurd c_62 (by decide)) (fun c_62 => ?_)
        refine zV_ldc2 (pc := 65) dX10_set_65 kiX10_92 ?_
        refine zV_goto (pc := 68) (tgt := 74) dX10_set_68 (by decide) ?_
        refine zV_isp (pc := 74) dX10_set_74 klX10_76 mX10_in rfl ⟨Nat.zero_le _, Nat.zero_le _⟩ (kX10_in (by omega) (by omega) (by omega)) rfl rfl (Nat.le_of_ble_eq_true rfl) ?_
        refine zV_if_neb (pc := 77) (tgt := 83) dX10_set_77 (by decide) (fun c_77 => ?_) (fun c_77 => ?_)
        · refine zV_iload_n (pc := 83) (i := 1) dX10_set_83 rfl rfl ?_
          refine zV_if_ne (pc := 84) (tgt := 94) dX10_set_84 (by decide) (by omega) (fun c_84 => ?_) (fun c_84 => absurd c_84 (by decide))
          refine zV_aload_n (pc := 94) (i := 0) dX10_set_94 rfl rfl ?_
          refine zV_iload_n (pc := 95) (i := 2) dX10_set_95 rfl rfl ?_
          refine zV_iload_n (pc := 96) (i := 1) dX10_set_96 rfl rfl ?_
          refine zV_ivp (pc := 97) (ci := 10) dX10_set_97 klX10_99 mX10_told ⟨by decide, rfl⟩ rfl ⟨Nat.zero_le _, Nat.zero_le _⟩ (kX10_told hS hn (by omega) (by decide)) (zOb_of rfl) rfl rfl (Nat.le_of_ble_eq_true rfl) ?_
          refine zV_istore (pc := 100) dX10_set_100 rfl ?_
          try dsimp only [List.set_cons_succ, List.set_cons_zero]
          refine zV_iload_n (pc := 102) (i := 1) dX10_set_102 rfl rfl ?_
          refine zV_if_ne (pc := 103) (tgt := 114) dX10_set_103 (by decide) (by omega) (fun c_103 => ?_) (fun c_103 => absurd c_103 (by decide))
          refine zV_iload_n (pc := 114) (i := 1) dX10_set_114 rfl rfl ?_
          refine zV_iconst (pc := 115) dX10_set_115 ?_
          refine zV_icmp_ne (pc := 116) (tgt := 129) dX10_set_116 (by decide) (by omega) (fun c_116 => ?_) (fun c_116 => absurd c_116 (by decide))
          refine zV_iload_n (pc := 129) (i := 1) dX10_set_129 rfl rfl ?_
          refine zV_iconst (pc := 130) dX10_set_130 ?_
          refine zV_icmp_ne (pc := 131) (tgt := 144) dX10_set_131 (by decide) (by omega) (fun c_131 => absurd c_131 (by decide)) (fun c_131 => ?_)
          refine zV_aload_n (pc := 134) (i := 0) dX10_set_134 rfl rfl ?_
          refine zV_get (pc := 135) (j := 10) dX10_set_135 flX10_29 (zOb_of rfl) rfl hS.e58_10 ?_
          refine zV_iload_n (pc := 138) (i := 2) dX10_set_138 rfl rfl ?_
          refine zV_iload_n (pc := 139) (i := 3) dX10_set_139 rfl rfl ?_
          refine zV_iast (pc := 140) dX10_set_140 (zAr_of rfl : zAr 75 64 0 6) (by omega) ?_
          refine zV_goto (pc := 141) (tgt := 151) dX10_set_141 (by decide) ?_
          refine zV_iload (pc := 151) dX10_set_151 rfl ?_
          refine zV_iret (pc := 153) dX10_set_153 trivial ⟨Nat.zero_le _, Nat.zero_le _⟩ ?_
          exact ⟨rfl, Or.inl ⟨by unfold zstOK zRg; omega, congrArg (fun x => some (zi x)) (zif_t ⟨by omega, by decide, by decide⟩), rfl⟩⟩
        · refine zV_bipush (pc := 80) dX10_set_80 (by decide) ?_
          refine zV_iret (pc := 82) dX10_set_82 trivial ⟨Nat.zero_le _, Nat.zero_le _⟩ ?_
          refine ⟨rfl, Or.inr ⟨fun q => ?_, rfl, rfl⟩⟩
          unfold zstOK zRg at q
          omega
      · refine zV_iload_n (pc := 27) (i := 3) dX10_set_27 rfl rfl ?_
        refine zV_i2l (pc := 28) dX10_set_28 (by omega) ?_
        refine zV_iload_n (pc := 29) (i := 1) dX10_set_29 rfl rfl ?_
        refine zV_iconst (pc := 30) dX10_set_30 ?_
        refine zV_icmp_ne (pc := 31) (tgt := 38) dX10_set_31 (by decide) (by omega) (fun c_31 => ?_) (fun c_31 => absurd c_31 (by decide))
        refine zV_lconst0 (pc := 38) dX10_set_38 ?_
        refine zV_iload_n (pc := 39) (i := 1) dX10_set_39 rfl rfl ?_
        refine zV_if_ne (pc := 40) (tgt := 49) dX10_set_40 (by decide) (by omega) (fun c_40 => ?_) (fun c_40 => absurd c_40 (by decide))
        refine zV_iload_n (pc := 49) (i := 1) dX10_set_49 rfl rfl ?_
        refine zV_iconst (pc := 50) dX10_set_50 ?_
        refine zV_icmp_ne (pc := 51) (tgt := 60) dX10_set_51 (by decide) (by omega) (fun c_51 => ?_) (fun c_51 => absurd c_51 (by decide))
        refine zV_iload_n (pc := 60) (i := 1) dX10_set_60 rfl rfl ?_
        refine zV_iconst (pc := 61) dX10_set_61 ?_
        refine zV_icmp_ne (pc := 62) (tgt := 71) dX10_set_62 (by decide) (by omega) (fun c_62 => ?_) (fun c_62 => absurd c_62 (by decide))
        refine zV_ldc2 (pc := 71) dX10_set_71 kiX10_94 ?_
        refine zV_isp (pc := 74) dX10_set_74 klX10_76 mX10_in rfl ⟨Nat.zero_le _, Nat.zero_le _⟩ (kX10_in (by omega) (by omega) (by omega)) rfl rfl (Nat.le_of_ble_eq_true rfl) ?_
        refine zV_if_neb (pc := 77) (tgt := 83) dX10_set_77 (by decide) (fun c_77 => ?_) (fun c_77 => ?_)
        · refine zV_iload_n (pc := 83) (i := 1) dX10_set_83 rfl rfl ?_
          refine zV_if_ne (pc := 84) (tgt := 94) dX10_set_84 (by decide) (by omega) (fun c_84 => ?_) (fun c_84 => absurd c_84 (by decide))
          refine zV_aload_n (pc := 94) (i := 0) dX10_set_94 rfl rfl ?_
          refine zV_iload_n (pc := 95) (i := 2) dX10_set_95 rfl rfl ?_
          refine zV_iload_n (pc := 96) (i := 1) dX10_set_96 rfl rfl ?_
          refine zV_ivp (pc := 97) (ci := 10) dX10_set_97 klX10_99 mX10_told ⟨by decide, rfl⟩ rfl ⟨Nat.zero_le _, Nat.zero_le _⟩ (kX10_told hS hn (by omega) (by decide)) (zOb_of rfl) rfl rfl (Nat.le_of_ble_eq_true rfl) ?_
          refine zV_istore (pc := 100) dX10_set_100 rfl ?_
          try dsimp only [List.set_cons_succ, List.set_cons_zero]
          refine zV_iload_n (pc := 102) (i := 1) dX10_set_102 rfl rfl ?_
          refine zV_if_ne (pc := 103) (tgt := 114) dX10_set_103 (by decide) (by omega) (fun c_103 => ?_) (fun c_103 => absurd c_103 (by decide))
          refine zV_iload_n (pc := 114) (i := 1) dX10_set_114 rfl rfl ?_
          refine zV_iconst (pc := 115) dX10_set_115 ?_
          refine zV_icmp_ne (pc := 116) (tgt := 129) dX10_set_116 (by decide) (by omega) (fun c_116 => ?_) (fun c_116 => absurd c_116 (by decide))
          refine zV_iload_n (pc := 129) (i := 1) dX10_set_129 rfl rfl ?_
          refine zV_iconst (pc := 130) dX10_set_130 ?_
          refine zV_icmp_ne (pc := 131) (tgt := 144) dX10_set_131 (by decide) (by omega) (fun c_131 => ?_) (fun c_131 => absurd c_131 (by decide))
          refine zV_aload_n (pc := 144) (i := 0) dX10_set_144 rfl rfl ?_
          refine zV_get (pc := 145) (j := 11) dX10_set_145 flX10_32 (zOb_of rfl) rfl hS.e58_11 ?_
          refine zV_iload_n (pc := 148) (i := 2) dX10_set_148 rfl rfl ?_
          refine zV_iload_n (pc := 149) (i := 3) dX10_set_149 rfl rfl ?_
          refine zV_iast (pc := 150) dX10_set_150 (zAr_of rfl : zAr 75 65 0 6) (by omega) ?_
          refine zV_iload (pc := 151) dX10_set_151 rfl ?_
          refine zV_iret (pc := 153) dX10_set_153 trivial ⟨Nat.zero_le _, Nat.zero_le _⟩ ?_
          exact ⟨rfl, Or.inl ⟨by unfold zstOK zRg; omega, congrArg (fun x => some (zi x)) (zif_t ⟨by omega, by decide, by decide⟩), rfl⟩⟩
        · refine zV_bipush (pc := 80) dX10_set_80 (by decide) ?_
          refine zV_iret (pc := 82) dX10_set_82 trivial ⟨Nat.zero_le _, Nat.zero_le _⟩ ?_
          refine ⟨rfl, Or.inr ⟨fun q => ?_, rfl, rfl⟩⟩
          unfold zstOK zRg at q
          omega
    · refine zV_aload_n (pc := 16) (i := 0) dX10_set_16 rfl rfl ?_
      refine zV_iload_n (pc := 17) (i := 2) dX10_set_17 rfl rfl ?_
      refine zV_ivp (pc := 18) (ci := 10) dX10_set_18 klX10_84 mX10_isThing ⟨by decide, rfl⟩ rfl ⟨Nat.zero_le _, Nat.zero_le _⟩ (kX10_isThing hn (by omega)) (zOb_of rfl) rfl rfl (Nat.le_of_ble_eq_true rfl) ?_
      refine zV_if_neb (pc := 21) (tgt := 27) dX10_set_21 (by decide) (fun c_21 => ?_) (fun c_21 => ?_)
      · rcases (show k = 0 ∨ k = 1 ∨ k = 2 ∨ k = 3 by omega) with rfl | rfl | rfl | rfl
        · refine zV_iload_n (pc := 27) (i := 3) dX10_set_27 rfl rfl ?_
          refine zV_i2l (pc := 28) dX10_set_28 (by omega) ?_
          refine zV_iload_n (pc := 29) (i := 1) dX10_set_29 rfl rfl ?_
          refine zV_iconst (pc := 30) dX10_set_30 ?_
          refine zV_icmp_ne (pc := 31) (tgt := 38) dX10_set_31 (by decide) (by omega) (fun c_31 => ?_) (fun c_31 => absurd c_31 (by decide))
          refine zV_lconst0 (pc := 38) dX10_set_38 ?_
          refine zV_iload_n (pc := 39) (i := 1) dX10_set_39 rfl rfl ?_
          refine zV_if_ne (pc := 40) (tgt := 49) dX10_set_40 (by decide) (by omega) (fun c_40 => absurd c_40 (by decide)) (fun c_40 => ?_)
          refine zV_ldc2 (pc := 43) dX10_set_43 kiX10_88 ?_
          refine zV_goto (pc := 46) (tgt := 74) dX10_set_46 (by decide) ?_
          refine zV_isp (pc := 74) dX10_set_74 klX10_76 mX10_in rfl ⟨Nat.zero_le _, Nat.zero_le _⟩ (kX10_in (by omega) (by omega) (by omega)) rfl rfl (Nat.le_of_ble_eq_true rfl) ?_
          refine zV_if_neb (pc := 77) (tgt := 83) dX10_set_77 (by decide) (fun c_77 => ?_) (fun c_77 => ?_)
          · refine zV_iload_n (pc := 83) (i := 1) dX10_set_83 rfl rfl ?_
            refine zV_if_ne (pc := 84) (tgt := 94) dX10_set_84 (by decide) (by omega) (fun c_84 => absurd c_84 (by decide)) (fun c_84 => ?_)
            refine zV_aload_n (pc := 87) (i := 0) dX10_set_87 rfl rfl ?_
            refine zV_get (pc := 88) (j := 7) dX10_set_88 flX10_96 (zOb_of rfl) rfl rfl ?_
            refine zV_goto (pc := 91) (tgt := 100) dX10_set_91 (by decide) ?_
            refine zV_istore (pc := 100) dX10_set_100 rfl ?_
            try dsimp only [List.set_cons_succ, List.set_cons_zero]
            refine zV_iload_n (pc := 102) (i := 1) dX10_set_102 rfl rfl ?_
            refine zV_if_ne (pc := 103) (tgt := 114) dX10_set_103 (by decide) (by omega) (fun c_103 => absurd c_103 (by decide)) (fun c_103 => ?_)
            refine zV_aload_n (pc := 106) (i := 0) dX10_set_106 rfl rfl ?_
            refine zV_iload_n (pc := 107) (i := 3) dX10_set_107 rfl rfl ?_
            refine zV_put (pc := 108) (j := 7) dX10_set_108 flX10_96 rfl (zOb_of rfl) rfl trivial ?_
            refine zV_goto (pc := 111) (tgt := 151) dX10_set_111 (by decide) ?_
            refine zV_iload (pc := 151) dX10_set_151 rfl ?_
            refine zV_iret (pc := 153) dX10_set_153 trivial ⟨Nat.zero_le _, Nat.zero_le _⟩ ?_
            exact ⟨rfl, Or.inl ⟨by unfold zstOK; omega, rfl, rfl⟩⟩
          · refine zV_bipush (pc := 80) dX10_set_80 (by decide) ?_
            refine zV_iret (pc := 82) dX10_set_82 trivial ⟨Nat.zero_le _, Nat.zero_le _⟩ ?_
            refine ⟨rfl, Or.inr ⟨fun q => ?_, rfl, rfl⟩⟩
            unfold zstOK zRg at q
            omega
        · refine zV_iload_n (pc := 27) (i := 3) dX10_set_27 rfl rfl ?_
          refine zV_i2l (pc := 28) dX10_set_28 (by omega) ?_
          refine zV_iload_n (pc := 29) (i := 1) dX10_set_29 rfl rfl ?_
          refine zV_iconst (pc := 30) dX10_set_30 ?_
          refine zV_icmp_ne (pc := 31) (tgt := 38) dX10_set_31 (by decide) (by omega) (fun c_31 => ?_) (fun c_31 => absurd c_31 (by decide))
          refine zV_lconst0 (pc := 38) dX10_set_38 ?_
          refine zV_iload_n (pc := 39) (i := 1) dX10_set_39 rfl rfl ?_
          refine zV_if_ne (pc := 40) (tgt := 49) dX10_set_40 (by decide) (by omega) (fun c_40 => ?_) (fun c_40 => absurd c_40 (by decide))
          refine zV_iload_n (pc := 49) (i := 1) dX10_set_49 rfl rfl ?_
          refine zV_iconst (pc := 50) dX10_set_50 ?_
          refine zV_icmp_ne (pc := 51) (tgt := 60) dX10_set_51 (by decide) (by omega) (fun c_51 => absurd c_51 (by decide)) (fun c_51 => ?_)
          refine zV_ldc2 (pc := 54) dX10_set_54 kiX10_90 ?_
          refine zV_goto (pc := 57) (tgt := 74) dX10_set_57 (by decide) ?_
          refine zV_isp (pc := 74) dX10_set_74 klX10_76 mX10_in rfl ⟨Nat.zero_le _, Nat.zero_le _⟩ (kX10_in (by omega) (by omega) (by omega)) rfl rfl (Nat.le_of_ble_eq_true rfl) ?_
          refine zV_if_neb (pc := 77) (tgt := 83) dX10_set_77 (by decide) (fun c_77 => ?_) (fun c_77 => ?_)
          · refine zV_iload_n (pc := 83) (i := 1) dX10_set_83 rfl rfl ?_
            refine zV_if_ne (pc := 84) (tgt := 94) dX10_set_84 (by decide) (by omega) (fun c_84 => ?_) (fun c_84 => absurd c_84 (by decide))
            refine zV_aload_n (pc := 94) (i := 0) dX10_set_94 rfl rfl ?_
            refine zV_iload_n (pc := 95) (i := 2) dX10_set_95 rfl rfl ?_
            refine zV_iload_n (pc := 96) (i := 1) dX10_set_96 rfl rfl ?_
            refine zV_ivp (pc := 97) (ci := 10) dX10_set_97 klX10_99 mX10_told ⟨by decide, rfl⟩ rfl ⟨Nat.zero_le _, Nat.zero_le _⟩ (kX10_told hS hn (by omega) (by decide)) (zOb_of rfl) rfl rfl (Nat.le_of_ble_eq_true rfl) ?_
            refine zV_istore (pc := 100) dX10_set_100 rfl ?_
            try dsimp only [List.set_cons_succ, List.set_cons_zero]
            refine zV_iload_n (pc := 102) (i := 1) dX10_set_102 rfl rfl ?_
            refine zV_if_ne (pc := 103) (tgt := 114) dX10_set_103 (by decide) (by omega) (fun c_103 => ?_) (fun c_103 => absurd c_103 (by decide))
            refine zV_iload_n (pc := 114) (i := 1) dX10_set_114 rfl rfl ?_
            refine zV_iconst (pc := 115) dX10_set_115 ?_
            refine zV_icmp_ne (pc := 116) (tgt := 129) dX10_set_116 (by decide) (by omega) (fun c_116 => absurd c_116 (by decide)) (fun c_116 => ?_)
            refine zV_aload_n (pc := 119) (i := 0) dX10_set_119 rfl rfl ?_
            refine zV_get (pc := 120) (j := 9) dX10_set_120 flX10_26 (zOb_of rfl) rfl hS.e58_9 ?_
            refine zV_iload_n (pc := 123) (i := 2) dX10_set_123 rfl rfl ?_
            refine zV_iload_n (pc := 124) (i := 3) dX10_set_124 rfl rfl ?_
            refine zV_iast (pc := 125) dX10_set_125 (zAr_of rfl : zAr 75 63 0 6) (by omega) ?_
            refine zV_goto (pc := 126) (tgt := 151) dX10_set_126 (by decide) ?_
            refine zV_iload (pc := 151) dX10_set_151 rfl ?_
            refine zV_iret (pc := 153) dX10_set_153 trivial ⟨Nat.zero_le _, Nat.zero_le _⟩ ?_
            exact ⟨rfl, Or.inl ⟨by unfold zstOK zRg; omega, congrArg (fun x => some (zi x)) (zif_t ⟨by omega, by decide, by decide⟩), rfl⟩⟩
          · refine zV_bipush (pc := 80) dX10_set_80 (by decide) ?_
            refine zV_iret (pc := 82) dX10_set_82 trivial ⟨Nat.zero_le _, Nat.zero_le _⟩ ?_
            refine ⟨rfl, Or.inr ⟨fun q => ?_, rfl, rfl⟩⟩
            unfold zstOK zRg at q
            omega
        · refine zV_iload_n (pc := 27) (i := 3) dX10_set_27 rfl rfl ?_
          refine zV_i2l (pc := 28) dX10_set_28 (by omega) ?_
          refine zV_iload_n (pc := 29) (i := 1) dX10_set_29 rfl rfl ?_
          refine zV_iconst (pc := 30) dX10_set_30 ?_
          refine zV_icmp_ne (pc := 31) (tgt := 38) dX10_set_31 (by decide) (by omega) (fun c_31 => absurd c_31 (by decide)) (fun c_31 => ?_)
          refine zV_lconst1 (pc := 34) dX10_set_34 ?_
          refine zV_goto (pc := 35) (tgt := 39) dX10_set_35 (by decide) ?_
          refine zV_iload_n (pc := 39) (i := 1) dX10_set_39 rfl rfl ?_
          refine zV_if_ne (pc := 40) (tgt := 49) dX10_set_40 (by decide) (by omega) (fun c_40 => ?_) (fun c_40 => absurd c_40 (by decide))
          refine zV_iload_n (pc := 49) (i := 1) dX10_set_49 rfl rfl ?_
          refine zV_iconst (pc := 50) dX10_set_50 ?_
          refine zV_icmp_ne (pc := 51) (tgt := 60) dX10_set_51 (by decide) (by omega) (fun c_51 => ?_) (fun c_51 => absurd c_51 (by decide))
          refine zV_iload_n (pc := 60) (i := 1) dX10_set_60 rfl rfl ?_
          refine zV_iconst (pc := 61) dX10_set_61 ?_
          refine zV_icmp_ne (pc := 62) (tgt := 71) dX10_set_62 (by decide) (by omega) (fun c_62 => absurd c_62 (by decide)) (fun c_62 => ?_)
          refine zV_ldc2 (pc := 65) dX10_set_65 kiX10_92 ?_
          refine zV_goto (pc := 68) (tgt := 74) dX10_set_68 (by decide) ?_
          refine zV_isp (pc := 74) dX10_set_74 klX10_76 mX10_in rfl ⟨Nat.zero_le _, Nat.zero_le _⟩ (kX10_in (by omega) (by omega) (by omega)) rfl rfl (Nat.le_of_ble_eq_true rfl) ?_
          refine zV_if_neb (pc := 77) (tgt := 83) dX10_set_77 (by decide) (fun c_77 => ?_) (fun c_77 => ?_)
          · refine zV_iload_n (pc := 83) (i := 1) dX10_set_83 rfl rfl ?_
            refine zV_if_ne (pc := 84) (tgt := 94) dX10_set_84 (by decide) (by omega) (fun c_84 => ?_) (fun c_84 => absurd c_84 (by decide))
            refine zV_aload_n (pc := 94) (i := 0) dX10_set_94 rfl rfl ?_
            refine zV_iload_n (pc := 95) (i := 2) dX10_set_95 rfl rfl ?_
            refine zV_iload_n (pc := 96) (i := 1) dX10_set_96 rfl rfl ?_
            refine zV_ivp (pc := 97) (ci := 10) dX10_set_97 klX10_99 mX10_told ⟨by decide, rfl⟩ rfl ⟨Nat.zero_le _, Nat.zero_le _⟩ (kX10_told hS hn (by omega) (by decide)) (zOb_of rfl) rfl rfl (Nat.le_of_ble_eq_true rfl) ?_
            refine zV_istore (pc := 100) dX10_set_100 rfl ?_
            try dsimp only [List.set_cons_succ, List.set_cons_zero]
            refine zV_iload_n (pc := 102) (i := 1) dX10_set_102 rfl rfl ?_
            refine zV_if_ne (pc := 103) (tgt := 114) dX10_set_103 (by decide) (by omega) (fun c_103 => ?_) (fun c_103 => absurd c_103 (by decide))
            refine zV_iload_n (pc := 114) (i := 1) dX10_set_114 rfl rfl ?_
            refine zV_iconst (pc := 115) dX10_set_115 ?_
            refine zV_icmp_ne (pc := 116) (tgt := 129) dX10_set_116 (by decide) (by omega) (fun c_116 => ?_) (fun c_116 => absurd c_116 (by decide))
            refine zV_iload_n (pc := 129) (i := 1) dX10_set_129 rfl rfl ?_
            refine zV_iconst (pc := 130) dX10_set_130 ?_
            refine zV_icmp_ne (pc := 131) (tgt := 144) dX10_set_131 (by decide) (by omega) (fun c_131 => absurd c_131 (by decide)) (fun c_131 => ?_)
            refine zV_aload_n (pc := 134) (i := 0) dX10_set_134 rfl rfl ?_
            refine zV_get (pc := 135) (j := 10) dX10_set_135 flX10_29 (zOb_of rfl) rfl hS.e58_10 ?_
            refine zV_iload_n (pc := 138) (i := 2) dX10_set_138 rfl rfl ?_
            refine zV_iload_n (pc := 139) (i := 3) dX10_set_139 rfl rfl ?_
            refine zV_iast (pc := 140) dX10_set_140 (zAr_of rfl : zAr 75 64 0 6) (by omega) ?_
            refine zV_goto (pc := 141) (tgt := 151) dX10_set_141 (by decide) ?_
            refine zV_iload (pc := 151) dX10_set_151 rfl ?_
            refine zV_iret (pc := 153) dX10_set_153 trivial ⟨Nat.zero_le _, Nat.zero_le _⟩ ?_
            exact ⟨rfl, Or.inl ⟨by unfold zstOK zRg; omega, congrArg (fun x => some (zi x)) (zif_t ⟨by omega, by decide, by decide⟩), rfl⟩⟩
          · refine zV_bipush (pc := 80) dX10_set_80 (by decide) ?_
            refine zV_iret (pc := 82) dX10_set_82 trivial ⟨Nat.zero_le _, Nat.zero_le _⟩ ?_
            refine ⟨rfl, Or.inr ⟨fun q => ?_, rfl, rfl⟩⟩
            unfold zstOK zRg at q
            omega
        · refine zV_iload_n (pc := 27) (i := 3) dX10_set_27 rfl rfl ?_
          refine zV_i2l (pc := 28) dX10_set_28 (by omega) ?_
          refine zV_iload_n (pc := 29) (i := 1) dX10_set_29 rfl rfl ?_
          refine zV_iconst (pc := 30) dX10_set_30 ?_
          refine zV_icmp_ne (pc := 31) (tgt := 38) dX10_set_31 (by decide) (by omega) (fun c_31 => ?_) (fun c_31 => absurd c_31 (by decide))
          refine zV_lconst0 (pc := 38) dX10_set_38 ?_
          refine zV_iload_n (pc := 39) (i := 1) dX10_set_39 rfl rfl ?_
          refine zV_if_ne (pc := 40) (tgt := 49) dX10_set_40 (by decide) (by omega) (fun c_40 => ?_) (fun c_40 => absurd c_40 (by decide))
          refine zV_iload_n (pc := 49) (i := 1) dX10_set_49 rfl rfl ?_
          refine zV_iconst (pc := 50) dX10_set_50 ?_
          refine zV_icmp_ne (pc := 51) (tgt := 60) dX10_set_51 (by decide) (by omega) (fun c_51 => ?_) (fun c_51 => absurd c_51 (by decide))
          refine zV_iload_n (pc := 60) (i := 1) dX10_set_60 rfl rfl ?_
          refine zV_iconst (pc := 61) dX10_set_61 ?_
          refine zV_icmp_ne (pc := 62) (tgt := 71) dX10_set_62 (by decide) (by omega) (fun c_62 => ?_) (fun c_62 => absurd c_62 (by decide))
          refine zV_ldc2 (pc := 71) dX10_set_71 kiX10_94 ?_
          refine zV_isp (pc := 74) dX10_set_74 klX10_76 mX10_in rfl ⟨Nat.zero_le _, Nat.zero_le _⟩ (kX10_in (by omega) (by omega) (by omega)) rfl rfl (Nat.le_of_ble_eq_true rfl) ?_
          refine zV_if_neb (pc := 77) (tgt := 83) dX10_set_77 (by decide) (fun c_77 => ?_) (fun c_77 => ?_)
          · refine zV_iload_n (pc := 83) (i := 1) dX10_set_83 rfl rfl ?_
            refine zV_if_ne (pc := 84) (tgt := 94) dX10_set_84 (by decide) (by omega) (fun c_84 => ?_) (fun c_84 => absurd c_84 (by decide))
            refine zV_aload_n (pc := 94) (i := 0) dX10_set_94 rfl rfl ?_
            refine zV_iload_n (pc := 95) (i := 2) dX10_set_95 rfl rfl ?_
            refine zV_iload_n (pc := 96) (i := 1) dX10_set_96 rfl rfl ?_
            refine zV_ivp (pc := 97) (ci := 10) dX10_set_97 klX10_99 mX10_told ⟨by decide, rfl⟩ rfl ⟨Nat.zero_le _, Nat.zero_le _⟩ (kX10_told hS hn (by omega) (by decide)) (zOb_of rfl) rfl rfl (Nat.le_of_ble_eq_true rfl) ?_
            refine zV_istore (pc := 100) dX10_set_100 rfl ?_
            try dsimp only [List.set_cons_succ, List.set_cons_zero]
            refine zV_iload_n (pc := 102) (i := 1) dX10_set_102 rfl rfl ?_
            refine zV_if_ne (pc := 103) (tgt := 114) dX10_set_103 (by decide) (by omega) (fun c_103 => ?_) (fun c_103 => absurd c_103 (by decide))
            refine zV_iload_n (pc := 114) (i := 1) dX10_set_114 rfl rfl ?_
            refine zV_iconst (pc := 115) dX10_set_115 ?_
            refine zV_icmp_ne (pc := 116) (tgt := 129) dX10_set_116 (by decide) (by omega) (fun c_116 => ?_) (fun c_116 => absurd c_116 (by decide))
            refine zV_iload_n (pc := 129) (i := 1) dX10_set_129 rfl rfl ?_
            refine zV_iconst (pc := 130) dX10_set_130 ?_
            refine zV_icmp_ne (pc := 131) (tgt := 144) dX10_set_131 (by decide) (by omega) (fun c_131 => ?_) (fun c_131 => absurd c_131 (by decide))
            refine zV_aload_n (pc := 144) (i := 0) dX10_set_144 rfl rfl ?_
            refine zV_get (pc := 145) (j := 11) dX10_set_145 flX10_32 (zOb_of rfl) rfl hS.e58_11 ?_
            refine zV_iload_n (pc := 148) (i := 2) dX10_set_148 rfl rfl ?_
            refine zV_iload_n (pc := 149) (i := 3) dX10_set_149 rfl rfl ?_
            refine zV_iast (pc := 150) dX10_set_150 (zAr_of rfl : zAr 75 65 0 6) (by omega) ?_
            refine zV_iload (pc := 151) dX10_set_151 rfl ?_
            refine zV_iret (pc := 153) dX10_set_153 trivial ⟨Nat.zero_le _, Nat.zero_le _⟩ ?_
            exact ⟨rfl, Or.inl ⟨by unfold zstOK zRg; omega, congrArg (fun x => some (zi x)) (zif_t ⟨by omega, by decide, by decide⟩), rfl⟩⟩
          · refine zV_bipush (pc := 80) dX10_set_80 (by decide) ?_
            refine zV_iret (pc := 82) dX10_set_82 trivial ⟨Nat.zero_le _, Nat.zero_le _⟩ ?_
            refine ⟨rfl, Or.inr ⟨fun q => ?_, rfl, rfl⟩⟩
            unfold zstOK zRg at q
            omega
      · refine zV_bipush (pc := 24) dX10_set_24 (by decide) ?_
        refine zV_iret (pc := 26) dX10_set_26 trivial ⟨Nat.zero_le _, Nat.zero_le _⟩ ?_
        refine ⟨rfl, Or.inr ⟨fun q => ?_, rfl, rfl⟩⟩
        unfold zstOK zRg at q
        omega
set_option maxRecDepth 20000 in
set_option maxHeartbeats 2000000 in
theorem kX10_thing (hS : zSt M) (hn : 0 ≤ M 58 12 ∧ M 58 12 ≤ 6) {k n x : Int} (hk : -2147483648 ≤ k ∧ k ≤ 2147483647) (hn : -2147483648 ≤ n ∧ n ≤ 2147483647) (hx : -2147483648 ≤ x ∧ x ≤ 2147483647) : zK g yX10_thing xX10_thing [zr 58, zi k, zi n, zi x] 75 M (fun w N' M' => N' = 75 ∧ ((¬ zthOK k n x ∧ w = some (zi (-2)) ∧ M' = M) ∨ (zthOK k n x ∧ M 58 12 = 6 ∧ w = some (zi (-4)) ∧ M' = M) ∨ (zthOK k n x ∧ M 58 12 < 6 ∧ w = some (zi (M 58 12)) ∧ (fun M1 => M1 62 (M 58 12) = k ∧ M1 63 (M 58 12) = n ∧ M1 64 (M 58 12) = x.tdiv 100 ∧ M1 65 (M 58 12) = x.tmod 100 ∧ M1 58 12 = M 58 12 + 1 ∧ zFr (fun a j => ((62 ≤ a ∧ a ≤ 65) ∧ j = M 58 12) ∨ (a = 58 ∧ j = 12)) M M1) M'))) := by
  refine zK_of (ls0 := [zr 58, zi k, zi n, zi x]) (by decide) rfl (by decide) rfl (Nat.le_of_ble_eq_true rfl) ?_
  have hdm : x.tmod 100 = x - 100 * x.tdiv 100 := Int.tmod_def x 100
  have hm1 := Int.tmod_lt_of_pos x (b := 100) (by decide)
  have hm2 := Int.tmod_lt_of_pos (-x) (b := 100) (by decide)
  rw [Int.neg_tmod] at hm2
  have hm3 : 0 ≤ x → 0 ≤ x.tmod 100 := fun q => Int.tmod_nonneg _ q
  refine zV_iload_n (pc := 0) (i := 1) dX10_thing_0 rfl rfl ?_
  refine zV_i2l (pc := 1) dX10_thing_1 (by omega) ?_
  refine zV_lconst0 (pc := 2) dX10_thing_2 ?_
  refine zV_ldc2 (pc := 3) dX10_thing_3 kiX10_103 ?_
  refine zV_isp (pc := 6) dX10_thing_6 klX10_76 mX10_in rfl ⟨Nat.zero_le _, Nat.zero_le _⟩ (kX10_in (by omega) (by omega) (by omega)) rfl rfl (Nat.le_of_ble_eq_true rfl) ?_
  refine zV_if_eqb (pc := 9) (tgt := 47) dX10_thing_9 (by decide) (fun c_9 => ?_) (fun c_9 => ?_)
  · refine zV_bipush (pc := 47) dX10_thing_47 (by decide) ?_
    refine zV_iret (pc := 49) dX10_thing_49 trivial ⟨Nat.zero_le _, Nat.zero_le _⟩ ?_
    refine ⟨rfl, Or.inl ⟨fun q => ?_, rfl, rfl⟩⟩
    unfold zthOK at q
    omega
  · refine zV_iload_n (pc := 12) (i := 2) dX10_thing_12 rfl rfl ?_
    refine zV_i2l (pc := 13) dX10_thing_13 (by omega) ?_
    refine zV_lconst0 (pc := 14) dX10_thing_14 ?_
    refine zV_ldc2 (pc := 15) dX10_thing_15 kiX10_90 ?_
    refine zV_isp (pc := 18) dX10_thing_18 klX10_76 mX10_in rfl ⟨Nat.zero_le _, Nat.zero_le _⟩ (kX10_in (by omega) (by omega) (by omega)) rfl rfl (Nat.le_of_ble_eq_true rfl) ?_
    refine zV_if_eqb (pc := 21) (tgt := 47) dX10_thing_21 (by decide) (fun c_21 => ?_) (fun c_21 => ?_)
    · refine zV_bipush (pc := 47) dX10_thing_47 (by decide) ?_
      refine zV_iret (pc := 49) dX10_thing_49 trivial ⟨Nat.zero_le _, Nat.zero_le _⟩ ?_
      refine ⟨rfl, Or.inl ⟨fun q => ?_, rfl, rfl⟩⟩
      unfold zthOK at q
      omega
    · refine zV_iload_n (pc := 24) (i := 3) dX10_thing_24 rfl rfl ?_
      refine zV_i2l (pc := 25) dX10_thing_25 (by omega) ?_
      refine zV_ldc2 (pc := 26) dX10_thing_26 kiX10_105 ?_
      refine zV_ldc2 (pc := 29) dX10_thing_29 kiX10_107 ?_
      refine zV_isp (pc := 32) dX10_thing_32 klX10_76 mX10_in rfl ⟨Nat.zero_le _, Nat.zero_le _⟩ (kX10_in (by omega) (by omega) (by omega)) rfl rfl (Nat.le_of_ble_eq_true rfl) ?_
      refine zV_if_eqb (pc := 35) (tgt := 47) dX10_thing_35 (by decide) (fun c_35 => ?_) (fun c_35 => ?_)
      · refine zV_bipush (pc := 47) dX10_thing_47 (by decide) ?_
        refine zV_iret (pc := 49) dX10_thing_49 trivial ⟨Nat.zero_le _, Nat.zero_le _⟩ ?_
        refine ⟨rfl, Or.inl ⟨fun q => ?_, rfl, rfl⟩⟩
        unfold zthOK at q
        omega
      · refine zV_iload_n (pc := 38) (i := 3) dX10_thing_38 rfl rfl ?_
        refine zV_bipush (pc := 39) dX10_thing_39 (by decide) ?_
        refine zV_irem (pc := 41) dX10_thing_41 (by omega) (by omega) ?_
        refine zV_bipush (pc := 42) dX10_thing_42 (by decide) ?_
        refine zV_icmp_lt (pc := 44) (tgt := 50) dX10_thing_44 (by decide) (by omega) (fun c_44 => ?_) (fun c_44 => ?_)
        · refine zV_aload_n (pc := 50) (i := 0) dX10_thing_50 rfl rfl ?_
          refine zV_get (pc := 51) (j := 12) dX10_thing_51 flX10_73 (zOb_of rfl) rfl rfl ?_
          refine zV_bipush (pc := 54) dX10_thing_54 (by decide) ?_
          refine zV_icmp_ne (pc := 56) (tgt := 62) dX10_thing_56 (by decide) (by omega) (fun c_56 => ?_) (fun c_56 => ?_)
          · refine zV_aload_n (pc := 62) (i := 0) dX10_thing_62 rfl rfl ?_
            refine zV_get (pc := 63) (j := 8) dX10_thing_63 flX10_23 (zOb_of rfl) rfl hS.e58_8 ?_
            refine zV_aload_n (pc := 66) (i := 0) dX10_thing_66 rfl rfl ?_
            refine zV_get (pc := 67) (j := 12) dX10_thing_67 flX10_73 (zOb_of rfl) rfl rfl ?_
            refine zV_iload_n (pc := 70) (i := 1) dX10_thing_70 rfl rfl ?_
            refine zV_iast (pc := 71) dX10_thing_71 (zAr_of rfl : zAr 75 62 0 6) (by omega) ?_
            refine zV_aload_n (pc := 72) (i := 0) dX10_thing_72 rfl rfl ?_
            refine zV_get (pc := 73) (j := 9) dX10_thing_73 flX10_26 (zOb_of rfl) rfl hS.e58_9 ?_
            refine zV_aload_n (pc := 76) (i := 0) dX10_thing_76 rfl rfl ?_
            refine zV_get (pc := 77) (j := 12) dX10_thing_77 flX10_73 (zOb_of rfl) rfl (zU_a _ _ _ _ (by decide)) ?_
            refine zV_iload_n (pc := 80) (i := 2) dX10_thing_80 rfl rfl ?_
            refine zV_iast (pc := 81) dX10_thing_81 (zAr_of rfl : zAr 75 63 0 6) (by omega) ?_
            refine zV_aload_n (pc := 82) (i := 0) dX10_thing_82 rfl rfl ?_
            refine zV_get (pc := 83) (j := 10) dX10_thing_83 flX10_29 (zOb_of rfl) rfl hS.e58_10 ?_
            refine zV_aload_n (pc := 86) (i := 0) dX10_thing_86 rfl rfl ?_
            refine zV_get (pc := 87) (j := 12) dX10_thing_87 flX10_73 (zOb_of rfl) rfl ((zU_a _ _ _ _ (by decide)).trans (zU_a _ _ _ _ (by decide))) ?_
            refine zV_iload_n (pc := 90) (i := 3) dX10_thing_90 rfl rfl ?_
            refine zV_bipush (pc := 91) dX10_thing_91 (by decide) ?_
            refine zV_idiv (pc := 93) dX10_thing_93 (by omega) (by omega) ?_
            refine zV_iast (pc := 94) dX10_thing_94 (zAr_of rfl : zAr 75 64 0 6) (by omega) ?_
            refine zV_aload_n (pc := 95) (i := 0) dX10_thing_95 rfl rfl ?_
            refine zV_get (pc := 96) (j := 11) dX10_thing_96 flX10_32 (zOb_of rfl) rfl hS.e58_11 ?_
            refine zV_aload_n (pc := 99) (i := 0) dX10_thing_99 rfl rfl ?_
            refine zV_get (pc := 100) (j := 12) dX10_thing_100 flX10_73 (zOb_of rfl) rfl ((zU_a _ _ _ _ (by decide)).trans ((zU_a _ _ _ _ (by decide)).trans (zU_a _ _ _ _ (by decide)))) ?_
            refine zV_iload_n (pc := 103) (i := 3) dX10_thing_103 rfl rfl ?_
            refine zV_bipush (pc := 104) dX10_thing_104 (by decide) ?_
            refine zV_irem (pc := 106) dX10_thing_106 (by omega) (by omega) ?_
            refine zV_iast (pc := 107) dX10_thing_107 (zAr_of rfl : zAr 75 65 0 6) (by omega) ?_
            refine zV_aload_n (pc := 108) (i := 0) dX10_thing_108 rfl rfl ?_
            refine zV_dup (pc := 109) dX10_thing_109 (by simp) ?_
            refine zV_get (pc := 110) (j := 12) dX10_thing_110 flX10_73 (zOb_of rfl) rfl ((zU_a _ _ _ _ (by decide)).trans ((zU_a _ _ _ _ (by decide)).trans ((zU_a _ _ _ _ (by decide)).trans (zU_a _ _ _ _ (by decide))))) ?_
            refine zV_iconst (pc := 113) dX10_thing_113 ?_
            refine zV_iadd (pc := 114) dX10_thing_114 ?_
            refine zV_put (pc := 115) (j := 12) dX10_thing_115 flX10_73 rfl (zOb_of rfl) rfl trivial ?_
            refine zV_aload_n (pc := 118) (i := 0) dX10_thing_118 rfl rfl ?_
            refine zV_get (pc := 119) (j := 12) dX10_thing_119 flX10_73 (zOb_of rfl) rfl (zU_s _ _ _ _) ?_
            refine zV_iconst (pc := 122) dX10_thing_122 ?_
            refine zV_isub (pc := 123) dX10_thing_123 ?_
            refine zV_iret (pc := 124) dX10_thing_124 trivial ⟨Nat.zero_le _, Nat.zero_le _⟩ ?_
            refine ⟨rfl, Or.inr (Or.inr ⟨by unfold zthOK; omega, by omega, congrArg (fun x => some (zi x)) (by show M 58 12 + 1 - 1 = M 58 12; omega), ?_, ?_, ?_, ?_, ?_, ?_⟩)⟩
            · exact zU_s M 62 (M 58 12) k
            · exact zU_s _ 63 (M 58 12) n
            · exact zU_s _ 64 (M 58 12) _
            · exact zU_s _ 65 (M 58 12) _
            · exact zU_s _ 58 12 _
            · exact zFr.up (zFr.up (zFr.up (zFr.up (zFr.up zFr.rf (Or.inl ⟨by decide, rfl⟩)) (Or.inl ⟨by decide, rfl⟩)) (Or.inl ⟨by decide, rfl⟩)) (Or.inl ⟨by decide, rfl⟩)) (Or.inr ⟨rfl, rfl⟩)
          · refine zV_bipush (pc := 59) dX10_thing_59 (by decide) ?_
            refine zV_iret (pc := 61) dX10_thing_61 trivial ⟨Nat.zero_le _, Nat.zero_le _⟩ ?_
            exact ⟨rfl, Or.inr (Or.inl ⟨by unfold zthOK; omega, by omega, rfl, rfl⟩)⟩
        · refine zV_bipush (pc := 47) dX10_thing_47 (by decide) ?_
          refine zV_iret (pc := 49) dX10_thing_49 trivial ⟨Nat.zero_le _, Nat.zero_le _⟩ ?_
          refine ⟨rfl, Or.inl ⟨fun q => ?_, rfl, rfl⟩⟩
          unfold zthOK at q
          omega
set_option maxRecDepth 20000 in
set_option maxHeartbeats 2000000 in
theorem kX10_imL (hS : zSt M) : ∀ (k : Nat) (i : Int) (M1 : zM), i + k = 6 → 0 ≤ i → (∀ e : Int, 0 ≤ e → e < i → M1 70 e = M 63 e ∧ M1 70 (6 + e) = M 64 e ∧ M1 70 (12 + e) = M 65 e) → zFr (fun a _ => a = 70) M M1 → zV g xX10_image (zPq (zi (M 58 12)) 75 (fun M1 => M1 58 36 = M 58 12 ∧ M1 58 37 = M 58 7 ∧ M1 58 38 = M 58 4 ∧ (∀ e : Int, 0 ≤ e → e < 6 → M1 70 e = M 63 e ∧ M1 70 (6 + e) = M 64 e ∧ M1 70 (12 + e) = M 65 e) ∧ zFr zImM M M1)) 2 [zr 58, zi i] [] 75 M1 0 0 := by
  intro k
  induction k with
  | zero =>
    intro i M1 h0 h1 h2 h3
    have hS1 := hS.fr h3 (by decide)
    refine zV_iload_n (pc := 2) (i := 1) dX10_image_2 rfl rfl ?_
    refine zV_bipush (pc := 3) dX10_image_3 (by decide) ?_
    refine zV_icmp_ge (pc := 5) (tgt := 56) dX10_image_5 (by decide) (by omega) (fun c_5 => ?_) (fun c_5 => absurd (by omega) c_5)
    refine zV_aload_n (pc := 56) (i := 0) dX10_image_56 rfl rfl ?_
    refine zV_aload_n (pc := 57) (i := 0) dX10_image_57 rfl rfl ?_
    refine zV_get (pc := 58) (j := 12) dX10_image_58 flX10_73 (zOb_of rfl) rfl ((h3 58 12 (by decide))) ?_
    refine zV_put (pc := 61) (j := 36) dX10_image_61 flX10_51 rfl (zOb_of rfl) rfl trivial ?_
    refine zV_aload_n (pc := 64) (i := 0) dX10_image_64 rfl rfl ?_
    refine zV_aload_n (pc := 65) (i := 0) dX10_image_65 rfl rfl ?_
    refine zV_get (pc := 66) (j := 7) dX10_image_66 flX10_96 (zOb_of rfl) rfl ((h3 58 7 (by decide))) ?_
    refine zV_put (pc := 69) (j := 37) dX10_image_69 flX10_444 rfl (zOb_of rfl) rfl trivial ?_
    refine zV_aload_n (pc := 72) (i := 0) dX10_image_72 rfl rfl ?_
    refine zV_aload_n (pc := 73) (i := 0) dX10_image_73 rfl rfl ?_
    refine zV_get (pc := 74) (j := 4) dX10_image_74 flX10_329 (zOb_of rfl) rfl ((h3 58 4 (by decide))) ?_
    refine zV_put (pc := 77) (j := 38) dX10_image_77 flX10_447 rfl (zOb_of rfl) rfl trivial ?_
    refine zV_aload_n (pc := 80) (i := 0) dX10_image_80 rfl rfl ?_
    refine zV_get (pc := 81) (j := 12) dX10_image_81 flX10_73 (zOb_of rfl) rfl ((h3 58 12 (by decide))) ?_
    refine zV_iret (pc := 84) dX10_image_84 trivial ⟨Nat.zero_le _, Nat.zero_le _⟩ ?_
    exact ⟨rfl, rfl, rfl, rfl, rfl, fun e e0 e1 => h2 e e0 (by omega), zFr.up (zFr.up (zFr.up (h3.mono (fun a j y => Or.inl y)) (Or.inr ⟨rfl, by decide⟩)) (Or.inr ⟨rfl, by decide⟩)) (Or.inr ⟨rfl, by decide⟩)⟩
  | succ k ih =>
    intro i M1 h0 h1 h2 h3
    have hS1 := hS.fr h3 (by decide)
    refine zV_iload_n (pc := 2) (i := 1) dX10_image_2 rfl rfl ?_
    refine zV_bipush (pc := 3) dX10_image_3 (by decide) ?_
    refine zV_icmp_ge (pc := 5) (tgt := 56) dX10_image_5 (by decide) (by omega) (fun c_5 => absurd c_5 (by omega)) (fun c_5 => ?_)
    refine zV_aload_n (pc := 8) (i := 0) dX10_image_8 rfl rfl ?_
    refine zV_get (pc := 9) (j := 35) dX10_image_9 flX10_48 (zOb_of rfl) rfl hS1.e58_35 ?_
    refine zV_iload_n (pc := 12) (i := 1) dX10_image_12 rfl rfl ?_
    refine zV_aload_n (pc := 13) (i := 0) dX10_image_13 rfl rfl ?_
    refine zV_get (pc := 14) (j := 9) dX10_image_14 flX10_26 (zOb_of rfl) rfl hS1.e58_9 ?_
    refine zV_iload_n (pc := 17) (i := 1) dX10_image_17 rfl rfl ?_
    refine zV_iald (pc := 18) dX10_image_18 (zAr_of rfl : zAr 75 63 0 6) (by omega) (h3 63 i (show ¬ ((63 : Int) = 70) by decide)) ?_
    refine zV_iast (pc := 19) dX10_image_19 (zAr_of rfl : zAr 75 70 0 18) (by omega) ?_
    refine zV_aload_n (pc := 20) (i := 0) dX10_image_20 rfl rfl ?_
    refine zV_get (pc := 21) (j := 35) dX10_image_21 flX10_48 (zOb_of rfl) rfl hS1.e58_35 ?_
    refine zV_bipush (pc := 24) dX10_image_24 (by decide) ?_
    refine zV_iload_n (pc := 26) (i := 1) dX10_image_26 rfl rfl ?_
    refine zV_iadd (pc := 27) dX10_image_27 ?_
    refine zV_aload_n (pc := 28) (i := 0) dX10_image_28 rfl rfl ?_
    refine zV_get (pc := 29) (j := 10) dX10_image_29 flX10_29 (zOb_of rfl) rfl hS1.e58_10 ?_
    refine zV_iload_n (pc := 32) (i := 1) dX10_image_32 rfl rfl ?_
    refine zV_iald (pc := 33) dX10_image_33 (zAr_of rfl : zAr 75 64 0 6) (by omega) ((zU_a _ _ _ _ (by decide)).trans (h3 64 i (show ¬ ((64 : Int) = 70) by decide))) ?_
    refine zV_iast (pc := 34) dX10_image_34 (zAr_of rfl : zAr 75 70 0 18) (by omega) ?_
    refine zV_aload_n (pc := 35) (i := 0) dX10_image_35 rfl rfl ?_
    refine zV_get (pc := 36) (j := 35) dX10_image_36 flX10_48 (zOb_of rfl) rfl hS1.e58_35 ?_
    refine zV_bipush (pc := 39) dX10_image_39 (by decide) ?_
    refine zV_iload_n (pc := 41) (i := 1) dX10_image_41 rfl rfl ?_
    refine zV_iadd (pc := 42) dX10_image_42 ?_
    refine zV_aload_n (pc := 43) (i := 0) dX10_image_43 rfl rfl ?_
    refine zV_get (pc := 44) (j := 11) dX10_image_44 flX10_32 (zOb_of rfl) rfl hS1.e58_11 ?_
    refine zV_iload_n (pc := 47) (i := 1) dX10_image_47 rfl rfl ?_
    refine zV_iald (pc := 48) dX10_image_48 (zAr_of rfl : zAr 75 65 0 6) (by omega) ((zU_a _ _ _ _ (by decide)).trans ((zU_a _ _ _ _ (by decide)).trans (h3 65 i (show ¬ ((65 : Int) = 70) by decide)))) ?_
    refine zV_iast (pc := 49) dX10_image_49 (zAr_of rfl : zAr 75 70 0 18) (by omega) ?_
    refine zV_iinc (pc := 50) dX10_image_50 rfl rfl ?_
    try dsimp only [List.set_cons_succ, List.set_cons_zero]
    refine zV_goto (pc := 53) (tgt := 2) dX10_image_53 (by decide) ?_
    refine ih (i + 1) _ (by omega) (by omega) (fun e e0 e1 => ?_) (zFr.up (zFr.up (zFr.up h3 rfl) rfl) rfl)
    have hu := zU3 (M := M1) (i := i) (x := M 63 i) (y := M 64 i) (z := M 65 i) (e := e) (by omega) (by omega)
    rw [hu.1, hu.2.1, hu.2.2]
    by_cases c : e = i
    · subst c
      rw [if_pos rfl, if_pos rfl, if_pos rfl]
      exact ⟨rfl, rfl, rfl⟩
    · rw [if_neg c, if_neg c, if_neg c]
      exact h2 e e0 (by omega)
set_option maxRecDepth 20000 in
set_option maxHeartbeats 2000000 in
theorem kX10_image (hS : zSt M) : zK g yX10_image xX10_image [zr 58] 75 M (zPq (zi (M 58 12)) 75 (fun M1 => M1 58 36 = M 58 12 ∧ M1 58 37 = M 58 7 ∧ M1 58 38 = M 58 4 ∧ (∀ e : Int, 0 ≤ e → e < 6 → M1 70 e = M 63 e ∧ M1 70 (6 + e) = M 64 e ∧ M1 70 (12 + e) = M 65 e) ∧ zFr zImM M M1)) := by
  refine zK_of (ls0 := [zr 58, (3, 0)]) (by decide) rfl (by decide) rfl (Nat.le_of_ble_eq_true rfl) ?_
  refine zV_iconst (pc := 0) dX10_image_0 ?_
  refine zV_istore_n (pc := 1) (i := 1) dX10_image_1 rfl rfl ?_
  try dsimp only [List.set_cons_succ, List.set_cons_zero]
  exact kX10_imL hS 6 0 M (by omega) (by omega) (fun e e0 e1 => absurd e0 (by omega)) zFr.rf
set_option maxRecDepth 20000 in
set_option maxHeartbeats 2000000 in
theorem kX10_baL (hS : zSt M) : ∀ (k : Nat) (i : Int) (M1 : zM), i + k = 6 → 0 ≤ i → (∀ e : Int, 0 ≤ e → e < i → M1 63 e = M 70 e ∧ M1 64 e = M 70 (6 + e) ∧ M1 65 e = M 70 (12 + e)) → zFr (fun a _ => 63 ≤ a ∧ a ≤ 65) M M1 → zV g xX10_back (zPq (zi (M 58 36)) 75 (fun M1 => M1 58 12 = M 58 36 ∧ M1 58 7 = M 58 37 ∧ M1 58 4 = M 58 38 ∧ (∀ e : Int, 0 ≤ e → e < 6 → M1 63 e = M 70 e ∧ M1 64 e = M 70 (6 + e) ∧ M1 65 e = M 70 (12 + e)) ∧ zFr zBaM M M1)) 13 [zr 58, zi i] [] 75 M1 0 0 := by
  intro k
  induction k with
  | zero =>
    intro i M1 h0 h1 h2 h3
    have hS1 := hS.fr h3 (by decide)
    refine zV_iload_n (pc := 13) (i := 1) dX10_back_13 rfl rfl ?_
    refine zV_bipush (pc := 14) dX10_back_14 (by decide) ?_
    refine zV_icmp_ge (pc := 16) (tgt := 67) dX10_back_16 (by decide) (by omega) (fun c_16 => ?_) (fun c_16 => absurd (by omega) c_16)
    refine zV_aload_n (pc := 67) (i := 0) dX10_back_67 rfl rfl ?_
    refine zV_aload_n (pc := 68) (i := 0) dX10_back_68 rfl rfl ?_
    refine zV_get (pc := 69) (j := 36) dX10_back_69 flX10_51 (zOb_of rfl) rfl ((h3 58 36 (by decide))) ?_
    refine zV_put (pc := 72) (j := 12) dX10_back_72 flX10_73 rfl (zOb_of rfl) rfl trivial ?_
    refine zV_aload_n (pc := 75) (i := 0) dX10_back_75 rfl rfl ?_
    refine zV_aload_n (pc := 76) (i := 0) dX10_back_76 rfl rfl ?_
    refine zV_get (pc := 77) (j := 37) dX10_back_77 flX10_444 (zOb_of rfl) rfl ((h3 58 37 (by decide))) ?_
    refine zV_put (pc := 80) (j := 7) dX10_back_80 flX10_96 rfl (zOb_of rfl) rfl trivial ?_
    refine zV_aload_n (pc := 83) (i := 0) dX10_back_83 rfl rfl ?_
    refine zV_aload_n (pc := 84) (i := 0) dX10_back_84 rfl rfl ?_
    refine zV_get (pc := 85) (j := 38) dX10_back_85 flX10_447 (zOb_of rfl) rfl ((h3 58 38 (by decide))) ?_
    refine zV_put (pc := 88) (j := 4) dX10_back_88 flX10_329 rfl (zOb_of rfl) rfl trivial ?_
    refine zV_aload_n (pc := 91) (i := 0) dX10_back_91 rfl rfl ?_
    refine zV_get (pc := 92) (j := 12) dX10_back_92 flX10_73 (zOb_of rfl) rfl rfl ?_
    refine zV_iret (pc := 95) dX10_back_95 trivial ⟨Nat.zero_le _, Nat.zero_le _⟩ ?_
    exact ⟨rfl, rfl, rfl, rfl, rfl, fun e e0 e1 => h2 e e0 (by omega), zFr.up (zFr.up (zFr.up (h3.mono (fun a j y => Or.inl y)) (Or.inr ⟨rfl, by decide⟩)) (Or.inr ⟨rfl, by decide⟩)) (Or.inr ⟨rfl, by decide⟩)⟩
  | succ k ih =>
    intro i M1 h0 h1 h2 h3
    have hS1 := hS.fr h3 (by decide)
    refine zV_iload_n (pc := 13) (i := 1) dX10_back_13 rfl rfl ?_
    refine zV_bipush (pc := 14) dX10_back_14 (by decide) ?_
    refine zV_icmp_ge (pc := 16) (tgt := 67) dX10_back_16 (by decide) (by omega) (fun c_16 => absurd c_16 (by omega)) (fun c_16 => ?_)
    refine zV_aload_n (pc := 19) (i := 0) dX10_back_19 rfl rfl ?_
    refine zV_get (pc := 20) (j := 9) dX10_back_20 flX10_26 (zOb_of rfl) rfl hS1.e58_9 ?_
    refine zV_iload_n (pc := 23) (i := 1) dX10_back_23 rfl rfl ?_
    refine zV_aload_n (pc := 24) (i := 0) dX10_back_24 rfl rfl ?_
    refine zV_get (pc := 25) (j := 35) dX10_back_25 flX10_48 (zOb_of rfl) rfl hS1.e58_35 ?_
    refine zV_iload_n (pc := 28) (i := 1) dX10_back_28 rfl rfl ?_
    refine zV_iald (pc := 29) dX10_back_29 (zAr_of rfl : zAr 75 70 0 18) (by omega) (h3 70 i (show ¬ ((63 : Int) ≤ 70 ∧ (70 : Int) ≤ 65) by decide)) ?_
    refine zV_iast (pc := 30) dX10_back_30 (zAr_of rfl : zAr 75 63 0 6) (by omega) ?_
    refine zV_aload_n (pc := 31) (i := 0) dX10_back_31 rfl rfl ?_
    refine zV_get (pc := 32) (j := 10) dX10_back_32 flX10_29 (zOb_of rfl) rfl hS1.e58_10 ?_
    refine zV_iload_n (pc := 35) (i := 1) dX10_back_35 rfl rfl ?_
    refine zV_aload_n (pc := 36) (i := 0) dX10_back_36 rfl rfl ?_
    refine zV_get (pc := 37) (j := 35) dX10_back_37 flX10_48 (zOb_of rfl) rfl hS1.e58_35 ?_
    refine zV_bipush (pc := 40) dX10_back_40 (by decide) ?_
    refine zV_iload_n (pc := 42) (i := 1) dX10_back_42 rfl rfl ?_
    refine zV_iadd (pc := 43) dX10_back_43 ?_
    refine zV_iald (pc := 44) dX10_back_44 (zAr_of rfl : zAr 75 70 0 18) (by omega) ((zU_a _ _ _ _ (by decide)).trans (h3 70 (6 + i) (show ¬ ((63 : Int) ≤ 70 ∧ (70 : Int) ≤ 65) by decide))) ?_
    refine zV_iast (pc := 45) dX10_back_45 (zAr_of rfl : zAr 75 64 0 6) (by omega) ?_
    refine zV_aload_n (pc := 46) (i := 0) dX10_back_46 rfl rfl ?_
    refine zV_get (pc := 47) (j := 11) dX10_back_47 flX10_32 (zOb_of rfl) rfl hS1.e58_11 ?_
    refine zV_iload_n (pc := 50) (i := 1) dX10_back_50 rfl rfl ?_
    refine zV_aload_n (pc := 51) (i := 0) dX10_back_51 rfl rfl ?_
    refine zV_get (pc := 52) (j := 35) dX10_back_52 flX10_48 (zOb_of rfl) rfl hS1.e58_35 ?_
    refine zV_bipush (pc := 55) dX10_back_55 (by decide) ?_
    refine zV_iload_n (pc := 57) (i := 1) dX10_back_57 rfl rfl ?_
    refine zV_iadd (pc := 58) dX10_back_58 ?_
    refine zV_iald (pc := 59) dX10_back_59 (zAr_of rfl : zAr 75 70 0 18) (by omega) ((zU_a _ _ _ _ (by decide)).trans ((zU_a _ _ _ _ (by decide)).trans (h3 70 (12 + i) (show ¬ ((63 : Int) ≤ 70 ∧ (70 : Int) ≤ 65) by decide)))) ?_
    refine zV_iast (pc := 60) dX10_back_60 (zAr_of rfl : zAr 75 65 0 6) (by omega) ?_
    refine zV_iinc (pc := 61) dX10_back_61 rfl rfl ?_
    try dsimp only [List.set_cons_succ, List.set_cons_zero]
    refine zV_goto (pc := 64) (tgt := 13) dX10_back_64 (by decide) ?_
    refine ih (i + 1) _ (by omega) (by omega) (fun e e0 e1 => ?_) (zFr.up (zFr.up (zFr.up h3 (by decide)) (by decide)) (by decide))
    rw [zU_a _ 65 _ _ (show (63 : Int) ≠ 65 by decide), zU_a _ 64 _ _ (show (63 : Int) ≠ 64 by decide), zU_a _ 65 _ _ (show (64 : Int) ≠ 65 by decide)]
    by_cases c : e = i
    · subst c
      exact ⟨zU_s _ _ _ _, zU_s _ _ _ _, zU_s _ _ _ _⟩
    · have q := h2 e e0 (by omega)
      exact ⟨(zU_j _ _ _ _ c).trans q.1, (zU_j _ _ _ _ c).trans ((zU_a _ _ _ _ (by decide)).trans q.2.1), (zU_j _ _ _ _ c).trans ((zU_a _ _ _ _ (by decide)).trans ((zU_a _ _ _ _ (by decide)).trans q.2.2))⟩
set_option maxRecDepth 20000 in
set_option maxHeartbeats 2000000 in
theorem kX10_back (hS : zSt M) (hk : -1 ≤ M 58 36 ∧ M 58 36 ≤ 6) : zK g yX10_back xX10_back [zr 58] 75 M (fun w N' M1 => N' = 75 ∧ ((M 58 36 = -1 ∧ w = some (zi (-3)) ∧ M1 = M) ∨ (M 58 36 ≠ -1 ∧ w = some (zi (M 58 36)) ∧ M1 58 12 = M 58 36 ∧ M1 58 7 = M 58 37 ∧ M1 58 4 = M 58 38 ∧ (∀ e : Int, 0 ≤ e → e < 6 → M1 63 e = M 70 e ∧ M1 64 e = M 70 (6 + e) ∧ M1 65 e = M 70 (12 + e)) ∧ zFr zBaM M M1))) := by
  refine zK_of (ls0 := [zr 58, (3, 0)]) (by decide) rfl (by decide) rfl (Nat.le_of_ble_eq_true rfl) ?_
  refine zV_aload_n (pc := 0) (i := 0) dX10_back_0 rfl rfl ?_
  refine zV_get (pc := 1) (j := 36) dX10_back_1 flX10_51 (zOb_of rfl) rfl rfl ?_
  refine zV_iconst (pc := 4) dX10_back_4 ?_
  refine zV_icmp_ne (pc := 5) (tgt := 11) dX10_back_5 (by decide) (by omega) (fun c_5 => ?_) (fun c_5 => ?_)
  · refine zV_iconst (pc := 11) dX10_back_11 ?_
    refine zV_istore_n (pc := 12) (i := 1) dX10_back_12 rfl rfl ?_
    try dsimp only [List.set_cons_succ, List.set_cons_zero]
    refine (kX10_baL hS 6 0 M (by omega) (by omega) (fun e e0 e1 => absurd e0 (by omega)) zFr.rf).mono ?_
    rintro v N9 M9 ⟨rfl, rfl, q⟩
    exact ⟨rfl, Or.inr ⟨by omega, rfl, q⟩⟩
  · refine zV_bipush (pc := 8) dX10_back_8 (by decide) ?_
    refine zV_iret (pc := 10) dX10_back_10 trivial ⟨Nat.zero_le _, Nat.zero_le _⟩ ?_
    exact ⟨rfl, Or.inl ⟨by omega, rfl, rfl⟩⟩
set_option maxRecDepth 20000 in
set_option maxHeartbeats 2000000 in
theorem kX10_tkL (hS : zSt M) {i k0 v0 : Int} (hi : 0 ≤ i ∧ i < 6) (hk : 0 ≤ k0 ∧ k0 ≤ 5) : ∀ (k : Nat) (v : Int), -1 ≤ v ∧ v ≤ 5 → zdp v ≤ k → (zun v0 k0 ↔ zun v k0) → zV g xX10_taken (zPp (zi (zif (zun v0 k0) (M 63 i) (-13))) 75 M) 33 [zr 58, zi i, zi k0, zi v] [] 75 M 0 0 := by
  intro k
  induction k with
  | zero =>
    intro v h2 h3 h4
    refine zV_iload_n (pc := 33) (i := 3) dX10_taken_33 rfl rfl ?_
    refine zV_iconst (pc := 34) dX10_taken_34 ?_
    refine zV_icmp_eq (pc := 35) (tgt := 51) dX10_taken_35 (by decide) (by omega) (fun c_35 => ?_) (fun c_35 => absurd (by unfold zdp at h3; split at h3 <;> omega) c_35)
    refine zV_iload_n (pc := 51) (i := 3) dX10_taken_51 rfl rfl ?_
    refine zV_iload_n (pc := 52) (i := 2) dX10_taken_52 rfl rfl ?_
    refine zV_icmp_ne (pc := 53) (tgt := 65) dX10_taken_53 (by decide) (by omega) (fun c_53 => ?_) (fun c_53 => ?_)
    · refine zV_bipush (pc := 65) dX10_taken_65 (by decide) ?_
      refine zV_iret (pc := 67) dX10_taken_67 trivial ⟨Nat.zero_le _, Nat.zero_le _⟩ ?_
      first
        | (exfalso; omega)
        | exact zPe (zif_t (h4.mpr (by unfold zun; omega))).symm
        | exact zPe (zif_f (fun q => by have := h4.mp q; unfold zun at this; omega)).symm
    · refine zV_aload_n (pc := 56) (i := 0) dX10_taken_56 rfl rfl ?_
      refine zV_get (pc := 57) (j := 9) dX10_taken_57 flX10_26 (zOb_of rfl) rfl hS.e58_9 ?_
      refine zV_iload_n (pc := 60) (i := 1) dX10_taken_60 rfl rfl ?_
      refine zV_iald (pc := 61) dX10_taken_61 (zAr_of rfl : zAr 75 63 0 6) (by omega) rfl ?_
      refine zV_goto (pc := 62) (tgt := 67) dX10_taken_62 (by decide) ?_
      refine zV_iret (pc := 67) dX10_taken_67 trivial ⟨Nat.zero_le _, Nat.zero_le _⟩ ?_
      first
        | (exfalso; omega)
        | exact zPe (zif_t (h4.mpr (by unfold zun; omega))).symm
        | exact zPe (zif_f (fun q => by have := h4.mp q; unfold zun at this; omega)).symm
  | succ k ih =>
    intro v h2 h3 h4
    refine zV_iload_n (pc := 33) (i := 3) dX10_taken_33 rfl rfl ?_
    refine zV_iconst (pc := 34) dX10_taken_34 ?_
    refine zV_icmp_eq (pc := 35) (tgt := 51) dX10_taken_35 (by decide) (by omega) (fun c_35 => ?_) (fun c_35 => ?_)
    · refine zV_iload_n (pc := 51) (i := 3) dX10_taken_51 rfl rfl ?_
      refine zV_iload_n (pc := 52) (i := 2) dX10_taken_52 rfl rfl ?_
      refine zV_icmp_ne (pc := 53) (tgt := 65) dX10_taken_53 (by decide) (by omega) (fun c_53 => ?_) (fun c_53 => ?_)
      · refine zV_bipush (pc := 65) dX10_taken_65 (by decide) ?_
        refine zV_iret (pc := 67) dX10_taken_67 trivial ⟨Nat.zero_le _, Nat.zero_le _⟩ ?_
        first
          | (exfalso; omega)
          | exact zPe (zif_t (h4.mpr (by unfold zun; omega))).symm
          | exact zPe (zif_f (fun q => by have := h4.mp q; unfold zun at this; omega)).symm
      · refine zV_aload_n (pc := 56) (i := 0) dX10_taken_56 rfl rfl ?_
        refine zV_get (pc := 57) (j := 9) dX10_taken_57 flX10_26 (zOb_of rfl) rfl hS.e58_9 ?_
        refine zV_iload_n (pc := 60) (i := 1) dX10_taken_60 rfl rfl ?_
        refine zV_iald (pc := 61) dX10_taken_61 (zAr_of rfl : zAr 75 63 0 6) (by omega) rfl ?_
        refine zV_goto (pc := 62) (tgt := 67) dX10_taken_62 (by decide) ?_
        refine zV_iret (pc := 67) dX10_taken_67 trivial ⟨Nat.zero_le _, Nat.zero_le _⟩ ?_
        first
          | (exfalso; omega)
          | exact zPe (zif_t (h4.mpr (by unfold zun; omega))).symm
          | exact zPe (zif_f (fun q => by have := h4.mp q; unfold zun at this; omega)).symm
    · refine zV_iload_n (pc := 38) (i := 3) dX10_taken_38 rfl rfl ?_
      refine zV_iload_n (pc := 39) (i := 2) dX10_taken_39 rfl rfl ?_
      refine zV_icmp_eq (pc := 40) (tgt := 51) dX10_taken_40 (by decide) (by omega) (fun c_40 => ?_) (fun c_40 => ?_)
      · refine zV_iload_n (pc := 51) (i := 3) dX10_taken_51 rfl rfl ?_
        refine zV_iload_n (pc := 52) (i := 2) dX10_taken_52 rfl rfl ?_
        refine zV_icmp_ne (pc := 53) (tgt := 65) dX10_taken_53 (by decide) (by omega) (fun c_53 => ?_) (fun c_53 => ?_)
        · refine zV_bipush (pc := 65) dX10_taken_65 (by decide) ?_
          refine zV_iret (pc := 67) dX10_taken_67 trivial ⟨Nat.zero_le _, Nat.zero_le _⟩ ?_
          first
            | (exfalso; omega)
            | exact zPe (zif_t (h4.mpr (by unfold zun; omega))).symm
            | exact zPe (zif_f (fun q => by have := h4.mp q; unfold zun at this; omega)).symm
        · refine zV_aload_n (pc := 56) (i := 0) dX10_taken_56 rfl rfl ?_
          refine zV_get (pc := 57) (j := 9) dX10_taken_57 flX10_26 (zOb_of rfl) rfl hS.e58_9 ?_
          refine zV_iload_n (pc := 60) (i := 1) dX10_taken_60 rfl rfl ?_
          refine zV_iald (pc := 61) dX10_taken_61 (zAr_of rfl : zAr 75 63 0 6) (by omega) rfl ?_
          refine zV_goto (pc := 62) (tgt := 67) dX10_taken_62 (by decide) ?_
          refine zV_iret (pc := 67) dX10_taken_67 trivial ⟨Nat.zero_le _, Nat.zero_le _⟩ ?_
          first
            | (exfalso; omega)
            | exact zPe (zif_t (h4.mpr (by unfold zun; omega))).symm
            | exact zPe (zif_f (fun q => by have := h4.mp q; unfold zun at this; omega)).symm
      · refine zV_iload_n (pc := 43) (i := 3) dX10_taken_43 rfl rfl ?_
        refine zV_isp (pc := 44) dX10_taken_44 klX10_459 mX10_over rfl ⟨Nat.zero_le _, Nat.zero_le _⟩ (kX10_over (by omega)) rfl rfl (Nat.le_of_ble_eq_true rfl) ?_
        refine zV_istore_n (pc := 47) (i := 3) dX10_taken_47 rfl rfl ?_
        try dsimp only [List.set_cons_succ, List.set_cons_zero]
        refine zV_goto (pc := 48) (tgt := 33) dX10_taken_48 (by decide) ?_
        refine ih (zab v) ?_ ?_ ?_
        · unfold zab; (repeat' split) <;> omega
        · unfold zdp at h3 ⊢; unfold zab; (repeat' split) <;> (repeat' split at h3) <;> omega
        · rw [h4]; unfold zun zab; (repeat' split) <;> omega
set_option maxRecDepth 20000 in
set_option maxHeartbeats 2000000 in
theorem kX10_taken (hS : zSt M) (hn : 0 ≤ M 58 12 ∧ M 58 12 ≤ 6) (hv : ∀ i, 0 ≤ i → i < M 58 12 → 0 ≤ M 62 i ∧ M 62 i ≤ 5) {i k : Int} (hi : -2147483648 ≤ i ∧ i ≤ 2147483647) (hk : -2147483648 ≤ k ∧ k ≤ 2147483647) : zK g yX10_taken xX10_taken [zr 58, zi i, zi k] 75 M (zPp (zi (if 0 ≤ k ∧ k ≤ 5 then (if 0 ≤ i ∧ i < M 58 12 then zif (zun (M 62 i) k) (M 63 i) (-13) else -11) else -2)) 75 M) := by
  refine zK_of (ls0 := [zr 58, zi i, zi k, (3, 0)]) (by decide) rfl (by decide) rfl (Nat.le_of_ble_eq_true rfl) ?_
  refine zV_iload_n (pc := 0) (i := 2) dX10_taken_0 rfl rfl ?_
  refine zV_i2l (pc := 1) dX10_taken_1 (by omega) ?_
  refine zV_lconst0 (pc := 2) dX10_taken_2 ?_
  refine zV_ldc2 (pc := 3) dX10_taken_3 kiX10_103 ?_
  refine zV_isp (pc := 6) dX10_taken_6 klX10_76 mX10_in rfl ⟨Nat.zero_le _, Nat.zero_le _⟩ (kX10_in (by omega) (by omega) (by omega)) rfl rfl (Nat.le_of_ble_eq_true rfl) ?_
  refine zV_if_neb (pc := 9) (tgt := 15) dX10_taken_9 (by decide) (fun c_9 => ?_) (fun c_9 => ?_)
  · refine zV_aload_n (pc := 15) (i := 0) dX10_taken_15 rfl rfl ?_
    refine zV_iload_n (pc := 16) (i := 1) dX10_taken_16 rfl rfl ?_
    refine zV_ivp (pc := 17) (ci := 10) dX10_taken_17 klX10_84 mX10_isThing ⟨by decide, rfl⟩ rfl ⟨Nat.zero_le _, Nat.zero_le _⟩ (kX10_isThing hn (by omega)) (zOb_of rfl) rfl rfl (Nat.le_of_ble_eq_true rfl) ?_
    refine zV_if_neb (pc := 20) (tgt := 26) dX10_taken_20 (by decide) (fun c_20 => ?_) (fun c_20 => ?_)
    · refine zV_aload_n (pc := 26) (i := 0) dX10_taken_26 rfl rfl ?_
      refine zV_get (pc := 27) (j := 8) dX10_taken_27 flX10_23 (zOb_of rfl) rfl hS.e58_8 ?_
      refine zV_iload_n (pc := 30) (i := 1) dX10_taken_30 rfl rfl ?_
      refine zV_iald (pc := 31) dX10_taken_31 (zAr_of rfl : zAr 75 62 0 6) (by omega) rfl ?_
      refine zV_istore_n (pc := 32) (i := 3) dX10_taken_32 rfl rfl ?_
      try dsimp only [List.set_cons_succ, List.set_cons_zero]
      rw [if_pos c_9, if_pos c_20]
      have := hv i (by omega) (by omega)
      exact kX10_tkL hS (by omega) c_9 6 (M 62 i) (by omega) (by unfold zdp; (repeat' split) <;> omega) Iff.rfl
    · refine zV_bipush (pc := 23) dX10_taken_23 (by decide) ?_
      refine zV_iret (pc := 25) dX10_taken_25 trivial ⟨Nat.zero_le _, Nat.zero_le _⟩ ?_
      exact zPe (by rw [if_pos c_9, if_neg c_20])
  · refine zV_bipush (pc := 12) dX10_taken_12 (by decide) ?_
    refine zV_iret (pc := 14) dX10_taken_14 trivial ⟨Nat.zero_le _, Nat.zero_le _⟩ ?_
    exact zPe (by rw [if_neg c_9])
end
