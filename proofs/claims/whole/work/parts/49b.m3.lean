/-! THE MODEL'S READER: level 3 (printed by wip/whole/p49.py) -/
section
variable {g : zG} {N : Nat} {M : zM}
set_option maxRecDepth 20000 in
set_option maxHeartbeats 2000000 in
theorem kX10_atom3 {f z : Int} {tp nm : Int → Int} (hT : ztp tp z) (hN : ∀ j : Int, 0 ≤ j → j ≤ 5 → -2147483648 ≤ nm j ∧ nm j ≤ 2147483647) {fa fe : zσ → zρ} (ha : zgd z fa) (he : zgd z fe) (hKa : zMf g yX10_atom4 xX10_atom4 f tp z nm 4 6 fa) (hKe : zMf g yX10_either4 xX10_either4 f tp z nm 4 11 fe) : zMf g yX10_atom3 xX10_atom3 f tp z nm 3 11 (zOneS tp z fa fe) := by
  intro M s hB hd hz h25
  refine zK_of (ls0 := [zr 58, (3, 0)]) (by decide) rfl (by decide) rfl (Nat.le_of_ble_eq_true rfl) ?_
  have hk4 := hz.2.2.2.2.1
  refine zV_iconst (pc := 0) dX10_atom3_0 ?_
  refine zV_istore_n (pc := 1) (i := 1) dX10_atom3_1 rfl rfl ?_
  try dsimp only [List.set_cons_succ, List.set_cons_zero]
  refine zV_aload_n (pc := 2) (i := 0) dX10_atom3_2 rfl rfl ?_
  refine zV_bipush (pc := 3) dX10_atom3_3 (by decide) ?_
  refine zV_ivp (pc := 5) (ci := 10) dX10_atom3_5 klX10_201 mX10_isSign ⟨by decide, rfl⟩ rfl ⟨Nat.zero_le _, Nat.zero_le _⟩ (kX10_isSign hd hz (by decide)) (zOb_of rfl) rfl rfl (Nat.le_of_ble_eq_true rfl) ?_
  refine zV_if_eqb (pc := 8) (tgt := 37) dX10_atom3_8 (by decide) (fun c_8 => ?_) (fun c_8 => ?_)
  · refine zV_aload_n (pc := 37) (i := 0) dX10_atom3_37 rfl rfl ?_
    refine zV_bipush (pc := 38) dX10_atom3_38 (by decide) ?_
    refine zV_ivp (pc := 40) (ci := 10) dX10_atom3_40 klX10_201 mX10_isSign ⟨by decide, rfl⟩ rfl ⟨Nat.zero_le _, Nat.zero_le _⟩ (kX10_isSign hd hz (by decide)) (zOb_of rfl) rfl rfl (Nat.le_of_ble_eq_true rfl) ?_
    refine zV_if_eqb (pc := 43) (tgt := 95) dX10_atom3_43 (by decide) (fun c_43 => ?_) (fun c_43 => ?_)
    · refine zV_aload_n (pc := 95) (i := 0) dX10_atom3_95 rfl rfl ?_
      refine zV_get (pc := 96) (j := 26) dX10_atom3_96 flX10_160 (zOb_of rfl) rfl hd.1 ?_
      refine zV_if_neb (pc := 99) (tgt := 123) dX10_atom3_99 (by decide) (fun c_99 => ?_) (fun c_99 => ?_)
      · refine zV_aload_n (pc := 123) (i := 0) dX10_atom3_123 rfl rfl ?_
        refine zV_get (pc := 124) (j := 26) dX10_atom3_124 flX10_160 (zOb_of rfl) rfl hd.1 ?_
        refine zV_if_neb (pc := 127) (tgt := 157) dX10_atom3_127 (by decide) (fun c_127 => ?_) (fun c_127 => ?_)
        · have e : zOneS tp z fa fe s = ([], zfl s) := by
            have n2 : ¬ s.tk = 2 := by
              intro y
              have y3 : s.ft = -1 := hz.live ⟨by omega, by omega⟩
              have ht := (hd.2.2 y3).2
              have hw := zwt_r (tp := tp) (s := s.sa) (e := s.at) 12 (Nat.le_refl _)
              unfold zMt at ht
              first
                | omega
                | exact absurd y3 (by assumption)
            have n3 : ¬ s.tk = 3 := by
              intro y
              have y3 : s.ft = -1 := hz.live ⟨by omega, by omega⟩
              have ht := (hd.2.2 y3).2
              have hw := zwt_r (tp := tp) (s := s.sa) (e := s.at) 12 (Nat.le_refl _)
              unfold zMt at ht
              first
                | omega
                | exact absurd y3 (by assumption)
            exact (if_neg n2).trans ((if_neg n3).trans ((if_neg c_8).trans (if_neg c_43)))
          refine zV_aload_n (pc := 157) (i := 0) dX10_atom3_157 rfl rfl ?_
          refine zV_ivn (pc := 158) (ci := 10) dX10_atom3_158 klX10_173 mX10_fail ⟨by decide, rfl⟩ rfl ⟨Nat.zero_le _, Nat.zero_le _⟩ (kX10_fail hd hz) (zOb_of rfl) rfl rfl (Nat.le_of_ble_eq_true rfl) (fun M2 q2 => ?_)
          refine zV_iload_n (pc := 161) (i := 1) dX10_atom3_161 rfl rfl ?_
          refine zV_iret (pc := 162) dX10_atom3_162 trivial ⟨Nat.zero_le _, Nat.zero_le _⟩ ?_
          rw [e]
          first
            | exact ⟨rfl, q2.1, (q2.2 _ _ (by unfold zNF; omega)).trans h25, q2.2.mono (fun a j y => zNF_G y), s.vl, rfl, by omega, fun _ => (zvl_n hv2.1).up (by decide)⟩
            | exact ⟨rfl, q2.1, (q2.2 _ _ (by unfold zNH; omega)).trans h25, q2.2.mono (fun a j y => zNH_G y), 0, rfl, by decide, fun y => absurd y (zfl_ft hz)⟩
        · refine zV_aload_n (pc := 130) (i := 0) dX10_atom3_130 rfl rfl ?_
          refine zV_get (pc := 131) (j := 22) dX10_atom3_131 flX10_143 (zOb_of rfl) rfl rfl ?_
          refine zV_iconst (pc := 134) dX10_atom3_134 ?_
          refine zV_icmp_ne (pc := 135) (tgt := 157) dX10_atom3_135 (by decide) (by omega) (fun c_135 => ?_) (fun c_135 => ?_)
          · have e : zOneS tp z fa fe s = ([], zfl s) := by
              have n2 : ¬ s.tk = 2 := by
                intro y
                have y3 : s.ft = -1 := hz.live ⟨by omega, by omega⟩
                have ht := (hd.2.2 y3).2
                have hw := zwt_r (tp := tp) (s := s.sa) (e := s.at) 12 (Nat.le_refl _)
                unfold zMt at ht
                first
                  | omega
                  | exact absurd y3 (by assumption)
              have n3 : ¬ s.tk = 3 := by
                intro y
                have y3 : s.ft = -1 := hz.live ⟨by omega, by omega⟩
                have ht := (hd.2.2 y3).2
                have hw := zwt_r (tp := tp) (s := s.sa) (e := s.at) 12 (Nat.le_refl _)
                unfold zMt at ht
                first
                  | omega
                  | exact absurd y3 (by assumption)
              exact (if_neg n2).trans ((if_neg n3).trans ((if_neg c_8).trans (if_neg c_43)))
            refine zV_aload_n (pc := 157) (i := 0) dX10_atom3_157 rfl rfl ?_
            refine zV_ivn (pc := 158) (ci := 10) dX10_atom3_158 klX10_173 mX10_fail ⟨by decide, rfl⟩ rfl ⟨Nat.zero_le _, Nat.zero_le _⟩ (kX10_fail hd hz) (zOb_of rfl) rfl rfl (Nat.le_of_ble_eq_true rfl) (fun M2 q2 => ?_)
            refine zV_iload_n (pc := 161) (i := 1) dX10_atom3_161 rfl rfl ?_
            refine zV_iret (pc := 162) dX10_atom3_162 trivial ⟨Nat.zero_le _, Nat.zero_le _⟩ ?_
            rw [e]
            first
              | exact ⟨rfl, q2.1, (q2.2 _ _ (by unfold zNF; omega)).trans h25, q2.2.mono (fun a j y => zNF_G y), s.vl, rfl, by omega, fun _ => (zvl_n hv2.1).up (by decide)⟩
              | exact ⟨rfl, q2.1, (q2.2 _ _ (by unfold zNH; omega)).trans h25, q2.2.mono (fun a j y => zNH_G y), 0, rfl, by decide, fun y => absurd y (zfl_ft hz)⟩
          · refine zV_aload_n (pc := 138) (i := 0) dX10_atom3_138 rfl rfl ?_
            refine zV_ivs (pc := 139) (ci := 10) dX10_atom3_139 klX10_208 mX10_name ⟨by decide, rfl⟩ rfl ⟨Nat.zero_le _, Nat.zero_le _⟩ (kX10_name hB hT hd hz) (zOb_of rfl) rfl rfl (Nat.le_of_ble_eq_true rfl) ?_
            rintro w9 N9 M1 ⟨rfl, ⟨n3, rfl, rfl⟩ | ⟨n3, rfl, d1, f1⟩⟩
            · have hlv : zlive s := ⟨by omega, by omega⟩
              have ef := hz.live hlv
              have e : zOneS tp z fa fe s = ([-1 - s.vl], zadv tp z s) := (if_neg (by omega)).trans (if_pos n3)
              refine zV_istore_n (pc := 142) (i := 1) dX10_atom3_142 rfl rfl ?_
              try dsimp only [List.set_cons_succ, List.set_cons_zero]
              refine zV_aload_n (pc := 143) (i := 0) dX10_atom3_143 rfl rfl ?_
              refine zV_get (pc := 144) (j := 26) dX10_atom3_144 flX10_160 (zOb_of rfl) rfl (hd.ok ef) ?_
              refine zV_if_ne (pc := 147) (tgt := 161) dX10_atom3_147 (by decide) (by omega) (fun c_147 => absurd c_147 (by decide)) (fun c_147 => ?_)
              refine zV_aload_n (pc := 150) (i := 0) dX10_atom3_150 rfl rfl ?_
              refine zV_ivn (pc := 151) (ci := 10) dX10_atom3_151 klX10_176 mX10_next ⟨by decide, rfl⟩ rfl ⟨Nat.zero_le _, Nat.zero_le _⟩ (kX10_next hB.1 hT (s := s) (by have := hz.1; omega) (hd.here hz hlv) ef (hd.ok ef)) (zOb_of rfl) rfl rfl (Nat.le_of_ble_eq_true rfl) (fun M2 q2 => ?_)
              refine zV_goto (pc := 154) (tgt := 161) dX10_atom3_154 (by decide) ?_
              refine zV_iload_n (pc := 161) (i := 1) dX10_atom3_161 rfl rfl ?_
              refine zV_iret (pc := 162) dX10_atom3_162 trivial ⟨Nat.zero_le _, Nat.zero_le _⟩ ?_
              rw [e]
              exact ⟨rfl, q2.1, (q2.2 _ _ (by unfold zNF; omega)).trans h25, q2.2.mono (fun a j y => zNF_G y), nm s.vl, rfl, hN _ (by have := hz.2.2.1 n3; omega) (by have := hz.2.2.1 n3; omega), fun _ => (zvl_m (hz.2.2.1 n3)).up (by decide)⟩
            · have e : zOneS tp z fa fe s = ([], zfl s) := (if_neg (by omega)).trans ((if_neg n3).trans ((if_neg c_8).trans (if_neg c_43)))
              refine zV_istore_n (pc := 142) (i := 1) dX10_atom3_142 rfl rfl ?_
              try dsimp only [List.set_cons_succ, List.set_cons_zero]
              refine zV_aload_n (pc := 143) (i := 0) dX10_atom3_143 rfl rfl ?_
              refine zV_get (pc := 144) (j := 26) dX10_atom3_144 flX10_160 (zOb_of rfl) rfl (d1.bad (zfl_ft hz)) ?_
              refine zV_if_ne (pc := 147) (tgt := 161) dX10_atom3_147 (by decide) (by decide) (fun _ => ?_) (fun y => absurd y (by decide))
              refine zV_iload_n (pc := 161) (i := 1) dX10_atom3_161 rfl rfl ?_
              refine zV_iret (pc := 162) dX10_atom3_162 trivial ⟨Nat.zero_le _, Nat.zero_le _⟩ ?_
              rw [e]
              exact ⟨rfl, d1, (f1 _ _ (by unfold zNH; omega)).trans h25, f1.mono (fun a j y => zNH_G y), 0, rfl, by decide, fun y => absurd y (zfl_ft hz)⟩
      · have ef : s.ft = -1 := by
          by_cases y : s.ft = -1
          · exact y
          · exact absurd y c_99
        have ht := (hd.2.2 ef).2
        have hw := zwt_r (tp := tp) (s := s.sa) (e := s.at) 12 (Nat.le_refl _)
        unfold zMt at ht
        have h22 : 0 ≤ M 58 22 ∧ M 58 22 ≤ 4 := by omega
        refine zV_aload_n (pc := 102) (i := 0) dX10_atom3_102 rfl rfl ?_
        refine zV_get (pc := 103) (j := 22) dX10_atom3_103 flX10_143 (zOb_of rfl) rfl rfl ?_
        refine zV_iconst (pc := 106) dX10_atom3_106 ?_
        refine zV_icmp_ne (pc := 107) (tgt := 123) dX10_atom3_107 (by decide) (by omega) (fun c_107 => ?_) (fun c_107 => ?_)
        · refine zV_aload_n (pc := 123) (i := 0) dX10_atom3_123 rfl rfl ?_
          refine zV_get (pc := 124) (j := 26) dX10_atom3_124 flX10_160 (zOb_of rfl) rfl hd.1 ?_
          refine zV_if_neb (pc := 127) (tgt := 157) dX10_atom3_127 (by decide) (fun c_127 => ?_) (fun c_127 => ?_)
          · have e : zOneS tp z fa fe s = ([], zfl s) := by
              have n2 : ¬ s.tk = 2 := by
                intro y
                have y3 : s.ft = -1 := hz.live ⟨by omega, by omega⟩
                have ht := (hd.2.2 y3).2
                have hw := zwt_r (tp := tp) (s := s.sa) (e := s.at) 12 (Nat.le_refl _)
                unfold zMt at ht
                first
                  | omega
                  | exact absurd y3 (by assumption)
              have n3 : ¬ s.tk = 3 := by
                intro y
                have y3 : s.ft = -1 := hz.live ⟨by omega, by omega⟩
                have ht := (hd.2.2 y3).2
                have hw := zwt_r (tp := tp) (s := s.sa) (e := s.at) 12 (Nat.le_refl _)
                unfold zMt at ht
                first
                  | omega
                  | exact absurd y3 (by assumption)
              exact (if_neg n2).trans ((if_neg n3).trans ((if_neg c_8).trans (if_neg c_43)))
            refine zV_aload_n (pc := 157) (i := 0) dX10_atom3_157 rfl rfl ?_
            refine zV_ivn (pc := 158) (ci := 10) dX10_atom3_158 klX10_173 mX10_fail ⟨by decide, rfl⟩ rfl ⟨Nat.zero_le _, Nat.zero_le _⟩ (kX10_fail hd hz) (zOb_of rfl) rfl rfl (Nat.le_of_ble_eq_true rfl) (fun M2 q2 => ?_)
            refine zV_iload_n (pc := 161) (i := 1) dX10_atom3_161 rfl rfl ?_
            refine zV_iret (pc := 162) dX10_atom3_162 trivial ⟨Nat.zero_le _, Nat.zero_le _⟩ ?_
            rw [e]
            first
              | exact ⟨rfl, q2.1, (q2.2 _ _ (by unfold zNF; omega)).trans h25, q2.2.mono (fun a j y => zNF_G y), s.vl, rfl, by omega, fun _ => (zvl_n hv2.1).up (by decide)⟩
              | exact ⟨rfl, q2.1, (q2.2 _ _ (by unfold zNH; omega)).trans h25, q2.2.mono (fun a j y => zNH_G y), 0, rfl, by decide, fun y => absurd y (zfl_ft hz)⟩
          · refine zV_aload_n (pc := 130) (i := 0) dX10_atom3_130 rfl rfl ?_
            refine zV_get (pc := 131) (j := 22) dX10_atom3_131 flX10_143 (zOb_of rfl) rfl rfl ?_
            refine zV_iconst (pc := 134) dX10_atom3_134 ?_
            refine zV_icmp_ne (pc := 135) (tgt := 157) dX10_atom3_135 (by decide) (by omega) (fun c_135 => ?_) (fun c_135 => ?_)
            · have e : zOneS tp z fa fe s = ([], zfl s) := by
                have n2 : ¬ s.tk = 2 := by
                  intro y
                  have y3 : s.ft = -1 := hz.live ⟨by omega, by omega⟩
                  have ht := (hd.2.2 y3).2
                  have hw := zwt_r (tp := tp) (s := s.sa) (e := s.at) 12 (Nat.le_refl _)
                  unfold zMt at ht
                  first
                    | omega
                    | exact absurd y3 (by assumption)
                have n3 : ¬ s.tk = 3 := by
                  intro y
                  have y3 : s.ft = -1 := hz.live ⟨by omega, by omega⟩
                  have ht := (hd.2.2 y3).2
                  have hw := zwt_r (tp := tp) (s := s.sa) (e := s.at) 12 (Nat.le_refl _)
                  unfold zMt at ht
                  first
                    | omega
                    | exact absurd y3 (by assumption)
                exact (if_neg n2).trans ((if_neg n3).trans ((if_neg c_8).trans (if_neg c_43)))
              refine zV_aload_n (pc := 157) (i := 0) dX10_atom3_157 rfl rfl ?_
              refine zV_ivn (pc := 158) (ci := 10) dX10_atom3_158 klX10_173 mX10_fail ⟨by decide, rfl⟩ rfl ⟨Nat.zero_le _, Nat.zero_le _⟩ (kX10_fail hd hz) (zOb_of rfl) rfl rfl (Nat.le_of_ble_eq_true rfl) (fun M2 q2 => ?_)
              refine zV_iload_n (pc := 161) (i := 1) dX10_atom3_161 rfl rfl ?_
              refine zV_iret (pc := 162) dX10_atom3_162 trivial ⟨Nat.zero_le _, Nat.zero_le _⟩ ?_
              rw [e]
              first
                | exact ⟨rfl, q2.1, (q2.2 _ _ (by unfold zNF; omega)).trans h25, q2.2.mono (fun a j y => zNF_G y), s.vl, rfl, by omega, fun _ => (zvl_n hv2.1).up (by decide)⟩
                | exact ⟨rfl, q2.1, (q2.2 _ _ (by unfold zNH; omega)).trans h25, q2.2.mono (fun a j y => zNH_G y), 0, rfl, by decide, fun y => absurd y (zfl_ft hz)⟩
            · refine zV_aload_n (pc := 138) (i := 0) dX10_atom3_138 rfl rfl ?_
              refine zV_ivs (pc := 139) (ci := 10) dX10_atom3_139 klX10_208 mX10_name ⟨by decide, rfl⟩ rfl ⟨Nat.zero_le _, Nat.zero_le _⟩ (kX10_name hB hT hd hz) (zOb_of rfl) rfl rfl (Nat.le_of_ble_eq_true rfl) ?_
              rintro w9 N9 M1 ⟨rfl, ⟨n3, rfl, rfl⟩ | ⟨n3, rfl, d1, f1⟩⟩
              · have hlv : zlive s := ⟨by omega, by omega⟩
                have ef := hz.live hlv
                have e : zOneS tp z fa fe s = ([-1 - s.vl], zadv tp z s) := (if_neg (by omega)).trans (if_pos n3)
                refine zV_istore_n (pc := 142) (i := 1) dX10_atom3_142 rfl rfl ?_
                try dsimp only [List.set_cons_succ, List.set_cons_zero]
                refine zV_aload_n (pc := 143) (i := 0) dX10_atom3_143 rfl rfl ?_
                refine zV_get (pc := 144) (j := 26) dX10_atom3_144 flX10_160 (zOb_of rfl) rfl (hd.ok ef) ?_
                refine zV_if_ne (pc := 147) (tgt := 161) dX10_atom3_147 (by decide) (by omega) (fun c_147 => absurd c_147 (by decide)) (fun c_147 => ?_)
                refine zV_aload_n (pc := 150) (i := 0) dX10_atom3_150 rfl rfl ?_
                refine zV_ivn (pc := 151) (ci := 10) dX10_atom3_151 klX10_176 mX10_next ⟨by decide, rfl⟩ rfl ⟨Nat.zero_le _, Nat.zero_le _⟩ (kX10_next hB.1 hT (s := s) (by have := hz.1; omega) (hd.here hz hlv) ef (hd.ok ef)) (zOb_of rfl) rfl rfl (Nat.le_of_ble_eq_true rfl) (fun M2 q2 => ?_)
                refine zV_goto (pc := 154) (tgt := 161) dX10_atom3_154 (by decide) ?_
                refine zV_iload_n (pc := 161) (i := 1) dX10_atom3_161 rfl rfl ?_
                refine zV_iret (pc := 162) dX10_atom3_162 trivial ⟨Nat.zero_le _, Nat.zero_le _⟩ ?_
                rw [e]
                exact ⟨rfl, q2.1, (q2.2 _ _ (by unfold zNF; omega)).trans h25, q2.2.mono (fun a j y => zNF_G y), nm s.vl, rfl, hN _ (by have := hz.2.2.1 n3; omega) (by have := hz.2.2.1 n3; omega), fun _ => (zvl_m (hz.2.2.1 n3)).up (by decide)⟩
              · have e : zOneS tp z fa fe s = ([], zfl s) := (if_neg (by omega)).trans ((if_neg n3).trans ((if_neg c_8).trans (if_neg c_43)))
                refine zV_istore_n (pc := 142) (i := 1) dX10_atom3_142 rfl rfl ?_
                try dsimp only [List.set_cons_succ, List.set_cons_zero]
                refine zV_aload_n (pc := 143) (i := 0) dX10_atom3_143 rfl rfl ?_
                refine zV_get (pc := 144) (j := 26) dX10_atom3_144 flX10_160 (zOb_of rfl) rfl (d1.bad (zfl_ft hz)) ?_
                refine zV_if_ne (pc := 147) (tgt := 161) dX10_atom3_147 (by decide) (by decide) (fun _ => ?_) (fun y => absurd y (by decide))
                refine zV_iload_n (pc := 161) (i := 1) dX10_atom3_161 rfl rfl ?_
                refine zV_iret (pc := 162) dX10_atom3_162 trivial ⟨Nat.zero_le _, Nat.zero_le _⟩ ?_
                rw [e]
                exact ⟨rfl, d1, (f1 _ _ (by unfold zNH; omega)).trans h25, f1.mono (fun a j y => zNH_G y), 0, rfl, by decide, fun y => absurd y (zfl_ft hz)⟩
        · have w24 : M 58 24 = s.vl := by omega
          have tk2 : s.tk = 2 := by omega
          have hlv : zlive s := ⟨by omega, by omega⟩
          have hv2 := hz.2.1 tk2
          have e : zOneS tp z fa fe s = ([s.vl], zadv tp z s) := if_pos tk2
          refine zV_aload_n (pc := 110) (i := 0) dX10_atom3_110 rfl rfl ?_
          refine zV_get (pc := 111) (j := 24) dX10_atom3_111 flX10_154 (zOb_of rfl) rfl w24 ?_
          refine zV_l2i (pc := 114) dX10_atom3_114 (by omega) ?_
          refine zV_istore_n (pc := 115) (i := 1) dX10_atom3_115 rfl rfl ?_
          try dsimp only [List.set_cons_succ, List.set_cons_zero]
          refine zV_aload_n (pc := 116) (i := 0) dX10_atom3_116 rfl rfl ?_
          refine zV_ivn (pc := 117) (ci := 10) dX10_atom3_117 klX10_176 mX10_next ⟨by decide, rfl⟩ rfl ⟨Nat.zero_le _, Nat.zero_le _⟩ (kX10_next hB.1 hT (s := s) (by have := hz.1; omega) (hd.here hz hlv) ef (hd.ok ef)) (zOb_of rfl) rfl rfl (Nat.le_of_ble_eq_true rfl) (fun M2 q2 => ?_)
          refine zV_goto (pc := 120) (tgt := 161) dX10_atom3_120 (by decide) ?_
          refine zV_iload_n (pc := 161) (i := 1) dX10_atom3_161 rfl rfl ?_
          refine zV_iret (pc := 162) dX10_atom3_162 trivial ⟨Nat.zero_le _, Nat.zero_le _⟩ ?_
          rw [e]
          first
            | exact ⟨rfl, q2.1, (q2.2 _ _ (by unfold zNF; omega)).trans h25, q2.2.mono (fun a j y => zNF_G y), s.vl, rfl, by omega, fun _ => (zvl_n hv2.1).up (by decide)⟩
            | exact ⟨rfl, q2.1, (q2.2 _ _ (by unfold zNH; omega)).trans h25, q2.2.mono (fun a j y => zNH_G y), 0, rfl, by decide, fun y => absurd y (zfl_ft hz)⟩
    · refine zV_aload_n (pc := 46) (i := 0) dX10_atom3_46 rfl rfl ?_
      refine zV_ivs (pc := 47) (ci := 10) dX10_atom3_47 klX10_204 mX10_opens ⟨by decide, rfl⟩ rfl ⟨Nat.zero_le _, Nat.zero_le _⟩ (kX10_opens hB.1 hT hd hz h25 (by decide) ⟨by omega, by omega⟩) (zOb_of rfl) rfl rfl (Nat.le_of_ble_eq_true rfl) ?_
      rintro w9 N9 M1 ⟨rfl, ⟨o9, rfl, d1, f1⟩ | ⟨o9, rfl, d1, o1, f1⟩⟩
      · exact absurd o9 (by decide)
      · have e : zOneS tp z fa fe s = ((fe (zadv tp z s)).1, znd tp z 41 (fe (zadv tp z s)).2) := (if_neg (by omega)).trans ((if_neg (by omega)).trans ((if_neg c_8).trans (if_pos c_43)))
        have ga := (zgx_ad hT hz (s := s) ⟨by omega, by omega⟩).1
        have hB1 := hB.fr f1
        refine zV_if_eq (pc := 50) (tgt := 161) dX10_atom3_50 (by decide) (by omega) (fun c_50 => absurd c_50 (by decide)) (fun c_50 => ?_)
        refine zV_aload_n (pc := 53) (i := 0) dX10_atom3_53 rfl rfl ?_
        refine zV_ivs (pc := 54) (ci := 10) dX10_atom3_54 klX10_247 mX10_either4 ⟨by decide, rfl⟩ rfl ⟨Nat.zero_le _, Nat.zero_le _⟩ (hKe M1 (zadv tp z s) hB1 d1 ga.1 o1) (zOb_of rfl) rfl rfl (Nat.le_of_ble_eq_true rfl) ?_
        rintro w8 N8 M2 ⟨rfl, d2, o2, f2, u, rfl, r2, v2⟩
        have gb := he _ ga.1
        refine zV_istore_n (pc := 57) (i := 1) dX10_atom3_57 rfl rfl ?_
        try dsimp only [List.set_cons_succ, List.set_cons_zero]
        refine zV_aload_n (pc := 58) (i := 0) dX10_atom3_58 rfl rfl ?_
        refine zV_bipush (pc := 59) dX10_atom3_59 (by decide) ?_
        refine zV_ivp (pc := 61) (ci := 10) dX10_atom3_61 klX10_201 mX10_isSign ⟨by decide, rfl⟩ rfl ⟨Nat.zero_le _, Nat.zero_le _⟩ (kX10_isSign d2 gb.1.1 (by decide)) (zOb_of rfl) rfl rfl (Nat.le_of_ble_eq_true rfl) ?_
        refine zV_if_neb (pc := 64) (tgt := 71) dX10_atom3_64 (by decide) (fun c_64 => ?_) (fun c_64 => ?_)
        · have hlv2 : zlive (fe (zadv tp z s)).2 := ⟨by omega, by omega⟩
          have e2 : znd tp z 41 (fe (zadv tp z s)).2 = zadv tp z (fe (zadv tp z s)).2 := if_pos c_64
          refine zV_aload_n (pc := 71) (i := 0) dX10_atom3_71 rfl rfl ?_
          refine zV_dup (pc := 72) dX10_atom3_72 (by simp) ?_
          refine zV_get (pc := 73) (j := 25) dX10_atom3_73 flX10_170 (zOb_of rfl) rfl o2 ?_
          refine zV_iconst (pc := 76) dX10_atom3_76 ?_
          refine zV_isub (pc := 77) dX10_atom3_77 ?_
          refine zV_put (pc := 78) (j := 25) dX10_atom3_78 flX10_170 rfl (zOb_of rfl) rfl trivial ?_
          refine zV_aload_n (pc := 81) (i := 0) dX10_atom3_81 rfl rfl ?_
          refine zV_get (pc := 82) (j := 26) dX10_atom3_82 flX10_160 (zOb_of rfl) rfl ((zU_j _ _ _ _ (by decide)).trans (d2.ok (gb.1.1.live hlv2))) ?_
          refine zV_if_ne (pc := 85) (tgt := 161) dX10_atom3_85 (by decide) (by omega) (fun c_85 => absurd c_85 (by decide)) (fun c_85 => ?_)
          refine zV_aload_n (pc := 88) (i := 0) dX10_atom3_88 rfl rfl ?_
          refine zV_ivn (pc := 89) (ci := 10) dX10_atom3_89 klX10_176 mX10_next ⟨by decide, rfl⟩ rfl ⟨Nat.zero_le _, Nat.zero_le _⟩ (kX10_next (hB1.fr (f2.up (a := 58) (j := 25) (z := 3) ⟨rfl, by decide, by decide⟩)).1 hT (s := (fe (zadv tp z s)).2) (by have := gb.1.1.1; omega) ((zU_j _ _ _ _ (by decide)).trans (d2.here gb.1.1 hlv2)) (gb.1.1.live hlv2) ((zU_j _ _ _ _ (by decide)).trans (d2.ok (gb.1.1.live hlv2)))) (zOb_of rfl) rfl rfl (Nat.le_of_ble_eq_true rfl) (fun M3 q3 => ?_)
          refine zV_goto (pc := 92) (tgt := 161) dX10_atom3_92 (by decide) ?_
          refine zV_iload_n (pc := 161) (i := 1) dX10_atom3_161 rfl rfl ?_
          refine zV_iret (pc := 162) dX10_atom3_162 trivial ⟨Nat.zero_le _, Nat.zero_le _⟩ ?_
          rw [e, e2]
          first
            | exact ⟨rfl, q3.1.same (fun j j0 j1 j2 => zU_j _ _ _ _ j2), (zU_s _ _ _ _).trans (by omega), ((f1.tr f2).tr (q3.2.mono (fun a j y => zNH_G y))).up ⟨rfl, by decide, by decide⟩, u, rfl, r2, fun y => absurd y (zfl_ft gb.1.1)⟩
            | exact ⟨rfl, q3.1, (q3.2 _ _ (by unfold zNF; omega)).trans ((zU_s _ _ _ _).trans (by omega)), (f1.tr (f2.up (a := 58) (j := 25) ⟨rfl, by decide, by decide⟩)).tr (q3.2.mono (fun a j y => zNF_G y)), u, rfl, r2, fun _ => (v2 (gb.1.1.live hlv2)).up (by decide)⟩
            | exact ⟨rfl, q3.1, (q3.2 _ _ (by unfold zNF; omega)).trans (zU_s _ _ _ _), (f1.tr (f2.up (a := 58) (j := 25) ⟨rfl, by decide, by decide⟩)).tr (q3.2.mono (fun a j y => zNF_G y)), u, rfl, r2, fun _ => (v2 (gb.1.1.live hlv2)).up (by decide)⟩
        · have e2 : znd tp z 41 (fe (zadv tp z s)).2 = zfl (fe (zadv tp z s)).2 := if_neg c_64
          refine zV_aload_n (pc := 67) (i := 0) dX10_atom3_67 rfl rfl ?_
          refine zV_ivn (pc := 68) (ci := 10) dX10_atom3_68 klX10_173 mX10_fail ⟨by decide, rfl⟩ rfl ⟨Nat.zero_le _, Nat.zero_le _⟩ (kX10_fail d2 gb.1.1) (zOb_of rfl) rfl rfl (Nat.le_of_ble_eq_true rfl) (fun M3 q3 => ?_)
          have o3 : M3 58 25 = 4 := (q3.2 _ _ (by unfold zNH; omega)).trans o2
          refine zV_aload_n (pc := 71) (i := 0) dX10_atom3_71 rfl rfl ?_
          refine zV_dup (pc := 72) dX10_atom3_72 (by simp) ?_
          refine zV_get (pc := 73) (j := 25) dX10_atom3_73 flX10_170 (zOb_of rfl) rfl rfl ?_
          refine zV_iconst (pc := 76) dX10_atom3_76 ?_
          refine zV_isub (pc := 77) dX10_atom3_77 ?_
          refine zV_put (pc := 78) (j := 25) dX10_atom3_78 flX10_170 rfl (zOb_of rfl) rfl trivial ?_
          refine zV_aload_n (pc := 81) (i := 0) dX10_atom3_81 rfl rfl ?_
          refine zV_get (pc := 82) (j := 26) dX10_atom3_82 flX10_160 (zOb_of rfl) rfl ((zU_j _ _ _ _ (by decide)).trans (q3.1.bad (zfl_ft gb.1.1))) ?_
          refine zV_if_ne (pc := 85) (tgt := 161) dX10_atom3_85 (by decide) (by decide) (fun _ => ?_) (fun y => absurd y (by decide))
          refine zV_iload_n (pc := 161) (i := 1) dX10_atom3_161 rfl rfl ?_
          refine zV_iret (pc := 162) dX10_atom3_162 trivial ⟨Nat.zero_le _, Nat.zero_le _⟩ ?_
          rw [e, e2]
          first
            | exact ⟨rfl, q3.1.same (fun j j0 j1 j2 => zU_j _ _ _ _ j2), (zU_s _ _ _ _).trans (by omega), ((f1.tr f2).tr (q3.2.mono (fun a j y => zNH_G y))).up ⟨rfl, by decide, by decide⟩, u, rfl, r2, fun y => absurd y (zfl_ft gb.1.1)⟩
            | exact ⟨rfl, q3.1, (q3.2 _ _ (by unfold zNF; omega)).trans ((zU_s _ _ _ _).trans (by omega)), (f1.tr (f2.up (a := 58) (j := 25) ⟨rfl, by decide, by decide⟩)).tr (q3.2.mono (fun a j y => zNF_G y)), u, rfl, r2, fun _ => (v2 (gb.1.1.live hlv2)).up (by decide)⟩
            | exact ⟨rfl, q3.1, (q3.2 _ _ (by unfold zNF; omega)).trans (zU_s _ _ _ _), (f1.tr (f2.up (a := 58) (j := 25) ⟨rfl, by decide, by decide⟩)).tr (q3.2.mono (fun a j y => zNF_G y)), u, rfl, r2, fun _ => (v2 (gb.1.1.live hlv2)).up (by decide)⟩
  · refine zV_aload_n (pc := 11) (i := 0) dX10_atom3_11 rfl rfl ?_
    refine zV_ivs (pc := 12) (ci := 10) dX10_atom3_12 klX10_204 mX10_opens ⟨by decide, rfl⟩ rfl ⟨Nat.zero_le _, Nat.zero_le _⟩ (kX10_opens hB.1 hT hd hz h25 (by decide) ⟨by omega, by omega⟩) (zOb_of rfl) rfl rfl (Nat.le_of_ble_eq_true rfl) ?_
    rintro w9 N9 M1 ⟨rfl, ⟨o9, rfl, d1, f1⟩ | ⟨o9, rfl, d1, o1, f1⟩⟩
    · exact absurd o9 (by decide)
    · have e : zOneS tp z fa fe s = ((fa (zadv tp z s)).1 ++ [-19], (fa (zadv tp z s)).2) := (if_neg (by omega)).trans ((if_neg (by omega)).trans (if_pos c_8))
      have ga := (zgx_ad hT hz (s := s) ⟨by omega, by omega⟩).1
      have hB1 := hB.fr f1
      refine zV_if_eq (pc := 15) (tgt := 161) dX10_atom3_15 (by decide) (by omega) (fun c_15 => absurd c_15 (by decide)) (fun c_15 => ?_)
      refine zV_aload_n (pc := 18) (i := 0) dX10_atom3_18 rfl rfl ?_
      refine zV_ivs (pc := 19) (ci := 10) dX10_atom3_19 klX10_232 mX10_atom4 ⟨by decide, rfl⟩ rfl ⟨Nat.zero_le _, Nat.zero_le _⟩ (hKa M1 (zadv tp z s) hB1 d1 ga.1 o1) (zOb_of rfl) rfl rfl (Nat.le_of_ble_eq_true rfl) ?_
      rintro w8 N8 M2 ⟨rfl, d2, o2, f2, u, rfl, r2, v2⟩
      refine zV_ineg (pc := 22) dX10_atom3_22 ?_
      refine zV_zw ?_
      refine zV_istore_n (pc := 23) (i := 1) dX10_atom3_23 rfl rfl ?_
      try dsimp only [List.set_cons_succ, List.set_cons_zero]
      refine zV_aload_n (pc := 24) (i := 0) dX10_atom3_24 rfl rfl ?_
      refine zV_dup (pc := 25) dX10_atom3_25 (by simp) ?_
      refine zV_get (pc := 26) (j := 25) dX10_atom3_26 flX10_170 (zOb_of rfl) rfl o2 ?_
      refine zV_iconst (pc := 29) dX10_atom3_29 ?_
      refine zV_isub (pc := 30) dX10_atom3_30 ?_
      refine zV_put (pc := 31) (j := 25) dX10_atom3_31 flX10_170 rfl (zOb_of rfl) rfl trivial ?_
      refine zV_goto (pc := 34) (tgt := 161) dX10_atom3_34 (by decide) ?_
      refine zV_iload_n (pc := 161) (i := 1) dX10_atom3_161 rfl rfl ?_
      refine zV_iret (pc := 162) dX10_atom3_162 trivial ⟨Nat.zero_le _, Nat.zero_le _⟩ ?_
      rw [e]
      refine ⟨rfl, d2.same (fun j j0 j1 j2 => zU_j _ _ _ _ j2), (zU_s _ _ _ _).trans (by omega), (f1.tr f2).up ⟨rfl, by decide, by decide⟩, zw (-u), rfl, ?_, fun y => ?_⟩
      · have := zop1_r (-19) u
        exact this
      · exact (zvl_1 (v2 y) (Or.inr rfl)).up (by decide)
set_option maxRecDepth 20000 in
set_option maxHeartbeats 2000000 in
theorem kX10_term3L {f z : Int} {tp nm : Int → Int} (hT : ztp tp z) (hN : ∀ j : Int, 0 ≤ j → j ≤ 5 → -2147483648 ≤ nm j ∧ nm j ≤ 2147483647) {fn : zσ → zρ} (hf : zgd z fn) (hK1 : zMf g yX10_atom3 xX10_atom3 f tp z nm 3 11 fn) {V : zρ} {M0 : zM} : ∀ (k : Nat) (v : Int) (x : zρ) (M1 : zM), (z - x.2.at < k ∨ ¬ (fun t : Int => t = 42) x.2.tk) → zMB M1 f tp z nm → zMd tp M1 x.2 → zσo z x.2 → M1 58 25 = 3 → zFr zNG M0 M1 → (-2147483648 ≤ v ∧ v ≤ 2147483647) → (x.2.ft = -1 → zvl nm (11 + 1) x.1 v) → zlo tp z (fun t => t = 42) (fun t => (-18 : Int)) fn k x = V → zV g xX10_term3 (zMQ tp 3 (11 + 1) nm V M0) 5 [zr 58, zi v] [] 75 M1 0 0 := by
  intro k
  induction k with
  | zero =>
    intro v x M1 h0 h1 h2 h3 h4 h5 h6 h7 h8
    have hlvT : (fun t : Int => t = 42) x.2.tk → zlive x.2 := fun q => ⟨by omega, by omega⟩
    refine zV_aload_n (pc := 5) (i := 0) dX10_term3_5 rfl rfl ?_
    refine zV_bipush (pc := 6) dX10_term3_6 (by decide) ?_
    refine zV_ivp (pc := 8) (ci := 10) dX10_term3_8 klX10_201 mX10_isSign ⟨by decide, rfl⟩ rfl ⟨Nat.zero_le _, Nat.zero_le _⟩ (kX10_isSign h2 h3 (by decide)) (zOb_of rfl) rfl rfl (Nat.le_of_ble_eq_true rfl) ?_
    refine zV_if_eqb (pc := 11) (tgt := 28) dX10_term3_11 (by decide) (fun c_11 => ?_) (fun c_11 => ?_)
    · refine zV_iload_n (pc := 28) (i := 1) dX10_term3_28 rfl rfl ?_
      refine zV_iret (pc := 29) dX10_term3_29 trivial ⟨Nat.zero_le _, Nat.zero_le _⟩ ?_
      have e8 := (zlo_f (tp := tp) (z := z) (q := fun t => t = 42) (stp := fun t => (-18 : Int)) (f := fn) (k := 0) (x := x) c_11).symm.trans h8
      rw [← e8]
      exact ⟨rfl, h2, h4, h5, v, rfl, h6, h7⟩
    · exfalso
      exact h0.elim (fun y => by have := h3.1; have y : z - x.2.at < 0 := y; omega) (fun y => y c_11)
  | succ k ih =>
    intro v x M1 h0 h1 h2 h3 h4 h5 h6 h7 h8
    have hlvT : (fun t : Int => t = 42) x.2.tk → zlive x.2 := fun q => ⟨by omega, by omega⟩
    refine zV_aload_n (pc := 5) (i := 0) dX10_term3_5 rfl rfl ?_
    refine zV_bipush (pc := 6) dX10_term3_6 (by decide) ?_
    refine zV_ivp (pc := 8) (ci := 10) dX10_term3_8 klX10_201 mX10_isSign ⟨by decide, rfl⟩ rfl ⟨Nat.zero_le _, Nat.zero_le _⟩ (kX10_isSign h2 h3 (by decide)) (zOb_of rfl) rfl rfl (Nat.le_of_ble_eq_true rfl) ?_
    refine zV_if_eqb (pc := 11) (tgt := 28) dX10_term3_11 (by decide) (fun c_11 => ?_) (fun c_11 => ?_)
    · refine zV_iload_n (pc := 28) (i := 1) dX10_term3_28 rfl rfl ?_
      refine zV_iret (pc := 29) dX10_term3_29 trivial ⟨Nat.zero_le _, Nat.zero_le _⟩ ?_
      have e8 := (zlo_f (tp := tp) (z := z) (q := fun t => t = 42) (stp := fun t => (-18 : Int)) (f := fn) (k := k + 1) (x := x) c_11).symm.trans h8
      rw [← e8]
      exact ⟨rfl, h2, h4, h5, v, rfl, h6, h7⟩
    · have hlv := hlvT c_11
      refine zV_aload_n (pc := 14) (i := 0) dX10_term3_14 rfl rfl ?_
      refine zV_ivn (pc := 15) (ci := 10) dX10_term3_15 klX10_176 mX10_next ⟨by decide, rfl⟩ rfl ⟨Nat.zero_le _, Nat.zero_le _⟩ (kX10_next h1.1 hT (s := x.2) (by have := h3.1; omega) (h2.here h3 hlv) (h3.live hlv) (h2.ok (h3.live hlv))) (zOb_of rfl) rfl rfl (Nat.le_of_ble_eq_true rfl) (fun M2 q2 => ?_)
      have f2 : zFr zNG M1 M2 := q2.2.mono (fun a j y => zNF_G y)
      have hB2 := h1.fr f2
      have ga := (zgx_ad hT h3 hlv).1
      have gf := hf (zadv tp z x.2) ga.1
      refine zV_iload_n (pc := 18) (i := 1) dX10_term3_18 rfl rfl ?_
      refine zV_aload_n (pc := 19) (i := 0) dX10_term3_19 rfl rfl ?_
      refine zV_ivs (pc := 20) (ci := 10) dX10_term3_20 klX10_250 mX10_atom3 ⟨by decide, rfl⟩ rfl ⟨Nat.zero_le _, Nat.zero_le _⟩ (hK1 M2 (zadv tp z x.2) hB2 q2.1 ga.1 ((q2.2 _ _ (by unfold zNF; omega)).trans h4)) (zOb_of rfl) rfl rfl (Nat.le_of_ble_eq_true rfl) ?_
      rintro w9 N9 M3 ⟨rfl, d3, o3, f3, u, rfl, r3, v3⟩
      have e8 := (zlo_t (q := fun t => t = 42) (stp := fun t => (-18 : Int)) (f := fn) (k := k) c_11).symm.trans h8
      refine zV_imul (pc := 23) dX10_term3_23 ?_
      refine zV_zw ?_
      refine zV_istore_n (pc := 24) (i := 1) dX10_term3_24 rfl rfl ?_
      try dsimp only [List.set_cons_succ, List.set_cons_zero]
      refine zV_goto (pc := 25) (tgt := 5) dX10_term3_25 (by decide) ?_
      have hz9 : (fn (zadv tp z x.2)).2.ft = -1 → x.2.ft = -1 := fun _ => h3.live hlv
      have hms : z - (fn (zadv tp z x.2)).2.at < k ∨ ¬ (fun t : Int => t = 42) (fn (zadv tp z x.2)).2.tk := by
        by_cases q : (fun t : Int => t = 42) (fn (zadv tp z x.2)).2.tk
        · have l := gf.2.1 ⟨by omega, by omega⟩
          have l2 := ga.2.2.1
          exact Or.inl (by show z - (fn (zadv tp z x.2)).2.at < k; omega)
        · exact Or.inr q
      first
        | (have ev : zw (v * u) = zopr (-18) v u := (zopr_18 (by decide)).symm
           have eo : (fun t : Int => (-18 : Int)) x.2.tk = -18 := by first | rfl | exact if_pos (by omega) | exact if_neg (by omega)
           have hv9 : (fn (zadv tp z x.2)).2.ft = -1 → zvl nm (11 + 1) (x.1 ++ (fn (zadv tp z x.2)).1 ++ [(fun t : Int => (-18 : Int)) x.2.tk]) (zopr (-18) v u) := fun y => by rw [eo]; exact zvl_2u (h7 (hz9 y)) (v3 y) (by decide)
           rw [← ev] at hv9
           refine ih _ (x.1 ++ (fn (zadv tp z x.2)).1 ++ [(fun t : Int => (-18 : Int)) x.2.tk], (fn (zadv tp z x.2)).2) M3 hms (hB2.fr f3) d3 gf.1.1 o3 ((h5.tr f2).tr f3) ?_ hv9 e8
           rw [ev]
           exact zopr_r _ _ _)
set_option maxRecDepth 20000 in
set_option maxHeartbeats 2000000 in
theorem kX10_term3 {f z : Int} {tp nm : Int → Int} (hT : ztp tp z) (hN : ∀ j : Int, 0 ≤ j → j ≤ 5 → -2147483648 ≤ nm j ∧ nm j ≤ 2147483647) {fn : zσ → zρ} (hf : zgd z fn) (hK1 : zMf g yX10_atom3 xX10_atom3 f tp z nm 3 11 fn) : zMf g yX10_term3 xX10_term3 f tp z nm 3 (11 + 1) (zTerm tp z fn) := by
  intro M s hB hd hz h25
  refine zK_of (ls0 := [zr 58, (3, 0)]) (by decide) rfl (by decide) rfl (Nat.le_of_ble_eq_true rfl) ?_
  refine zV_aload_n (pc := 0) (i := 0) dX10_term3_0 rfl rfl ?_
  refine zV_ivs (pc := 1) (ci := 10) dX10_term3_1 klX10_250 mX10_atom3 ⟨by decide, rfl⟩ rfl ⟨Nat.zero_le _, Nat.zero_le _⟩ (hK1 M s hB hd hz h25) (zOb_of rfl) rfl rfl (Nat.le_of_ble_eq_true rfl) ?_
  rintro w9 N9 M1 ⟨rfl, d1, o1, f1, v, rfl, r1, v1⟩
  refine zV_istore_n (pc := 4) (i := 1) dX10_term3_4 rfl rfl ?_
  try dsimp only [List.set_cons_succ, List.set_cons_zero]
  have gf := hf s hz
  exact kX10_term3L hT hN hf hK1 160 v (fn s) M1 (by
    by_cases q : (fun t : Int => t = 42) (fn s).2.tk
    · have l := gf.2.1 ⟨by omega, by omega⟩
      have l2 := hz.1
      exact Or.inl (by show z - (fn s).2.at < 160; have := hT.1; omega)
    · exact Or.inr q) (hB.fr f1) d1 gf.1.1 o1 f1 r1 (fun y => (v1 y).up (Nat.le_succ _)) rfl
set_option maxRecDepth 20000 in
set_option maxHeartbeats 2000000 in
theorem kX10_added3L {f z : Int} {tp nm : Int → Int} (hT : ztp tp z) (hN : ∀ j : Int, 0 ≤ j → j ≤ 5 → -2147483648 ≤ nm j ∧ nm j ≤ 2147483647) {fn : zσ → zρ} (hf : zgd z fn) (hK1 : zMf g yX10_term3 xX10_term3 f tp z nm 3 12 fn) {V : zρ} {M0 : zM} : ∀ (k : Nat) (v : Int) (x : zρ) (M1 : zM) (w2 : zv) (w3 : zv), (z - x.2.at < k ∨ ¬ (fun t : Int => t = 43 ∨ t = 45) x.2.tk) → zMB M1 f tp z nm → zMd tp M1 x.2 → zσo z x.2 → M1 58 25 = 3 → zFr zNG M0 M1 → (-2147483648 ≤ v ∧ v ≤ 2147483647) → (x.2.ft = -1 → zvl nm (12 + 1) x.1 v) → zlo tp z (fun t => t = 43 ∨ t = 45) (fun t => if t = 43 then (-16 : Int) else -17) fn k x = V → zV g xX10_added3 (zMQ tp 3 (12 + 1) nm V M0) 5 [zr 58, zi v, w2, w3] [] 75 M1 0 0 := by
  intro k
  induction k with
  | zero =>
    intro v x M1 w2 w3 h0 h1 h2 h3 h4 h5 h6 h7 h8
    have hlvT : (fun t : Int => t = 43 ∨ t = 45) x.2.tk → zlive x.2 := fun q => ⟨by omega, by omega⟩
    refine zV_aload_n (pc := 5) (i := 0) dX10_added3_5 rfl rfl ?_
    refine zV_bipush (pc := 6) dX10_added3_6 (by decide) ?_
    refine zV_ivp (pc := 8) (ci := 10) dX10_added3_8 klX10_201 mX10_isSign ⟨by decide, rfl⟩ rfl ⟨Nat.zero_le _, Nat.zero_le _⟩ (kX10_isSign h2 h3 (by decide)) (zOb_of rfl) rfl rfl (Nat.le_of_ble_eq_true rfl) ?_
    refine zV_if_neb (pc := 11) (tgt := 23) dX10_added3_11 (by decide) (fun c_11 => ?_) (fun c_11 => ?_)
    · exfalso
      exact h0.elim (fun y => by have := h3.1; have y : z - x.2.at < 0 := y; omega) (fun y => y (by first | exact Or.inl c_11 | exact Or.inr c_20))
    · refine zV_aload_n (pc := 14) (i := 0) dX10_added3_14 rfl rfl ?_
      refine zV_bipush (pc := 15) dX10_added3_15 (by decide) ?_
      refine zV_ivp (pc := 17) (ci := 10) dX10_added3_17 klX10_201 mX10_isSign ⟨by decide, rfl⟩ rfl ⟨Nat.zero_le _, Nat.zero_le _⟩ (kX10_isSign h2 h3 (by decide)) (zOb_of rfl) rfl rfl (Nat.le_of_ble_eq_true rfl) ?_
      refine zV_if_eqb (pc := 20) (tgt := 66) dX10_added3_20 (by decide) (fun c_20 => ?_) (fun c_20 => ?_)
      · refine zV_iload_n (pc := 66) (i := 1) dX10_added3_66 rfl rfl ?_
        refine zV_iret (pc := 67) dX10_added3_67 trivial ⟨Nat.zero_le _, Nat.zero_le _⟩ ?_
        have e8 := (zlo_f (tp := tp) (z := z) (q := fun t => t = 43 ∨ t = 45) (stp := fun t => if t = 43 then (-16 : Int) else -17) (f := fn) (k := 0) (x := x) (fun y => y.elim c_11 c_20)).symm.trans h8
        rw [← e8]
        exact ⟨rfl, h2, h4, h5, v, rfl, h6, h7⟩
      · exfalso
        exact h0.elim (fun y => by have := h3.1; have y : z - x.2.at < 0 := y; omega) (fun y => y (by first | exact Or.inl c_11 | exact Or.inr c_20))
  | succ k ih =>
    intro v x M1 w2 w3 h0 h1 h2 h3 h4 h5 h6 h7 h8
    have hlvT : (fun t : Int => t = 43 ∨ t = 45) x.2.tk → zlive x.2 := fun q => ⟨by omega, by omega⟩
    refine zV_aload_n (pc := 5) (i := 0) dX10_added3_5 rfl rfl ?_
    refine zV_bipush (pc := 6) dX10_added3_6 (by decide) ?_
    refine zV_ivp (pc := 8) (ci := 10) dX10_added3_8 klX10_201 mX10_isSign ⟨by decide, rfl⟩ rfl ⟨Nat.zero_le _, Nat.zero_le _⟩ (kX10_isSign h2 h3 (by decide)) (zOb_of rfl) rfl rfl (Nat.le_of_ble_eq_true rfl) ?_
    refine zV_if_neb (pc := 11) (tgt := 23) dX10_added3_11 (by decide) (fun c_11 => ?_) (fun c_11 => ?_)
    · have hlv := hlvT (by first | exact Or.inl c_11 | exact Or.inr c_20)
      have h24 : M1 58 24 = x.2.tk := by
        have ht := (h2.2.2 (h3.live hlv)).2
        have hw := zwt_r (tp := tp) (s := x.2.sa) (e := x.2.at) 12 (Nat.le_refl _)
        have hw0 : zwt tp x.2.sa x.2.at 12 ≤ 11 := by omega
        unfold zMt at ht
        omega
      refine zV_aload_n (pc := 23) (i := 0) dX10_added3_23 rfl rfl ?_
      refine zV_get (pc := 24) (j := 24) dX10_added3_24 flX10_154 (zOb_of rfl) rfl h24 ?_
      refine zV_ldc2 (pc := 27) dX10_added3_27 kiX10_218 ?_
      refine zV_lcmp (pc := 30) dX10_added3_30 (by have := h3.2.2.2.2.1; omega) ?_
      refine zV_if_nec (pc := 31) (tgt := 38) dX10_added3_31 (by decide) (fun c_31 => ?_) (fun c_31 => ?_)
      · refine zV_iconst (pc := 38) dX10_added3_38 ?_
        refine zV_istore_n (pc := 39) (i := 2) dX10_added3_39 rfl rfl ?_
        try dsimp only [List.set_cons_succ, List.set_cons_zero]
        refine zV_aload_n (pc := 40) (i := 0) dX10_added3_40 rfl rfl ?_
        refine zV_ivn (pc := 41) (ci := 10) dX10_added3_41 klX10_176 mX10_next ⟨by decide, rfl⟩ rfl ⟨Nat.zero_le _, Nat.zero_le _⟩ (kX10_next h1.1 hT (s := x.2) (by have := h3.1; omega) (h2.here h3 hlv) (h3.live hlv) (h2.ok (h3.live hlv))) (zOb_of rfl) rfl rfl (Nat.le_of_ble_eq_true rfl) (fun M2 q2 => ?_)
        have f2 : zFr zNG M1 M2 := q2.2.mono (fun a j y => zNF_G y)
        have hB2 := h1.fr f2
        have ga := (zgx_ad hT h3 hlv).1
        have gf := hf (zadv tp z x.2) ga.1
        refine zV_aload_n (pc := 44) (i := 0) dX10_added3_44 rfl rfl ?_
        refine zV_ivs (pc := 45) (ci := 10) dX10_added3_45 klX10_253 mX10_term3 ⟨by decide, rfl⟩ rfl ⟨Nat.zero_le _, Nat.zero_le _⟩ (hK1 M2 (zadv tp z x.2) hB2 q2.1 ga.1 ((q2.2 _ _ (by unfold zNF; omega)).trans h4)) (zOb_of rfl) rfl rfl (Nat.le_of_ble_eq_true rfl) ?_
        rintro w9 N9 M3 ⟨rfl, d3, o3, f3, u, rfl, r3, v3⟩
        have e8 := (zlo_t (q := fun t => t = 43 ∨ t = 45) (stp := fun t => if t = 43 then (-16 : Int) else -17) (f := fn) (k := k) (by first | exact Or.inl c_11 | exact Or.inr c_20)).symm.trans h8
        refine zV_istore_n (pc := 48) (i := 3) dX10_added3_48 rfl rfl ?_
        try dsimp only [List.set_cons_succ, List.set_cons_zero]
        refine zV_iload_n (pc := 49) (i := 2) dX10_added3_49 rfl rfl ?_
        refine zV_if_eq (pc := 50) (tgt := 59) dX10_added3_50 (by decide) (by omega) (fun c_50 => ?_) (fun c_50 => ?_)
        · refine zV_iload_n (pc := 59) (i := 1) dX10_added3_59 rfl rfl ?_
          refine zV_iload_n (pc := 60) (i := 3) dX10_added3_60 rfl rfl ?_
          refine zV_isub (pc := 61) dX10_added3_61 ?_
          refine zV_zw ?_
          refine zV_istore_n (pc := 62) (i := 1) dX10_added3_62 rfl rfl ?_
          try dsimp only [List.set_cons_succ, List.set_cons_zero]
          refine zV_goto (pc := 63) (tgt := 5) dX10_added3_63 (by decide) ?_
          have hz9 : (fn (zadv tp z x.2)).2.ft = -1 → x.2.ft = -1 := fun _ => h3.live hlv
          have hms : z - (fn (zadv tp z x.2)).2.at < k ∨ ¬ (fun t : Int => t = 43 ∨ t = 45) (fn (zadv tp z x.2)).2.tk := by
            by_cases q : (fun t : Int => t = 43 ∨ t = 45) (fn (zadv tp z x.2)).2.tk
            · have l := gf.2.1 ⟨by omega, by omega⟩
              have l2 := ga.2.2.1
              exact Or.inl (by show z - (fn (zadv tp z x.2)).2.at < k; omega)
            · exact Or.inr q
          first
            | (have ev : zw (v + u) = zopr (-16) v u := zopr_16.symm
               have eo : (fun t : Int => if t = 43 then (-16 : Int) else -17) x.2.tk = -16 := by first | rfl | exact if_pos (by omega) | exact if_neg (by omega)
               have hv9 : (fn (zadv tp z x.2)).2.ft = -1 → zvl nm (12 + 1) (x.1 ++ (fn (zadv tp z x.2)).1 ++ [(fun t : Int => if t = 43 then (-16 : Int) else -17) x.2.tk]) (zopr (-16) v u) := fun y => by rw [eo]; exact zvl_2u (h7 (hz9 y)) (v3 y) (by decide)
               rw [← ev] at hv9
               refine ih _ (x.1 ++ (fn (zadv tp z x.2)).1 ++ [(fun t : Int => if t = 43 then (-16 : Int) else -17) x.2.tk], (fn (zadv tp z x.2)).2) M3 _ _ hms (hB2.fr f3) d3 gf.1.1 o3 ((h5.tr f2).tr f3) ?_ hv9 e8
               rw [ev]
               exact zopr_r _ _ _)
            | (have ev : zw (v - u) = zopr (-17) v u := zopr_17.symm
               have eo : (fun t : Int => if t = 43 then (-16 : Int) else -17) x.2.tk = -17 := by first | rfl | exact if_pos (by omega) | exact if_neg (by omega)
               have hv9 : (fn (zadv tp z x.2)).2.ft = -1 → zvl nm (12 + 1) (x.1 ++ (fn (zadv tp z x.2)).1 ++ [(fun t : Int => if t = 43 then (-16 : Int) else -17) x.2.tk]) (zopr (-17) v u) := fun y => by rw [eo]; exact zvl_2u (h7 (hz9 y)) (v3 y) (by decide)
               rw [← ev] at hv9
               refine ih _ (x.1 ++ (fn (zadv tp z x.2)).1 ++ [(fun t : Int => if t = 43 then (-16 : Int) else -17) x.2.tk], (fn (zadv tp z x.2)).2) M3 _ _ hms (hB2.fr f3) d3 gf.1.1 o3 ((h5.tr f2).tr f3) ?_ hv9 e8
               rw [ev]
               exact zopr_r _ _ _)
        · refine zV_iload_n (pc := 53) (i := 1) dX10_added3_53 rfl rfl ?_
          refine zV_iload_n (pc := 54) (i := 3) dX10_added3_54 rfl rfl ?_
          refine zV_iadd (pc := 55) dX10_added3_55 ?_
          refine zV_goto (pc := 56) (tgt := 62) dX10_added3_56 (by decide) ?_
          refine zV_zw ?_
          refine zV_istore_n (pc := 62) (i := 1) dX10_added3_62 rfl rfl ?_
          try dsimp only [List.set_cons_succ, List.set_cons_zero]
          refine zV_goto (pc := 63) (tgt := 5) dX10_added3_63 (by decide) ?_
          have hz9 : (fn (zadv tp z x.2)).2.ft = -1 → x.2.ft = -1 := fun _ => h3.live hlv
          have hms : z - (fn (zadv tp z x.2)).2.at < k ∨ ¬ (fun t : Int => t = 43 ∨ t = 45) (fn (zadv tp z x.2)).2.tk := by
            by_cases q : (fun t : Int => t = 43 ∨ t = 45) (fn (zadv tp z x.2)).2.tk
            · have l := gf.2.1 ⟨by omega, by omega⟩
              have l2 := ga.2.2.1
              exact Or.inl (by show z - (fn (zadv tp z x.2)).2.at < k; omega)
            · exact Or.inr q
          first
            | (have ev : zw (v + u) = zopr (-16) v u := zopr_16.symm
               have eo : (fun t : Int => if t = 43 then (-16 : Int) else -17) x.2.tk = -16 := by first | rfl | exact if_pos (by omega) | exact if_neg (by omega)
               have hv9 : (fn (zadv tp z x.2)).2.ft = -1 → zvl nm (12 + 1) (x.1 ++ (fn (zadv tp z x.2)).1 ++ [(fun t : Int => if t = 43 then (-16 : Int) else -17) x.2.tk]) (zopr (-16) v u) := fun y => by rw [eo]; exact zvl_2u (h7 (hz9 y)) (v3 y) (by decide)
               rw [← ev] at hv9
               refine ih _ (x.1 ++ (fn (zadv tp z x.2)).1 ++ [(fun t : Int => if t = 43 then (-16 : Int) else -17) x.2.tk], (fn (zadv tp z x.2)).2) M3 _ _ hms (hB2.fr f3) d3 gf.1.1 o3 ((h5.tr f2).tr f3) ?_ hv9 e8
               rw [ev]
               exact zopr_r _ _ _)
            | (have ev : zw (v - u) = zopr (-17) v u := zopr_17.symm
               have eo : (fun t : Int => if t = 43 then (-16 : Int) else -17) x.2.tk = -17 := by first | rfl | exact if_pos (by omega) | exact if_neg (by omega)
               have hv9 : (fn (zadv tp z x.2)).2.ft = -1 → zvl nm (12 + 1) (x.1 ++ (fn (zadv tp z x.2)).1 ++ [(fun t : Int => if t = 43 then (-16 : Int) else -17) x.2.tk]) (zopr (-17) v u) := fun y => by rw [eo]; exact zvl_2u (h7 (hz9 y)) (v3 y) (by decide)
               rw [← ev] at hv9
               refine ih _ (x.1 ++ (fn (zadv tp z x.2)).1 ++ [(fun t : Int => if t = 43 then (-16 : Int) else -17) x.2.tk], (fn (zadv tp z x.2)).2) M3 _ _ hms (hB2.fr f3) d3 gf.1.1 o3 ((h5.tr f2).tr f3) ?_ hv9 e8
               rw [ev]
               exact zopr_r _ _ _)
      · refine zV_iconst (pc := 34) dX10_added3_34 ?_
        refine zV_goto (pc := 35) (tgt := 39) dX10_added3_35 (by decide) ?_
        refine zV_istore_n (pc := 39) (i := 2) dX10_added3_39 rfl rfl ?_
        try dsimp only [List.set_cons_succ, List.set_cons_zero]
        refine zV_aload_n (pc := 40) (i := 0) dX10_added3_40 rfl rfl ?_
        refine zV_ivn (pc := 41) (ci := 10) dX10_added3_41 klX10_176 mX10_next ⟨by decide, rfl⟩ rfl ⟨Nat.zero_le _, Nat.zero_le _⟩ (kX10_next h1.1 hT (s := x.2) (by have := h3.1; omega) (h2.here h3 hlv) (h3.live hlv) (h2.ok (h3.live hlv))) (zOb_of rfl) rfl rfl (Nat.le_of_ble_eq_true rfl) (fun M2 q2 => ?_)
        have f2 : zFr zNG M1 M2 := q2.2.mono (fun a j y => zNF_G y)
        have hB2 := h1.fr f2
        have ga := (zgx_ad hT h3 hlv).1
        have gf := hf (zadv tp z x.2) ga.1
        refine zV_aload_n (pc := 44) (i := 0) dX10_added3_44 rfl rfl ?_
        refine zV_ivs (pc := 45) (ci := 10) dX10_added3_45 klX10_253 mX10_term3 ⟨by decide, rfl⟩ rfl ⟨Nat.zero_le _, Nat.zero_le _⟩ (hK1 M2 (zadv tp z x.2) hB2 q2.1 ga.1 ((q2.2 _ _ (by unfold zNF; omega)).trans h4)) (zOb_of rfl) rfl rfl (Nat.le_of_ble_eq_true rfl) ?_
        rintro w9 N9 M3 ⟨rfl, d3, o3, f3, u, rfl, r3, v3⟩
        have e8 := (zlo_t (q := fun t => t = 43 ∨ t = 45) (stp := fun t => if t = 43 then (-16 : Int) else -17) (f := fn) (k := k) (by first | exact Or.inl c_11 | exact Or.inr c_20)).symm.trans h8
        refine zV_istore_n (pc := 48) (i := 3) dX10_added3_48 rfl rfl ?_
        try dsimp only [List.set_cons_succ, List.set_cons_zero]
        refine zV_iload_n (pc := 49) (i := 2) dX10_added3_49 rfl rfl ?_
        refine zV_if_eq (pc := 50) (tgt := 59) dX10_added3_50 (by decide) (by omega) (fun c_50 => ?_) (fun c_50 => ?_)
        · refine zV_iload_n (pc := 59) (i := 1) dX10_added3_59 rfl rfl ?_
          refine zV_iload_n (pc := 60) (i := 3) dX10_added3_60 rfl rfl ?_
          refine zV_isub (pc := 61) dX10_added3_61 ?_
          refine zV_zw ?_
          refine zV_istore_n (pc := 62) (i := 1) dX10_added3_62 rfl rfl ?_
          try dsimp only [List.set_cons_succ, List.set_cons_zero]
          refine zV_goto (pc := 63) (tgt := 5) dX10_added3_63 (by decide) ?_
          have hz9 : (fn (zadv tp z x.2)).2.ft = -1 → x.2.ft = -1 := fun _ => h3.live hlv
          have hms : z - (fn (zadv tp z x.2)).2.at < k ∨ ¬ (fun t : Int => t = 43 ∨ t = 45) (fn (zadv tp z x.2)).2.tk := by
            by_cases q : (fun t : Int => t = 43 ∨ t = 45) (fn (zadv tp z x.2)).2.tk
            · have l := gf.2.1 ⟨by omega, by omega⟩
              have l2 := ga.2.2.1
              exact Or.inl (by show z - (fn (zadv tp z x.2)).2.at < k; omega)
            · exact Or.inr q
          first
            | (have ev : zw (v + u) = zopr (-16) v u := zopr_16.symm
               have eo : (fun t : Int => if t = 43 then (-16 : Int) else -17) x.2.tk = -16 := by first | rfl | exact if_pos (by omega) | exact if_neg (by omega)
               have hv9 : (fn (zadv tp z x.2)).2.ft = -1 → zvl nm (12 + 1) (x.1 ++ (fn (zadv tp z x.2)).1 ++ [(fun t : Int => if t = 43 then (-16 : Int) else -17) x.2.tk]) (zopr (-16) v u) := fun y => by rw [eo]; exact zvl_2u (h7 (hz9 y)) (v3 y) (by decide)
               rw [← ev] at hv9
               refine ih _ (x.1 ++ (fn (zadv tp z x.2)).1 ++ [(fun t : Int => if t = 43 then (-16 : Int) else -17) x.2.tk], (fn (zadv tp z x.2)).2) M3 _ _ hms (hB2.fr f3) d3 gf.1.1 o3 ((h5.tr f2).tr f3) ?_ hv9 e8
               rw [ev]
               exact zopr_r _ _ _)
            | (have ev : zw (v - u) = zopr (-17) v u := zopr_17.symm
               have eo : (fun t : Int => if t = 43 then (-16 : Int) else -17) x.2.tk = -17 := by first | rfl | exact if_pos (by omega) | exact if_neg (by omega)
               have hv9 : (fn (zadv tp z x.2)).2.ft = -1 → zvl nm (12 + 1) (x.1 ++ (fn (zadv tp z x.2)).1 ++ [(fun t : Int => if t = 43 then (-16 : Int) else -17) x.2.tk]) (zopr (-17) v u) := fun y => by rw [eo]; exact zvl_2u (h7 (hz9 y)) (v3 y) (by decide)
               rw [← ev] at hv9
               refine ih _ (x.1 ++ (fn (zadv tp z x.2)).1 ++ [(fun t : Int => if t = 43 then (-16 : Int) else -17) x.2.tk], (fn (zadv tp z x.2)).2) M3 _ _ hms (hB2.fr f3) d3 gf.1.1 o3 ((h5.tr f2).tr f3) ?_ hv9 e8
               rw [ev]
               exact zopr_r _ _ _)
        · refine zV_iload_n (pc := 53) (i := 1) dX10_added3_53 rfl rfl ?_
          refine zV_iload_n (pc := 54) (i := 3) dX10_added3_54 rfl rfl ?_
          refine zV_iadd (pc := 55) dX10_added3_55 ?_
          refine zV_goto (pc := 56) (tgt := 62) dX10_added3_56 (by decide) ?_
          refine zV_zw ?_
          refine zV_istore_n (pc := 62) (i := 1) dX10_added3_62 rfl rfl ?_
          try dsimp only [List.set_cons_succ, List.set_cons_zero]
          refine zV_goto (pc := 63) (tgt := 5) dX10_added3_63 (by decide) ?_
          have hz9 : (fn (zadv tp z x.2)).2.ft = -1 → x.2.ft = -1 := fun _ => h3.live hlv
          have hms : z - (fn (zadv tp z x.2)).2.at < k ∨ ¬ (fun t : Int => t = 43 ∨ t = 45) (fn (zadv tp z x.2)).2.tk := by
            by_cases q : (fun t : Int => t = 43 ∨ t = 45) (fn (zadv tp z x.2)).2.tk
            · have l := gf.2.1 ⟨by omega, by omega⟩
              have l2 := ga.2.2.1
              exact Or.inl (by show z - (fn (zadv tp z x.2)).2.at < k; omega)
            · exact Or.inr q
          first
            | (have ev : zw (v + u) = zopr (-16) v u := zopr_16.symm
               have eo : (fun t : Int => if t = 43 then (-16 : Int) else -17) x.2.tk = -16 := by first | rfl | exact if_pos (by omega) | exact if_neg (by omega)
               have hv9 : (fn (zadv tp z x.2)).2.ft = -1 → zvl nm (12 + 1) (x.1 ++ (fn (zadv tp z x.2)).1 ++ [(fun t : Int => if t = 43 then (-16 : Int) else -17) x.2.tk]) (zopr (-16) v u) := fun y => by rw [eo]; exact zvl_2u (h7 (hz9 y)) (v3 y) (by decide)
               rw [← ev] at hv9
               refine ih _ (x.1 ++ (fn (zadv tp z x.2)).1 ++ [(fun t : Int => if t = 43 then (-16 : Int) else -17) x.2.tk], (fn (zadv tp z x.2)).2) M3 _ _ hms (hB2.fr f3) d3 gf.1.1 o3 ((h5.tr f2).tr f3) ?_ hv9 e8
               rw [ev]
               exact zopr_r _ _ _)
            | (have ev : zw (v - u) = zopr (-17) v u := zopr_17.symm
               have eo : (fun t : Int => if t = 43 then (-16 : Int) else -17) x.2.tk = -17 := by first | rfl | exact if_pos (by omega) | exact if_neg (by omega)
               have hv9 : (fn (zadv tp z x.2)).2.ft = -1 → zvl nm (12 + 1) (x.1 ++ (fn (zadv tp z x.2)).1 ++ [(fun t : Int => if t = 43 then (-16 : Int) else -17) x.2.tk]) (zopr (-17) v u) := fun y => by rw [eo]; exact zvl_2u (h7 (hz9 y)) (v3 y) (by decide)
               rw [← ev] at hv9
               refine ih _ (x.1 ++ (fn (zadv tp z x.2)).1 ++ [(fun t : Int => if t = 43 then (-16 : Int) else -17) x.2.tk], (fn (zadv tp z x.2)).2) M3 _ _ hms (hB2.fr f3) d3 gf.1.1 o3 ((h5.tr f2).tr f3) ?_ hv9 e8
               rw [ev]
               exact zopr_r _ _ _)
    · refine zV_aload_n (pc := 14) (i := 0) dX10_added3_14 rfl rfl ?_
      refine zV_bipush (pc := 15) dX10_added3_15 (by decide) ?_
      refine zV_ivp (pc := 17) (ci := 10) dX10_added3_17 klX10_201 mX10_isSign ⟨by decide, rfl⟩ rfl ⟨Nat.zero_le _, Nat.zero_le _⟩ (kX10_isSign h2 h3 (by decide)) (zOb_of rfl) rfl rfl (Nat.le_of_ble_eq_true rfl) ?_
      refine zV_if_eqb (pc := 20) (tgt := 66) dX10_added3_20 (by decide) (fun c_20 => ?_) (fun c_20 => ?_)
      · refine zV_iload_n (pc := 66) (i := 1) dX10_added3_66 rfl rfl ?_
        refine zV_iret (pc := 67) dX10_added3_67 trivial ⟨Nat.zero_le _, Nat.zero_le _⟩ ?_
        have e8 := (zlo_f (tp := tp) (z := z) (q := fun t => t = 43 ∨ t = 45) (stp := fun t => if t = 43 then (-16 : Int) else -17) (f := fn) (k := k + 1) (x := x) (fun y => y.elim c_11 c_20)).symm.trans h8
        rw [← e8]
        exact ⟨rfl, h2, h4, h5, v, rfl, h6, h7⟩
      · have hlv := hlvT (by first | exact Or.inl c_11 | exact Or.inr c_20)
        have h24 : M1 58 24 = x.2.tk := by
          have ht := (h2.2.2 (h3.live hlv)).2
          have hw := zwt_r (tp := tp) (s := x.2.sa) (e := x.2.at) 12 (Nat.le_refl _)
          have hw0 : zwt tp x.2.sa x.2.at 12 ≤ 11 := by omega
          unfold zMt at ht
          omega
        refine zV_aload_n (pc := 23) (i := 0) dX10_added3_23 rfl rfl ?_
        refine zV_get (pc := 24) (j := 24) dX10_added3_24 flX10_154 (zOb_of rfl) rfl h24 ?_
        refine zV_ldc2 (pc := 27) dX10_added3_27 kiX10_218 ?_
        refine zV_lcmp (pc := 30) dX10_added3_30 (by have := h3.2.2.2.2.1; omega) ?_
        refine zV_if_nec (pc := 31) (tgt := 38) dX10_added3_31 (by decide) (fun c_31 => ?_) (fun c_31 => ?_)
        · refine zV_iconst (pc := 38) dX10_added3_38 ?_
          refine zV_istore_n (pc := 39) (i := 2) dX10_added3_39 rfl rfl ?_
          try dsimp only [List.set_cons_succ, List.set_cons_zero]
          refine zV_aload_n (pc := 40) (i := 0) dX10_added3_40 rfl rfl ?_
          refine zV_ivn (pc := 41) (ci := 10) dX10_added3_41 klX10_176 mX10_next ⟨by decide, rfl⟩ rfl ⟨Nat.zero_le _, Nat.zero_le _⟩ (kX10_next h1.1 hT (s := x.2) (by have := h3.1; omega) (h2.here h3 hlv) (h3.live hlv) (h2.ok (h3.live hlv))) (zOb_of rfl) rfl rfl (Nat.le_of_ble_eq_true rfl) (fun M2 q2 => ?_)
          have f2 : zFr zNG M1 M2 := q2.2.mono (fun a j y => zNF_G y)
          have hB2 := h1.fr f2
          have ga := (zgx_ad hT h3 hlv).1
          have gf := hf (zadv tp z x.2) ga.1
          refine zV_aload_n (pc := 44) (i := 0) dX10_added3_44 rfl rfl ?_
          refine zV_ivs (pc := 45) (ci := 10) dX10_added3_45 klX10_253 mX10_term3 ⟨by decide, rfl⟩ rfl ⟨Nat.zero_le _, Nat.zero_le _⟩ (hK1 M2 (zadv tp z x.2) hB2 q2.1 ga.1 ((q2.2 _ _ (by unfold zNF; omega)).trans h4)) (zOb_of rfl) rfl rfl (Nat.le_of_ble_eq_true rfl) ?_
          rintro w9 N9 M3 ⟨rfl, d3, o3, f3, u, rfl, r3, v3⟩
          have e8 := (zlo_t (q := fun t => t = 43 ∨ t = 45) (stp := fun t => if t = 43 then (-16 : Int) else -17) (f := fn) (k := k) (by first | exact Or.inl c_11 | exact Or.inr c_20)).symm.trans h8
          refine zV_istore_n (pc := 48) (i := 3) dX10_added3_48 rfl rfl ?_
          try dsimp only [List.set_cons_succ, List.set_cons_zero]
          refine zV_iload_n (pc := 49) (i := 2) dX10_added3_49 rfl rfl ?_
          refine zV_if_eq (pc := 50) (tgt := 59) dX10_added3_50 (by decide) (by omega) (fun c_50 => ?_) (fun c_50 => ?_)
          · refine zV_iload_n (pc := 59) (i := 1) dX10_added3_59 rfl rfl ?_
            refine zV_iload_n (pc := 60) (i := 3) dX10_added3_60 rfl rfl ?_
            refine zV_isub (pc := 61) dX10_added3_61 ?_
            refine zV_zw ?_
            refine zV_istore_n (pc := 62) (i := 1) dX10_added3_62 rfl rfl ?_
            try dsimp only [List.set_cons_succ, List.set_cons_zero]
            refine zV_goto (pc := 63) (tgt := 5) dX10_added3_63 (by decide) ?_
            have hz9 : (fn (zadv tp z x.2)).2.ft = -1 → x.2.ft = -1 := fun _ => h3.live hlv
            have hms : z - (fn (zadv tp z x.2)).2.at < k ∨ ¬ (fun t : Int => t = 43 ∨ t = 45) (fn (zadv tp z x.2)).2.tk := by
              by_cases q : (fun t : Int => t = 43 ∨ t = 45) (fn (zadv tp z x.2)).2.tk
              · have l := gf.2.1 ⟨by omega, by omega⟩
                have l2 := ga.2.2.1
                exact Or.inl (by show z - (fn (zadv tp z x.2)).2.at < k; omega)
              · exact Or.inr q
            first
              | (have ev : zw (v + u) = zopr (-16) v u := zopr_16.symm
                 have eo : (fun t : Int => if t = 43 then (-16 : Int) else -17) x.2.tk = -16 := by first | rfl | exact if_pos (by omega) | exact if_neg (by omega)
                 have hv9 : (fn (zadv tp z x.2)).2.ft = -1 → zvl nm (12 + 1) (x.1 ++ (fn (zadv tp z x.2)).1 ++ [(fun t : Int => if t = 43 then (-16 : Int) else -17) x.2.tk]) (zopr (-16) v u) := fun y => by rw [eo]; exact zvl_2u (h7 (hz9 y)) (v3 y) (by decide)
                 rw [← ev] at hv9
                 refine ih _ (x.1 ++ (fn (zadv tp z x.2)).1 ++ [(fun t : Int => if t = 43 then (-16 : Int) else -17) x.2.tk], (fn (zadv tp z x.2)).2) M3 _ _ hms (hB2.fr f3) d3 gf.1.1 o3 ((h5.tr f2).tr f3) ?_ hv9 e8
                 rw [ev]
                 exact zopr_r _ _ _)
              | (have ev : zw (v - u) = zopr (-17) v u := zopr_17.symm
                 have eo : (fun t : Int => if t = 43 then (-16 : Int) else -17) x.2.tk = -17 := by first | rfl | exact if_pos (by omega) | exact if_neg (by omega)
                 have hv9 : (fn (zadv tp z x.2)).2.ft = -1 → zvl nm (12 + 1) (x.1 ++ (fn (zadv tp z x.2)).1 ++ [(fun t : Int => if t = 43 then (-16 : Int) else -17) x.2.tk]) (zopr (-17) v u) := fun y => by rw [eo]; exact zvl_2u (h7 (hz9 y)) (v3 y) (by decide)
                 rw [← ev] at hv9
                 refine ih _ (x.1 ++ (fn (zadv tp z x.2)).1 ++ [(fun t : Int => if t = 43 then (-16 : Int) else -17) x.2.tk], (fn (zadv tp z x.2)).2) M3 _ _ hms (hB2.fr f3) d3 gf.1.1 o3 ((h5.tr f2).tr f3) ?_ hv9 e8
                 rw [ev]
                 exact zopr_r _ _ _)
          · refine zV_iload_n (pc := 53) (i := 1) dX10_added3_53 rfl rfl ?_
            refine zV_iload_n (pc := 54) (i := 3) dX10_added3_54 rfl rfl ?_
            refine zV_iadd (pc := 55) dX10_added3_55 ?_
            refine zV_goto (pc := 56) (tgt := 62) dX10_added3_56 (by decide) ?_
            refine zV_zw ?_
            refine zV_istore_n (pc := 62) (i := 1) dX10_added3_62 rfl rfl ?_
            try dsimp only [List.set_cons_succ, List.set_cons_zero]
            refine zV_goto (pc := 63) (tgt := 5) dX10_added3_63 (by decide) ?_
            have hz9 : (fn (zadv tp z x.2)).2.ft = -1 → x.2.ft = -1 := fun _ => h3.live hlv
            have hms : z - (fn (zadv tp z x.2)).2.at < k ∨ ¬ (fun t : Int => t = 43 ∨ t = 45) (fn (zadv tp z x.2)).2.tk := by
              by_cases q : (fun t : Int => t = 43 ∨ t = 45) (fn (zadv tp z x.2)).2.tk
              · have l := gf.2.1 ⟨by omega, by omega⟩
                have l2 := ga.2.2.1
                exact Or.inl (by show z - (fn (zadv tp z x.2)).2.at < k; omega)
              · exact Or.inr q
            first
              | (have ev : zw (v + u) = zopr (-16) v u := zopr_16.symm
                 have eo : (fun t : Int => if t = 43 then (-16 : Int) else -17) x.2.tk = -16 := by first | rfl | exact if_pos (by omega) | exact if_neg (by omega)
                 have hv9 : (fn (zadv tp z x.2)).2.ft = -1 → zvl nm (12 + 1) (x.1 ++ (fn (zadv tp z x.2)).1 ++ [(fun t : Int => if t = 43 then (-16 : Int) else -17) x.2.tk]) (zopr (-16) v u) := fun y => by rw [eo]; exact zvl_2u (h7 (hz9 y)) (v3 y) (by decide)
                 rw [← ev] at hv9
                 refine ih _ (x.1 ++ (fn (zadv tp z x.2)).1 ++ [(fun t : Int => if t = 43 then (-16 : Int) else -17) x.2.tk], (fn (zadv tp z x.2)).2) M3 _ _ hms (hB2.fr f3) d3 gf.1.1 o3 ((h5.tr f2).tr f3) ?_ hv9 e8
                 rw [ev]
                 exact zopr_r _ _ _)
              | (have ev : zw (v - u) = zopr (-17) v u := zopr_17.symm
                 have eo : (fun t : Int => if t = 43 then (-16 : Int) else -17) x.2.tk = -17 := by first | rfl | exact if_pos (by omega) | exact if_neg (by omega)
                 have hv9 : (fn (zadv tp z x.2)).2.ft = -1 → zvl nm (12 + 1) (x.1 ++ (fn (zadv tp z x.2)).1 ++ [(fun t : Int => if t = 43 then (-16 : Int) else -17) x.2.tk]) (zopr (-17) v u) := fun y => by rw [eo]; exact zvl_2u (h7 (hz9 y)) (v3 y) (by decide)
                 rw [← ev] at hv9
                 refine ih _ (x.1 ++ (fn (zadv tp z x.2)).1 ++ [(fun t : Int => if t = 43 then (-16 : Int) else -17) x.2.tk], (fn (zadv tp z x.2)).2) M3 _ _ hms (hB2.fr f3) d3 gf.1.1 o3 ((h5.tr f2).tr f3) ?_ hv9 e8
                 rw [ev]
                 exact zopr_r _ _ _)
        · refine zV_iconst (pc := 34) dX10_added3_34 ?_
          refine zV_goto (pc := 35) (tgt := 39) dX10_added3_35 (by decide) ?_
          refine zV_istore_n (pc := 39) (i := 2) dX10_added3_39 rfl rfl ?_
          try dsimp only [List.set_cons_succ, List.set_cons_zero]
          refine zV_aload_n (pc := 40) (i := 0) dX10_added3_40 rfl rfl ?_
          refine zV_ivn (pc := 41) (ci := 10) dX10_added3_41 klX10_176 mX10_next ⟨by decide, rfl⟩ rfl ⟨Nat.zero_le _, Nat.zero_le _⟩ (kX10_next h1.1 hT (s := x.2) (by have := h3.1; omega) (h2.here h3 hlv) (h3.live hlv) (h2.ok (h3.live hlv))) (zOb_of rfl) rfl rfl (Nat.le_of_ble_eq_true rfl) (fun M2 q2 => ?_)
          have f2 : zFr zNG M1 M2 := q2.2.mono (fun a j y => zNF_G y)
          have hB2 := h1.fr f2
          have ga := (zgx_ad hT h3 hlv).1
          have gf := hf (zadv tp z x.2) ga.1
          refine zV_aload_n (pc := 44) (i := 0) dX10_added3_44 rfl rfl ?_
          refine zV_ivs (pc := 45) (ci := 10) dX10_added3_45 klX10_253 mX10_term3 ⟨by decide, rfl⟩ rfl ⟨Nat.zero_le _, Nat.zero_le _⟩ (hK1 M2 (zadv tp z x.2) hB2 q2.1 ga.1 ((q2.2 _ _ (by unfold zNF; omega)).trans h4)) (zOb_of rfl) rfl rfl (Nat.le_of_ble_eq_true rfl) ?_
          rintro w9 N9 M3 ⟨rfl, d3, o3, f3, u, rfl, r3, v3⟩
          have e8 := (zlo_t (q := fun t => t = 43 ∨ t = 45) (stp := fun t => if t = 43 then (-16 : Int) else -17) (f := fn) (k := k) (by first | exact Or.inl c_11 | exact Or.inr c_20)).symm.trans h8
          refine zV_istore_n (pc := 48) (i := 3) dX10_added3_48 rfl rfl ?_
          try dsimp only [List.set_cons_succ, List.set_cons_zero]
          refine zV_iload_n (pc := 49) (i := 2) dX10_added3_49 rfl rfl ?_
          refine zV_if_eq (pc := 50) (tgt := 59) dX10_added3_50 (by decide) (by omega) (fun c_50 => ?_) (fun c_50 => ?_)
          · refine zV_iload_n (pc := 59) (i := 1) dX10_added3_59 rfl rfl ?_
            refine zV_iload_n (pc := 60) (i := 3) dX10_added3_60 rfl rfl ?_
            refine zV_isub (pc := 61) dX10_added3_61 ?_
            refine zV_zw ?_
            refine zV_istore_n (pc := 62) (i := 1) dX10_added3_62 rfl rfl ?_
            try dsimp only [List.set_cons_succ, List.set_cons_zero]
            refine zV_goto (pc := 63) (tgt := 5) dX10_added3_63 (by decide) ?_
            have hz9 : (fn (zadv tp z x.2)).2.ft = -1 → x.2.ft = -1 := fun _ => h3.live hlv
            have hms : z - (fn (zadv tp z x.2)).2.at < k ∨ ¬ (fun t : Int => t = 43 ∨ t = 45) (fn (zadv tp z x.2)).2.tk := by
              by_cases q : (fun t : Int => t = 43 ∨ t = 45) (fn (zadv tp z x.2)).2.tk
              · have l := gf.2.1 ⟨by omega, by omega⟩
                have l2 := ga.2.2.1
                exact Or.inl (by show z - (fn (zadv tp z x.2)).2.at < k; omega)
              · exact Or.inr q
            first
              | (have ev : zw (v + u) = zopr (-16) v u := zopr_16.symm
                 have eo : (fun t : Int => if t = 43 then (-16 : Int) else -17) x.2.tk = -16 := by first | rfl | exact if_pos (by omega) | exact if_neg (by omega)
                 have hv9 : (fn (zadv tp z x.2)).2.ft = -1 → zvl nm (12 + 1) (x.1 ++ (fn (zadv tp z x.2)).1 ++ [(fun t : Int => if t = 43 then (-16 : Int) else -17) x.2.tk]) (zopr (-16) v u) := fun y => by rw [eo]; exact zvl_2u (h7 (hz9 y)) (v3 y) (by decide)
                 rw [← ev] at hv9
                 refine ih _ (x.1 ++ (fn (zadv tp z x.2)).1 ++ [(fun t : Int => if t = 43 then (-16 : Int) else -17) x.2.tk], (fn (zadv tp z x.2)).2) M3 _ _ hms (hB2.fr f3) d3 gf.1.1 o3 ((h5.tr f2).tr f3) ?_ hv9 e8
                 rw [ev]
                 exact zopr_r _ _ _)
              | (have ev : zw (v - u) = zopr (-17) v u := zopr_17.symm
                 have eo : (fun t : Int => if t = 43 then (-16 : Int) else -17) x.2.tk = -17 := by first | rfl | exact if_pos (by omega) | exact if_neg (by omega)
                 have hv9 : (fn (zadv tp z x.2)).2.ft = -1 → zvl nm (12 + 1) (x.1 ++ (fn (zadv tp z x.2)).1 ++ [(fun t : Int => if t = 43 then (-16 : Int) else -17) x.2.tk]) (zopr (-17) v u) := fun y => by rw [eo]; exact zvl_2u (h7 (hz9 y)) (v3 y) (by decide)
                 rw [← ev] at hv9
                 refine ih _ (x.1 ++ (fn (zadv tp z x.2)).1 ++ [(fun t : Int => if t = 43 then (-16 : Int) else -17) x.2.tk], (fn (zadv tp z x.2)).2) M3 _ _ hms (hB2.fr f3) d3 gf.1.1 o3 ((h5.tr f2).tr f3) ?_ hv9 e8
                 rw [ev]
                 exact zopr_r _ _ _)
          · refine zV_iload_n (pc := 53) (i := 1) dX10_added3_53 rfl rfl ?_
            refine zV_iload_n (pc := 54) (i := 3) dX10_added3_54 rfl rfl ?_
            refine zV_iadd (pc := 55) dX10_added3_55 ?_
            refine zV_goto (pc := 56) (tgt := 62) dX10_added3_56 (by decide) ?_
            refine zV_zw ?_
            refine zV_istore_n (pc := 62) (i := 1) dX10_added3_62 rfl rfl ?_
            try dsimp only [List.set_cons_succ, List.set_cons_zero]
            refine zV_goto (pc := 63) (tgt := 5) dX10_added3_63 (by decide) ?_
            have hz9 : (fn (zadv tp z x.2)).2.ft = -1 → x.2.ft = -1 := fun _ => h3.live hlv
            have hms : z - (fn (zadv tp z x.2)).2.at < k ∨ ¬ (fun t : Int => t = 43 ∨ t = 45) (fn (zadv tp z x.2)).2.tk := by
              by_cases q : (fun t : Int => t = 43 ∨ t = 45) (fn (zadv tp z x.2)).2.tk
              · have l := gf.2.1 ⟨by omega, by omega⟩
                have l2 := ga.2.2.1
                exact Or.inl (by show z - (fn (zadv tp z x.2)).2.at < k; omega)
              · exact Or.inr q
            first
              | (have ev : zw (v + u) = zopr (-16) v u := zopr_16.symm
                 have eo : (fun t : Int => if t = 43 then (-16 : Int) else -17) x.2.tk = -16 := by first | rfl | exact if_pos (by omega) | exact if_neg (by omega)
                 have hv9 : (fn (zadv tp z x.2)).2.ft = -1 → zvl nm (12 + 1) (x.1 ++ (fn (zadv tp z x.2)).1 ++ [(fun t : Int => if t = 43 then (-16 : Int) else -17) x.2.tk]) (zopr (-16) v u) := fun y => by rw [eo]; exact zvl_2u (h7 (hz9 y)) (v3 y) (by decide)
                 rw [← ev] at hv9
                 refine ih _ (x.1 ++ (fn (zadv tp z x.2)).1 ++ [(fun t : Int => if t = 43 then (-16 : Int) else -17) x.2.tk], (fn (zadv tp z x.2)).2) M3 _ _ hms (hB2.fr f3) d3 gf.1.1 o3 ((h5.tr f2).tr f3) ?_ hv9 e8
                 rw [ev]
                 exact zopr_r _ _ _)
              | (have ev : zw (v - u) = zopr (-17) v u := zopr_17.symm
                 have eo : (fun t : Int => if t = 43 then (-16 : Int) else -17) x.2.tk = -17 := by first | rfl | exact if_pos (by omega) | exact if_neg (by omega)
                 have hv9 : (fn (zadv tp z x.2)).2.ft = -1 → zvl nm (12 + 1) (x.1 ++ (fn (zadv tp z x.2)).1 ++ [(fun t : Int => if t = 43 then (-16 : Int) else -17) x.2.tk]) (zopr (-17) v u) := fun y => by rw [eo]; exact zvl_2u (h7 (hz9 y)) (v3 y) (by decide)
                 rw [← ev] at hv9
                 refine ih _ (x.1 ++ (fn (zadv tp z x.2)).1 ++ [(fun t : Int => if t = 43 then (-16 : Int) else -17) x.2.tk], (fn (zadv tp z x.2)).2) M3 _ _ hms (hB2.fr f3) d3 gf.1.1 o3 ((h5.tr f2).tr f3) ?_ hv9 e8
                 rw [ev]
                 exact zopr_r _ _ _)
set_option maxRecDepth 20000 in
set_option maxHeartbeats 2000000 in
theorem kX10_added3 {f z : Int} {tp nm : Int → Int} (hT : ztp tp z) (hN : ∀ j : Int, 0 ≤ j → j ≤ 5 → -2147483648 ≤ nm j ∧ nm j ≤ 2147483647) {fn : zσ → zρ} (hf : zgd z fn) (hK1 : zMf g yX10_term3 xX10_term3 f tp z nm 3 12 fn) : zMf g yX10_added3 xX10_added3 f tp z nm 3 (12 + 1) (zSum tp z fn) := by
  intro M s hB hd hz h25
  refine zK_of (ls0 := [zr 58, (3, 0), (3, 0), (3, 0)]) (by decide) rfl (by decide) rfl (Nat.le_of_ble_eq_true rfl) ?_
  refine zV_aload_n (pc := 0) (i := 0) dX10_added3_0 rfl rfl ?_
  refine zV_ivs (pc := 1) (ci := 10) dX10_added3_1 klX10_253 mX10_term3 ⟨by decide, rfl⟩ rfl ⟨Nat.zero_le _, Nat.zero_le _⟩ (hK1 M s hB hd hz h25) (zOb_of rfl) rfl rfl (Nat.le_of_ble_eq_true rfl) ?_
  rintro w9 N9 M1 ⟨rfl, d1, o1, f1, v, rfl, r1, v1⟩
  refine zV_istore_n (pc := 4) (i := 1) dX10_added3_4 rfl rfl ?_
  try dsimp only [List.set_cons_succ, List.set_cons_zero]
  have gf := hf s hz
  exact kX10_added3L hT hN hf hK1 160 v (fn s) M1 _ _ (by
    by_cases q : (fun t : Int => t = 43 ∨ t = 45) (fn s).2.tk
    · have l := gf.2.1 ⟨by omega, by omega⟩
      have l2 := hz.1
      exact Or.inl (by show z - (fn s).2.at < 160; have := hT.1; omega)
    · exact Or.inr q) (hB.fr f1) d1 gf.1.1 o1 f1 r1 (fun y => (v1 y).up (Nat.le_succ _)) rfl
set_option maxRecDepth 20000 in
set_option maxHeartbeats 2000000 in
theorem kX10_not3 {f z : Int} {tp nm : Int → Int} (hT : ztp tp z) (hN : ∀ j : Int, 0 ≤ j → j ≤ 5 → -2147483648 ≤ nm j ∧ nm j ≤ 2147483647) {fn : zσ → zρ} (hf : zgd z (zSum tp z (zTerm tp z fn))) (hK1 : zMf g yX10_added3 xX10_added3 f tp z nm 3 13 (zSum tp z (zTerm tp z fn))) {fa : zσ → zρ} (hKa : zMf g yX10_not4 xX10_not4 f tp z nm 4 9 fa) : zMf g yX10_not3 xX10_not3 f tp z nm 3 14 (zNotS tp z fa fn) := by
  intro M s hB hd hz h25
  refine zK_of (ls0 := [zr 58, (3, 0), (3, 0), (3, 0)]) (by decide) rfl (by decide) rfl (Nat.le_of_ble_eq_true rfl) ?_
  refine zV_aload_n (pc := 0) (i := 0) dX10_not3_0 rfl rfl ?_
  refine zV_bipush (pc := 1) dX10_not3_1 (by decide) ?_
  refine zV_bipush (pc := 3) dX10_not3_3 (by decide) ?_
  refine zV_bipush (pc := 5) dX10_not3_5 (by decide) ?_
  refine zV_iconst (pc := 7) dX10_not3_7 ?_
  refine zV_iconst (pc := 8) dX10_not3_8 ?_
  refine zV_iconst (pc := 9) dX10_not3_9 ?_
  refine zV_iconst (pc := 10) dX10_not3_10 ?_
  refine zV_iconst (pc := 11) dX10_not3_11 ?_
  refine zV_ivp (pc := 12) (ci := 10) dX10_not3_12 klX10_179 mX10_isWord ⟨by decide, rfl⟩ rfl ⟨Nat.zero_le _, Nat.zero_le _⟩ (kX10_w_not hB.1 hT hd hz) (zOb_of rfl) rfl rfl (Nat.le_of_ble_eq_true rfl) ?_
  refine zV_if_eqb (pc := 15) (tgt := 52) dX10_not3_15 (by decide) (fun c_15 => ?_) (fun c_15 => ?_)
  · have e : zNotS tp z fa fn s = zCm2 tp z fn s := if_neg c_15
    refine zV_aload_n (pc := 52) (i := 0) dX10_not3_52 rfl rfl ?_
    refine zV_ivs (pc := 53) (ci := 10) dX10_not3_53 klX10_256 mX10_added3 ⟨by decide, rfl⟩ rfl ⟨Nat.zero_le _, Nat.zero_le _⟩ (hK1 M s hB hd hz h25) (zOb_of rfl) rfl rfl (Nat.le_of_ble_eq_true rfl) ?_
    rintro w8 N8 M1 ⟨rfl, d1, o1, f1, v, rfl, r1, v1⟩
    have gf := hf s hz
    refine zV_istore_n (pc := 56) (i := 1) dX10_not3_56 rfl rfl ?_
    try dsimp only [List.set_cons_succ, List.set_cons_zero]
    refine zV_aload_n (pc := 57) (i := 0) dX10_not3_57 rfl rfl ?_
    refine zV_bipush (pc := 58) dX10_not3_58 (by decide) ?_
    refine zV_ivp (pc := 60) (ci := 10) dX10_not3_60 klX10_201 mX10_isSign ⟨by decide, rfl⟩ rfl ⟨Nat.zero_le _, Nat.zero_le _⟩ (kX10_isSign d1 gf.1.1 (by decide)) (zOb_of rfl) rfl rfl (Nat.le_of_ble_eq_true rfl) ?_
    refine zV_if_neb (pc := 63) (tgt := 77) dX10_not3_63 (by decide) (fun c_63 => ?_) (fun c_63 => ?_)
    · have hlv : zlive ((zSum tp z (zTerm tp z fn)) s).2 := ⟨by omega, by omega⟩
      have ef := gf.1.1.live hlv
      have hB1 := hB.fr f1
      have h24 : M1 58 24 = ((zSum tp z (zTerm tp z fn)) s).2.tk := by
        have ht := (d1.2.2 ef).2
        have hw := zwt_r (tp := tp) (s := ((zSum tp z (zTerm tp z fn)) s).2.sa) (e := ((zSum tp z (zTerm tp z fn)) s).2.at) 12 (Nat.le_refl _)
        have hw0 : zwt tp ((zSum tp z (zTerm tp z fn)) s).2.sa ((zSum tp z (zTerm tp z fn)) s).2.at 12 ≤ 11 := by omega
        unfold zMt at ht
        omega
      have hq : ((zSum tp z (zTerm tp z fn)) s).2.tk = 60 ∨ ((zSum tp z (zTerm tp z fn)) s).2.tk = 61 := by omega
      have e1 : zCm2 tp z fn s = (((zSum tp z (zTerm tp z fn)) s).1 ++ ((zSum tp z (zTerm tp z fn)) (zadv tp z ((zSum tp z (zTerm tp z fn)) s).2)).1 ++ [if ((zSum tp z (zTerm tp z fn)) s).2.tk = 60 then -14 else -15], ((zSum tp z (zTerm tp z fn)) (zadv tp z ((zSum tp z (zTerm tp z fn)) s).2)).2) := zit_t hq
      refine zV_aload_n (pc := 77) (i := 0) dX10_not3_77 rfl rfl ?_
      refine zV_get (pc := 78) (j := 24) dX10_not3_78 flX10_154 (zOb_of rfl) rfl h24 ?_
      refine zV_ldc2 (pc := 81) dX10_not3_81 kiX10_92 ?_
      refine zV_lcmp (pc := 84) dX10_not3_84 (by have := gf.1.1.2.2.2.2.1; omega) ?_
      refine zV_if_nec (pc := 85) (tgt := 92) dX10_not3_85 (by decide) (fun c_85 => ?_) (fun c_85 => ?_)
      · refine zV_iconst (pc := 92) dX10_not3_92 ?_
        refine zV_istore_n (pc := 93) (i := 2) dX10_not3_93 rfl rfl ?_
        try dsimp only [List.set_cons_succ, List.set_cons_zero]
        refine zV_aload_n (pc := 94) (i := 0) dX10_not3_94 rfl rfl ?_
        refine zV_ivn (pc := 95) (ci := 10) dX10_not3_95 klX10_176 mX10_next ⟨by decide, rfl⟩ rfl ⟨Nat.zero_le _, Nat.zero_le _⟩ (kX10_next hB1.1 hT (s := ((zSum tp z (zTerm tp z fn)) s).2) (by have := gf.1.1.1; omega) (d1.here gf.1.1 hlv) ef (d1.ok ef)) (zOb_of rfl) rfl rfl (Nat.le_of_ble_eq_true rfl) (fun M2 q2 => ?_)
        have ga := (zgx_ad hT gf.1.1 hlv).1
        have f2 : zFr zNG M1 M2 := q2.2.mono (fun a j y => zNF_G y)
        refine zV_aload_n (pc := 98) (i := 0) dX10_not3_98 rfl rfl ?_
        refine zV_ivs (pc := 99) (ci := 10) dX10_not3_99 klX10_256 mX10_added3 ⟨by decide, rfl⟩ rfl ⟨Nat.zero_le _, Nat.zero_le _⟩ (hK1 M2 (zadv tp z ((zSum tp z (zTerm tp z fn)) s).2) (hB1.fr f2) q2.1 ga.1 ((q2.2 _ _ (by unfold zNF; omega)).trans o1)) (zOb_of rfl) rfl rfl (Nat.le_of_ble_eq_true rfl) ?_
        rintro w7 N7 M3 ⟨rfl, d3, o3, f3, u, rfl, r3, v3⟩
        refine zV_istore_n (pc := 102) (i := 3) dX10_not3_102 rfl rfl ?_
        try dsimp only [List.set_cons_succ, List.set_cons_zero]
        refine zV_iload_n (pc := 103) (i := 2) dX10_not3_103 rfl rfl ?_
        refine zV_if_eq (pc := 104) (tgt := 115) dX10_not3_104 (by decide) (by omega) (fun c_104 => ?_) (fun c_104 => ?_)
        · refine zV_iload_n (pc := 115) (i := 1) dX10_not3_115 rfl rfl ?_
          refine zV_iload_n (pc := 116) (i := 3) dX10_not3_116 rfl rfl ?_
          refine zV_icmp_ne (pc := 117) (tgt := 124) dX10_not3_117 (by decide) (by omega) (fun c_117 => ?_) (fun c_117 => ?_)
          · refine zV_iconst (pc := 124) dX10_not3_124 ?_
            refine zV_iret (pc := 125) dX10_not3_125 trivial ⟨Nat.zero_le _, Nat.zero_le _⟩ ?_
            rw [e, e1]
            first
              | (have ev : (1 : Int) = zopr (-14) v u := (zopr_14.trans (zb_t (by omega))).symm
                 have eo : (if ((zSum tp z (zTerm tp z fn)) s).2.tk = 60 then (-14 : Int) else -15) = -14 := if_pos (by omega)
                 rw [eo]
                 exact ⟨rfl, d3, o3, (f1.tr f2).tr f3, 1, rfl, by decide, fun y => ev ▸ (zvl_2 (v1 ef) (v3 y) (by decide))⟩)
              | (have ev : (0 : Int) = zopr (-14) v u := (zopr_14.trans (zb_f (by omega))).symm
                 have eo : (if ((zSum tp z (zTerm tp z fn)) s).2.tk = 60 then (-14 : Int) else -15) = -14 := if_pos (by omega)
                 rw [eo]
                 exact ⟨rfl, d3, o3, (f1.tr f2).tr f3, 0, rfl, by decide, fun y => ev ▸ (zvl_2 (v1 ef) (v3 y) (by decide))⟩)
              | (have ev : (1 : Int) = zopr (-15) v u := (zopr_15.trans (zb_t (by omega))).symm
                 have eo : (if ((zSum tp z (zTerm tp z fn)) s).2.tk = 60 then (-14 : Int) else -15) = -15 := if_neg (by omega)
                 rw [eo]
                 exact ⟨rfl, d3, o3, (f1.tr f2).tr f3, 1, rfl, by decide, fun y => ev ▸ (zvl_2 (v1 ef) (v3 y) (by decide))⟩)
              | (have ev : (0 : Int) = zopr (-15) v u := (zopr_15.trans (zb_f (by omega))).symm
                 have eo : (if ((zSum tp z (zTerm tp z fn)) s).2.tk = 60 then (-14 : Int) else -15) = -15 := if_neg (by omega)
                 rw [eo]
                 exact ⟨rfl, d3, o3, (f1.tr f2).tr f3, 0, rfl, by decide, fun y => ev ▸ (zvl_2 (v1 ef) (v3 y) (by decide))⟩)
          · refine zV_iconst (pc := 120) dX10_not3_120 ?_
            refine zV_goto (pc := 121) (tgt := 125) dX10_not3_121 (by decide) ?_
            refine zV_iret (pc := 125) dX10_not3_125 trivial ⟨Nat.zero_le _, Nat.zero_le _⟩ ?_
            rw [e, e1]
            first
              | (have ev : (1 : Int) = zopr (-14) v u := (zopr_14.trans (zb_t (by omega))).symm
                 have eo : (if ((zSum tp z (zTerm tp z fn)) s).2.tk = 60 then (-14 : Int) else -15) = -14 := if_pos (by omega)
                 rw [eo]
                 exact ⟨rfl, d3, o3, (f1.tr f2).tr f3, 1, rfl, by decide, fun y => ev ▸ (zvl_2 (v1 ef) (v3 y) (by decide))⟩)
              | (have ev : (0 : Int) = zopr (-14) v u := (zopr_14.trans (zb_f (by omega))).symm
                 have eo : (if ((zSum tp z (zTerm tp z fn)) s).2.tk = 60 then (-14 : Int) else -15) = -14 := if_pos (by omega)
                 rw [eo]
                 exact ⟨rfl, d3, o3, (f1.tr f2).tr f3, 0, rfl, by decide, fun y => ev ▸ (zvl_2 (v1 ef) (v3 y) (by decide))⟩)
              | (have ev : (1 : Int) = zopr (-15) v u := (zopr_15.trans (zb_t (by omega))).symm
                 have eo : (if ((zSum tp z (zTerm tp z fn)) s).2.tk = 60 then (-14 : Int) else -15) = -15 := if_neg (by omega)
                 rw [eo]
                 exact ⟨rfl, d3, o3, (f1.tr f2).tr f3, 1, rfl, by decide, fun y => ev ▸ (zvl_2 (v1 ef) (v3 y) (by decide))⟩)
              | (have ev : (0 : Int) = zopr (-15) v u := (zopr_15.trans (zb_f (by omega))).symm
                 have eo : (if ((zSum tp z (zTerm tp z fn)) s).2.tk = 60 then (-14 : Int) else -15) = -15 := if_neg (by omega)
                 rw [eo]
                 exact ⟨rfl, d3, o3, (f1.tr f2).tr f3, 0, rfl, by decide, fun y => ev ▸ (zvl_2 (v1 ef) (v3 y) (by decide))⟩)
        · refine zV_iload_n (pc := 107) (i := 1) dX10_not3_107 rfl rfl ?_
          refine zV_iload_n (pc := 108) (i := 3) dX10_not3_108 rfl rfl ?_
          refine zV_icmp_ge (pc := 109) (tgt := 124) dX10_not3_109 (by decide) (by omega) (fun c_109 => ?_) (fun c_109 => ?_)
          · refine zV_iconst (pc := 124) dX10_not3_124 ?_
            refine zV_iret (pc := 125) dX10_not3_125 trivial ⟨Nat.zero_le _, Nat.zero_le _⟩ ?_
            rw [e, e1]
            first
              | (have ev : (1 : Int) = zopr (-14) v u := (zopr_14.trans (zb_t (by omega))).symm
                 have eo : (if ((zSum tp z (zTerm tp z fn)) s).2.tk = 60 then (-14 : Int) else -15) = -14 := if_pos (by omega)
                 rw [eo]
                 exact ⟨rfl, d3, o3, (f1.tr f2).tr f3, 1, rfl, by decide, fun y => ev ▸ (zvl_2 (v1 ef) (v3 y) (by decide))⟩)
              | (have ev : (0 : Int) = zopr (-14) v u := (zopr_14.trans (zb_f (by omega))).symm
                 have eo : (if ((zSum tp z (zTerm tp z fn)) s).2.tk = 60 then (-14 : Int) else -15) = -14 := if_pos (by omega)
                 rw [eo]
                 exact ⟨rfl, d3, o3, (f1.tr f2).tr f3, 0, rfl, by decide, fun y => ev ▸ (zvl_2 (v1 ef) (v3 y) (by decide))⟩)
              | (have ev : (1 : Int) = zopr (-15) v u := (zopr_15.trans (zb_t (by omega))).symm
                 have eo : (if ((zSum tp z (zTerm tp z fn)) s).2.tk = 60 then (-14 : Int) else -15) = -15 := if_neg (by omega)
                 rw [eo]
                 exact ⟨rfl, d3, o3, (f1.tr f2).tr f3, 1, rfl, by decide, fun y => ev ▸ (zvl_2 (v1 ef) (v3 y) (by decide))⟩)
              | (have ev : (0 : Int) = zopr (-15) v u := (zopr_15.trans (zb_f (by omega))).symm
                 have eo : (if ((zSum tp z (zTerm tp z fn)) s).2.tk = 60 then (-14 : Int) else -15) = -15 := if_neg (by omega)
                 rw [eo]
                 exact ⟨rfl, d3, o3, (f1.tr f2).tr f3, 0, rfl, by decide, fun y => ev ▸ (zvl_2 (v1 ef) (v3 y) (by decide))⟩)
          · refine zV_goto (pc := 112) (tgt := 120) dX10_not3_112 (by decide) ?_
            refine zV_iconst (pc := 120) dX10_not3_120 ?_
            refine zV_goto (pc := 121) (tgt := 125) dX10_not3_121 (by decide) ?_
            refine zV_iret (pc := 125) dX10_not3_125 trivial ⟨Nat.zero_le _, Nat.zero_le _⟩ ?_
            rw [e, e1]
            first
              | (have ev : (1 : Int) = zopr (-14) v u := (zopr_14.trans (zb_t (by omega))).symm
                 have eo : (if ((zSum tp z (zTerm tp z fn)) s).2.tk = 60 then (-14 : Int) else -15) = -14 := if_pos (by omega)
                 rw [eo]
                 exact ⟨rfl, d3, o3, (f1.tr f2).tr f3, 1, rfl, by decide, fun y => ev ▸ (zvl_2 (v1 ef) (v3 y) (by decide))⟩)
              | (have ev : (0 : Int) = zopr (-14) v u := (zopr_14.trans (zb_f (by omega))).symm
                 have eo : (if ((zSum tp z (zTerm tp z fn)) s).2.tk = 60 then (-14 : Int) else -15) = -14 := if_pos (by omega)
                 rw [eo]
                 exact ⟨rfl, d3, o3, (f1.tr f2).tr f3, 0, rfl, by decide, fun y => ev ▸ (zvl_2 (v1 ef) (v3 y) (by decide))⟩)
              | (have ev : (1 : Int) = zopr (-15) v u := (zopr_15.trans (zb_t (by omega))).symm
                 have eo : (if ((zSum tp z (zTerm tp z fn)) s).2.tk = 60 then (-14 : Int) else -15) = -15 := if_neg (by omega)
                 rw [eo]
                 exact ⟨rfl, d3, o3, (f1.tr f2).tr f3, 1, rfl, by decide, fun y => ev ▸ (zvl_2 (v1 ef) (v3 y) (by decide))⟩)
              | (have ev : (0 : Int) = zopr (-15) v u := (zopr_15.trans (zb_f (by omega))).symm
                 have eo : (if ((zSum tp z (zTerm tp z fn)) s).2.tk = 60 then (-14 : Int) else -15) = -15 := if_neg (by omega)
                 rw [eo]
                 exact ⟨rfl, d3, o3, (f1.tr f2).tr f3, 0, rfl, by decide, fun y => ev ▸ (zvl_2 (v1 ef) (v3 y) (by decide))⟩)
      · refine zV_iconst (pc := 88) dX10_not3_88 ?_
        refine zV_goto (pc := 89) (tgt := 93) dX10_not3_89 (by decide) ?_
        refine zV_istore_n (pc := 93) (i := 2) dX10_not3_93 rfl rfl ?_
        try dsimp only [List.set_cons_succ, List.set_cons_zero]
        refine zV_aload_n (pc := 94) (i := 0) dX10_not3_94 rfl rfl ?_
        refine zV_ivn (pc := 95) (ci := 10) dX10_not3_95 klX10_176 mX10_next ⟨by decide, rfl⟩ rfl ⟨Nat.zero_le _, Nat.zero_le _⟩ (kX10_next hB1.1 hT (s := ((zSum tp z (zTerm tp z fn)) s).2) (by have := gf.1.1.1; omega) (d1.here gf.1.1 hlv) ef (d1.ok ef)) (zOb_of rfl) rfl rfl (Nat.le_of_ble_eq_true rfl) (fun M2 q2 => ?_)
        have ga := (zgx_ad hT gf.1.1 hlv).1
        have f2 : zFr zNG M1 M2 := q2.2.mono (fun a j y => zNF_G y)
        refine zV_aload_n (pc := 98) (i := 0) dX10_not3_98 rfl rfl ?_
        refine zV_ivs (pc := 99) (ci := 10) dX10_not3_99 klX10_256 mX10_added3 ⟨by decide, rfl⟩ rfl ⟨Nat.zero_le _, Nat.zero_le _⟩ (hK1 M2 (zadv tp z ((zSum tp z (zTerm tp z fn)) s).2) (hB1.fr f2) q2.1 ga.1 ((q2.2 _ _ (by unfold zNF; omega)).trans o1)) (zOb_of rfl) rfl rfl (Nat.le_of_ble_eq_true rfl) ?_
        rintro w7 N7 M3 ⟨rfl, d3, o3, f3, u, rfl, r3, v3⟩
        refine zV_istore_n (pc := 102) (i := 3) dX10_not3_102 rfl rfl ?_
        try dsimp only [List.set_cons_succ, List.set_cons_zero]
        refine zV_iload_n (pc := 103) (i := 2) dX10_not3_103 rfl rfl ?_
        refine zV_if_eq (pc := 104) (tgt := 115) dX10_not3_104 (by decide) (by omega) (fun c_104 => ?_) (fun c_104 => ?_)
        · refine zV_iload_n (pc := 115) (i := 1) dX10_not3_115 rfl rfl ?_
          refine zV_iload_n (pc := 116) (i := 3) dX10_not3_116 rfl rfl ?_
          refine zV_icmp_ne (pc := 117) (tgt := 124) dX10_not3_117 (by decide) (by omega) (fun c_117 => ?_) (fun c_117 => ?_)
          · refine zV_iconst (pc := 124) dX10_not3_124 ?_
            refine zV_iret (pc := 125) dX10_not3_125 trivial ⟨Nat.zero_le _, Nat.zero_le _⟩ ?_
            rw [e, e1]
            first
              | (have ev : (1 : Int) = zopr (-14) v u := (zopr_14.trans (zb_t (by omega))).symm
                 have eo : (if ((zSum tp z (zTerm tp z fn)) s).2.tk = 60 then (-14 : Int) else -15) = -14 := if_pos (by omega)
                 rw [eo]
                 exact ⟨rfl, d3, o3, (f1.tr f2).tr f3, 1, rfl, by decide, fun y => ev ▸ (zvl_2 (v1 ef) (v3 y) (by decide))⟩)
              | (have ev : (0 : Int) = zopr (-14) v u := (zopr_14.trans (zb_f (by omega))).symm
                 have eo : (if ((zSum tp z (zTerm tp z fn)) s).2.tk = 60 then (-14 : Int) else -15) = -14 := if_pos (by omega)
                 rw [eo]
                 exact ⟨rfl, d3, o3, (f1.tr f2).tr f3, 0, rfl, by decide, fun y => ev ▸ (zvl_2 (v1 ef) (v3 y) (by decide))⟩)
              | (have ev : (1 : Int) = zopr (-15) v u := (zopr_15.trans (zb_t (by omega))).symm
                 have eo : (if ((zSum tp z (zTerm tp z fn)) s).2.tk = 60 then (-14 : Int) else -15) = -15 := if_neg (by omega)
                 rw [eo]
                 exact ⟨rfl, d3, o3, (f1.tr f2).tr f3, 1, rfl, by decide, fun y => ev ▸ (zvl_2 (v1 ef) (v3 y) (by decide))⟩)
              | (have ev : (0 : Int) = zopr (-15) v u := (zopr_15.trans (zb_f (by omega))).symm
                 have eo : (if ((zSum tp z (zTerm tp z fn)) s).2.tk = 60 then (-14 : Int) else -15) = -15 := if_neg (by omega)
                 rw [eo]
                 exact ⟨rfl, d3, o3, (f1.tr f2).tr f3, 0, rfl, by decide, fun y => ev ▸ (zvl_2 (v1 ef) (v3 y) (by decide))⟩)
          · refine zV_iconst (pc := 120) dX10_not3_120 ?_
            refine zV_goto (pc := 121) (tgt := 125) dX10_not3_121 (by decide) ?_
            refine zV_iret (pc := 125) dX10_not3_125 trivial ⟨Nat.zero_le _, Nat.zero_le _⟩ ?_
            rw [e, e1]
            first
              | (have ev : (1 : Int) = zopr (-14) v u := (zopr_14.trans (zb_t (by omega))).symm
                 have eo : (if ((zSum tp z (zTerm tp z fn)) s).2.tk = 60 then (-14 : Int) else -15) = -14 := if_pos (by omega)
                 rw [eo]
                 exact ⟨rfl, d3, o3, (f1.tr f2).tr f3, 1, rfl, by decide, fun y => ev ▸ (zvl_2 (v1 ef) (v3 y) (by decide))⟩)
              | (have ev : (0 : Int) = zopr (-14) v u := (zopr_14.trans (zb_f (by omega))).symm
                 have eo : (if ((zSum tp z (zTerm tp z fn)) s).2.tk = 60 then (-14 : Int) else -15) = -14 := if_pos (by omega)
                 rw [eo]
                 exact ⟨rfl, d3, o3, (f1.tr f2).tr f3, 0, rfl, by decide, fun y => ev ▸ (zvl_2 (v1 ef) (v3 y) (by decide))⟩)
              | (have ev : (1 : Int) = zopr (-15) v u := (zopr_15.trans (zb_t (by omega))).symm
                 have eo : (if ((zSum tp z (zTerm tp z fn)) s).2.tk = 60 then (-14 : Int) else -15) = -15 := if_neg (by omega)
                 rw [eo]
                 exact ⟨rfl, d3, o3, (f1.tr f2).tr f3, 1, rfl, by decide, fun y => ev ▸ (zvl_2 (v1 ef) (v3 y) (by decide))⟩)
              | (have ev : (0 : Int) = zopr (-15) v u := (zopr_15.trans (zb_f (by omega))).symm
                 have eo : (if ((zSum tp z (zTerm tp z fn)) s).2.tk = 60 then (-14 : Int) else -15) = -15 := if_neg (by omega)
                 rw [eo]
                 exact ⟨rfl, d3, o3, (f1.tr f2).tr f3, 0, rfl, by decide, fun y => ev ▸ (zvl_2 (v1 ef) (v3 y) (by decide))⟩)
        · refine zV_iload_n (pc := 107) (i := 1) dX10_not3_107 rfl rfl ?_
          refine zV_iload_n (pc := 108) (i := 3) dX10_not3_108 rfl rfl ?_
          refine zV_icmp_ge (pc := 109) (tgt := 124) dX10_not3_109 (by decide) (by omega) (fun c_109 => ?_) (fun c_109 => ?_)
          · refine zV_iconst (pc := 124) dX10_not3_124 ?_
            refine zV_iret (pc := 125) dX10_not3_125 trivial ⟨Nat.zero_le _, Nat.zero_le _⟩ ?_
            rw [e, e1]
            first
              | (have ev : (1 : Int) = zopr (-14) v u := (zopr_14.trans (zb_t (by omega))).symm
                 have eo : (if ((zSum tp z (zTerm tp z fn)) s).2.tk = 60 then (-14 : Int) else -15) = -14 := if_pos (by omega)
                 rw [eo]
                 exact ⟨rfl, d3, o3, (f1.tr f2).tr f3, 1, rfl, by decide, fun y => ev ▸ (zvl_2 (v1 ef) (v3 y) (by decide))⟩)
              | (have ev : (0 : Int) = zopr (-14) v u := (zopr_14.trans (zb_f (by omega))).symm
                 have eo : (if ((zSum tp z (zTerm tp z fn)) s).2.tk = 60 then (-14 : Int) else -15) = -14 := if_pos (by omega)
                 rw [eo]
                 exact ⟨rfl, d3, o3, (f1.tr f2).tr f3, 0, rfl, by decide, fun y => ev ▸ (zvl_2 (v1 ef) (v3 y) (by decide))⟩)
              | (have ev : (1 : Int) = zopr (-15) v u := (zopr_15.trans (zb_t (by omega))).symm
                 have eo : (if ((zSum tp z (zTerm tp z fn)) s).2.tk = 60 then (-14 : Int) else -15) = -15 := if_neg (by omega)
                 rw [eo]
                 exact ⟨rfl, d3, o3, (f1.tr f2).tr f3, 1, rfl, by decide, fun y => ev ▸ (zvl_2 (v1 ef) (v3 y) (by decide))⟩)
              | (have ev : (0 : Int) = zopr (-15) v u := (zopr_15.trans (zb_f (by omega))).symm
                 have eo : (if ((zSum tp z (zTerm tp z fn)) s).2.tk = 60 then (-14 : Int) else -15) = -15 := if_neg (by omega)
                 rw [eo]
                 exact ⟨rfl, d3, o3, (f1.tr f2).tr f3, 0, rfl, by decide, fun y => ev ▸ (zvl_2 (v1 ef) (v3 y) (by decide))⟩)
          · refine zV_goto (pc := 112) (tgt := 120) dX10_not3_112 (by decide) ?_
            refine zV_iconst (pc := 120) dX10_not3_120 ?_
            refine zV_goto (pc := 121) (tgt := 125) dX10_not3_121 (by decide) ?_
            refine zV_iret (pc := 125) dX10_not3_125 trivial ⟨Nat.zero_le _, Nat.zero_le _⟩ ?_
            rw [e, e1]
            first
              | (have ev : (1 : Int) = zopr (-14) v u := (zopr_14.trans (zb_t (by omega))).symm
                 have eo : (if ((zSum tp z (zTerm tp z fn)) s).2.tk = 60 then (-14 : Int) else -15) = -14 := if_pos (by omega)
                 rw [eo]
                 exact ⟨rfl, d3, o3, (f1.tr f2).tr f3, 1, rfl, by decide, fun y => ev ▸ (zvl_2 (v1 ef) (v3 y) (by decide))⟩)
              | (have ev : (0 : Int) = zopr (-14) v u := (zopr_14.trans (zb_f (by omega))).symm
                 have eo : (if ((zSum tp z (zTerm tp z fn)) s).2.tk = 60 then (-14 : Int) else -15) = -14 := if_pos (by omega)
                 rw [eo]
                 exact ⟨rfl, d3, o3, (f1.tr f2).tr f3, 0, rfl, by decide, fun y => ev ▸ (zvl_2 (v1 ef) (v3 y) (by decide))⟩)
              | (have ev : (1 : Int) = zopr (-15) v u := (zopr_15.trans (zb_t (by omega))).symm
                 have eo : (if ((zSum tp z (zTerm tp z fn)) s).2.tk = 60 then (-14 : Int) else -15) = -15 := if_neg (by omega)
                 rw [eo]
                 exact ⟨rfl, d3, o3, (f1.tr f2).tr f3, 1, rfl, by decide, fun y => ev ▸ (zvl_2 (v1 ef) (v3 y) (by decide))⟩)
              | (have ev : (0 : Int) = zopr (-15) v u := (zopr_15.trans (zb_f (by omega))).symm
                 have eo : (if ((zSum tp z (zTerm tp z fn)) s).2.tk = 60 then (-14 : Int) else -15) = -15 := if_neg (by omega)
                 rw [eo]
                 exact ⟨rfl, d3, o3, (f1.tr f2).tr f3, 0, rfl, by decide, fun y => ev ▸ (zvl_2 (v1 ef) (v3 y) (by decide))⟩)
    · refine zV_aload_n (pc := 66) (i := 0) dX10_not3_66 rfl rfl ?_
      refine zV_bipush (pc := 67) dX10_not3_67 (by decide) ?_
      refine zV_ivp (pc := 69) (ci := 10) dX10_not3_69 klX10_201 mX10_isSign ⟨by decide, rfl⟩ rfl ⟨Nat.zero_le _, Nat.zero_le _⟩ (kX10_isSign d1 gf.1.1 (by decide)) (zOb_of rfl) rfl rfl (Nat.le_of_ble_eq_true rfl) ?_
      refine zV_if_neb (pc := 72) (tgt := 77) dX10_not3_72 (by decide) (fun c_72 => ?_) (fun c_72 => ?_)
      · have hlv : zlive ((zSum tp z (zTerm tp z fn)) s).2 := ⟨by omega, by omega⟩
        have ef := gf.1.1.live hlv
        have hB1 := hB.fr f1
        have h24 : M1 58 24 = ((zSum tp z (zTerm tp z fn)) s).2.tk := by
          have ht := (d1.2.2 ef).2
          have hw := zwt_r (tp := tp) (s := ((zSum tp z (zTerm tp z fn)) s).2.sa) (e := ((zSum tp z (zTerm tp z fn)) s).2.at) 12 (Nat.le_refl _)
          have hw0 : zwt tp ((zSum tp z (zTerm tp z fn)) s).2.sa ((zSum tp z (zTerm tp z fn)) s).2.at 12 ≤ 11 := by omega
          unfold zMt at ht
          omega
        have hq : ((zSum tp z (zTerm tp z fn)) s).2.tk = 60 ∨ ((zSum tp z (zTerm tp z fn)) s).2.tk = 61 := by omega
        have e1 : zCm2 tp z fn s = (((zSum tp z (zTerm tp z fn)) s).1 ++ ((zSum tp z (zTerm tp z fn)) (zadv tp z ((zSum tp z (zTerm tp z fn)) s).2)).1 ++ [if ((zSum tp z (zTerm tp z fn)) s).2.tk = 60 then -14 else -15], ((zSum tp z (zTerm tp z fn)) (zadv tp z ((zSum tp z (zTerm tp z fn)) s).2)).2) := zit_t hq
        refine zV_aload_n (pc := 77) (i := 0) dX10_not3_77 rfl rfl ?_
        refine zV_get (pc := 78) (j := 24) dX10_not3_78 flX10_154 (zOb_of rfl) rfl h24 ?_
        refine zV_ldc2 (pc := 81) dX10_not3_81 kiX10_92 ?_
        refine zV_lcmp (pc := 84) dX10_not3_84 (by have := gf.1.1.2.2.2.2.1; omega) ?_
        refine zV_if_nec (pc := 85) (tgt := 92) dX10_not3_85 (by decide) (fun c_85 => ?_) (fun c_85 => ?_)
        · refine zV_iconst (pc := 92) dX10_not3_92 ?_
          refine zV_istore_n (pc := 93) (i := 2) dX10_not3_93 rfl rfl ?_
          try dsimp only [List.set_cons_succ, List.set_cons_zero]
          refine zV_aload_n (pc := 94) (i := 0) dX10_not3_94 rfl rfl ?_
          refine zV_ivn (pc := 95) (ci := 10) dX10_not3_95 klX10_176 mX10_next ⟨by decide, rfl⟩ rfl ⟨Nat.zero_le _, Nat.zero_le _⟩ (kX10_next hB1.1 hT (s := ((zSum tp z (zTerm tp z fn)) s).2) (by have := gf.1.1.1; omega) (d1.here gf.1.1 hlv) ef (d1.ok ef)) (zOb_of rfl) rfl rfl (Nat.le_of_ble_eq_true rfl) (fun M2 q2 => ?_)
          have ga := (zgx_ad hT gf.1.1 hlv).1
          have f2 : zFr zNG M1 M2 := q2.2.mono (fun a j y => zNF_G y)
          refine zV_aload_n (pc := 98) (i := 0) dX10_not3_98 rfl rfl ?_
          refine zV_ivs (pc := 99) (ci := 10) dX10_not3_99 klX10_256 mX10_added3 ⟨by decide, rfl⟩ rfl ⟨Nat.zero_le _, Nat.zero_le _⟩ (hK1 M2 (zadv tp z ((zSum tp z (zTerm tp z fn)) s).2) (hB1.fr f2) q2.1 ga.1 ((q2.2 _ _ (by unfold zNF; omega)).trans o1)) (zOb_of rfl) rfl rfl (Nat.le_of_ble_eq_true rfl) ?_
          rintro w7 N7 M3 ⟨rfl, d3, o3, f3, u, rfl, r3, v3⟩
          refine zV_istore_n (pc := 102) (i := 3) dX10_not3_102 rfl rfl ?_
          try dsimp only [List.set_cons_succ, List.set_cons_zero]
          refine zV_iload_n (pc := 103) (i := 2) dX10_not3_103 rfl rfl ?_
          refine zV_if_eq (pc := 104) (tgt := 115) dX10_not3_104 (by decide) (by omega) (fun c_104 => ?_) (fun c_104 => ?_)
          · refine zV_iload_n (pc := 115) (i := 1) dX10_not3_115 rfl rfl ?_
            refine zV_iload_n (pc := 116) (i := 3) dX10_not3_116 rfl rfl ?_
            refine zV_icmp_ne (pc := 117) (tgt := 124) dX10_not3_117 (by decide) (by omega) (fun c_117 => ?_) (fun c_117 => ?_)
            · refine zV_iconst (pc := 124) dX10_not3_124 ?_
              refine zV_iret (pc := 125) dX10_not3_125 trivial ⟨Nat.zero_le _, Nat.zero_le _⟩ ?_
              rw [e, e1]
              first
                | (have ev : (1 : Int) = zopr (-14) v u := (zopr_14.trans (zb_t (by omega))).symm
                   have eo : (if ((zSum tp z (zTerm tp z fn)) s).2.tk = 60 then (-14 : Int) else -15) = -14 := if_pos (by omega)
                   rw [eo]
                   exact ⟨rfl, d3, o3, (f1.tr f2).tr f3, 1, rfl, by decide, fun y => ev ▸ (zvl_2 (v1 ef) (v3 y) (by decide))⟩)
                | (have ev : (0 : Int) = zopr (-14) v u := (zopr_14.trans (zb_f (by omega))).symm
                   have eo : (if ((zSum tp z (zTerm tp z fn)) s).2.tk = 60 then (-14 : Int) else -15) = -14 := if_pos (by omega)
                   rw [eo]
                   exact ⟨rfl, d3, o3, (f1.tr f2).tr f3, 0, rfl, by decide, fun y => ev ▸ (zvl_2 (v1 ef) (v3 y) (by decide))⟩)
                | (have ev : (1 : Int) = zopr (-15) v u := (zopr_15.trans (zb_t (by omega))).symm
                   have eo : (if ((zSum tp z (zTerm tp z fn)) s).2.tk = 60 then (-14 : Int) else -15) = -15 := if_neg (by omega)
                   rw [eo]
                   exact ⟨rfl, d3, o3, (f1.tr f2).tr f3, 1, rfl, by decide, fun y => ev ▸ (zvl_2 (v1 ef) (v3 y) (by decide))⟩)
                | (have ev : (0 : Int) = zopr (-15) v u := (zopr_15.trans (zb_f (by omega))).symm
                   have eo : (if ((zSum tp z (zTerm tp z fn)) s).2.tk = 60 then (-14 : Int) else -15) = -15 := if_neg (by omega)
                   rw [eo]
                   exact ⟨rfl, d3, o3, (f1.tr f2).tr f3, 0, rfl, by decide, fun y => ev ▸ (zvl_2 (v1 ef) (v3 y) (by decide))⟩)
            · refine zV_iconst (pc := 120) dX10_not3_120 ?_
              refine zV_goto (pc := 121) (tgt := 125) dX10_not3_121 (by decide) ?_
              refine zV_iret (pc := 125) dX10_not3_125 trivial ⟨Nat.zero_le _, Nat.zero_le _⟩ ?_
              rw [e, e1]
              first
                | (have ev : (1 : Int) = zopr (-14) v u := (zopr_14.trans (zb_t (by omega))).symm
                   have eo : (if ((zSum tp z (zTerm tp z fn)) s).2.tk = 60 then (-14 : Int) else -15) = -14 := if_pos (by omega)
                   rw [eo]
                   exact ⟨rfl, d3, o3, (f1.tr f2).tr f3, 1, rfl, by decide, fun y => ev ▸ (zvl_2 (v1 ef) (v3 y) (by decide))⟩)
                | (have ev : (0 : Int) = zopr (-14) v u := (zopr_14.trans (zb_f (by omega))).symm
                   have eo : (if ((zSum tp z (zTerm tp z fn)) s).2.tk = 60 then (-14 : Int) else -15) = -14 := if_pos (by omega)
                   rw [eo]
                   exact ⟨rfl, d3, o3, (f1.tr f2).tr f3, 0, rfl, by decide, fun y => ev ▸ (zvl_2 (v1 ef) (v3 y) (by decide))⟩)
                | (have ev : (1 : Int) = zopr (-15) v u := (zopr_15.trans (zb_t (by omega))).symm
                   have eo : (if ((zSum tp z (zTerm tp z fn)) s).2.tk = 60 then (-14 : Int) else -15) = -15 := if_neg (by omega)
                   rw [eo]
                   exact ⟨rfl, d3, o3, (f1.tr f2).tr f3, 1, rfl, by decide, fun y => ev ▸ (zvl_2 (v1 ef) (v3 y) (by decide))⟩)
                | (have ev : (0 : Int) = zopr (-15) v u := (zopr_15.trans (zb_f (by omega))).symm
                   have eo : (if ((zSum tp z (zTerm tp z fn)) s).2.tk = 60 then (-14 : Int) else -15) = -15 := if_neg (by omega)
                   rw [eo]
                   exact ⟨rfl, d3, o3, (f1.tr f2).tr f3, 0, rfl, by decide, fun y => ev ▸ (zvl_2 (v1 ef) (v3 y) (by decide))⟩)
          · refine zV_iload_n (pc := 107) (i := 1) dX10_not3_107 rfl rfl ?_
            refine zV_iload_n (pc := 108) (i := 3) dX10_not3_108 rfl rfl ?_
            refine zV_icmp_ge (pc := 109) (tgt := 124) dX10_not3_109 (by decide) (by omega) (fun c_109 => ?_) (fun c_109 => ?_)
            · refine zV_iconst (pc := 124) dX10_not3_124 ?_
              refine zV_iret (pc := 125) dX10_not3_125 trivial ⟨Nat.zero_le _, Nat.zero_le _⟩ ?_
              rw [e, e1]
              first
                | (have ev : (1 : Int) = zopr (-14) v u := (zopr_14.trans (zb_t (by omega))).symm
                   have eo : (if ((zSum tp z (zTerm tp z fn)) s).2.tk = 60 then (-14 : Int) else -15) = -14 := if_pos (by omega)
                   rw [eo]
                   exact ⟨rfl, d3, o3, (f1.tr f2).tr f3, 1, rfl, by decide, fun y => ev ▸ (zvl_2 (v1 ef) (v3 y) (by decide))⟩)
                | (have ev : (0 : Int) = zopr (-14) v u := (zopr_14.trans (zb_f (by omega))).symm
                   have eo : (if ((zSum tp z (zTerm tp z fn)) s).2.tk = 60 then (-14 : Int) else -15) = -14 := if_pos (by omega)
                   rw [eo]
                   exact ⟨rfl, d3, o3, (f1.tr f2).tr f3, 0, rfl, by decide, fun y => ev ▸ (zvl_2 (v1 ef) (v3 y) (by decide))⟩)
                | (have ev : (1 : Int) = zopr (-15) v u := (zopr_15.trans (zb_t (by omega))).symm
                   have eo : (if ((zSum tp z (zTerm tp z fn)) s).2.tk = 60 then (-14 : Int) else -15) = -15 := if_neg (by omega)
                   rw [eo]
                   exact ⟨rfl, d3, o3, (f1.tr f2).tr f3, 1, rfl, by decide, fun y => ev ▸ (zvl_2 (v1 ef) (v3 y) (by decide))⟩)
                | (have ev : (0 : Int) = zopr (-15) v u := (zopr_15.trans (zb_f (by omega))).symm
                   have eo : (if ((zSum tp z (zTerm tp z fn)) s).2.tk = 60 then (-14 : Int) else -15) = -15 := if_neg (by omega)
                   rw [eo]
                   exact ⟨rfl, d3, o3, (f1.tr f2).tr f3, 0, rfl, by decide, fun y => ev ▸ (zvl_2 (v1 ef) (v3 y) (by decide))⟩)
            · refine zV_goto (pc := 112) (tgt := 120) dX10_not3_112 (by decide) ?_
              refine zV_iconst (pc := 120) dX10_not3_120 ?_
              refine zV_goto (pc := 121) (tgt := 125) dX10_not3_121 (by decide) ?_
              refine zV_iret (pc := 125) dX10_not3_125 trivial ⟨Nat.zero_le _, Nat.zero_le _⟩ ?_
              rw [e, e1]
              first
                | (have ev : (1 : Int) = zopr (-14) v u := (zopr_14.trans (zb_t (by omega))).symm
                   have eo : (if ((zSum tp z (zTerm tp z fn)) s).2.tk = 60 then (-14 : Int) else -15) = -14 := if_pos (by omega)
                   rw [eo]
                   exact ⟨rfl, d3, o3, (f1.tr f2).tr f3, 1, rfl, by decide, fun y => ev ▸ (zvl_2 (v1 ef) (v3 y) (by decide))⟩)
                | (have ev : (0 : Int) = zopr (-14) v u := (zopr_14.trans (zb_f (by omega))).symm
                   have eo : (if ((zSum tp z (zTerm tp z fn)) s).2.tk = 60 then (-14 : Int) else -15) = -14 := if_pos (by omega)
                   rw [eo]
                   exact ⟨rfl, d3, o3, (f1.tr f2).tr f3, 0, rfl, by decide, fun y => ev ▸ (zvl_2 (v1 ef) (v3 y) (by decide))⟩)
                | (have ev : (1 : Int) = zopr (-15) v u := (zopr_15.trans (zb_t (by omega))).symm
                   have eo : (if ((zSum tp z (zTerm tp z fn)) s).2.tk = 60 then (-14 : Int) else -15) = -15 := if_neg (by omega)
                   rw [eo]
                   exact ⟨rfl, d3, o3, (f1.tr f2).tr f3, 1, rfl, by decide, fun y => ev ▸ (zvl_2 (v1 ef) (v3 y) (by decide))⟩)
                | (have ev : (0 : Int) = zopr (-15) v u := (zopr_15.trans (zb_f (by omega))).symm
                   have eo : (if ((zSum tp z (zTerm tp z fn)) s).2.tk = 60 then (-14 : Int) else -15) = -15 := if_neg (by omega)
                   rw [eo]
                   exact ⟨rfl, d3, o3, (f1.tr f2).tr f3, 0, rfl, by decide, fun y => ev ▸ (zvl_2 (v1 ef) (v3 y) (by decide))⟩)
        · refine zV_iconst (pc := 88) dX10_not3_88 ?_
          refine zV_goto (pc := 89) (tgt := 93) dX10_not3_89 (by decide) ?_
          refine zV_istore_n (pc := 93) (i := 2) dX10_not3_93 rfl rfl ?_
          try dsimp only [List.set_cons_succ, List.set_cons_zero]
          refine zV_aload_n (pc := 94) (i := 0) dX10_not3_94 rfl rfl ?_
          refine zV_ivn (pc := 95) (ci := 10) dX10_not3_95 klX10_176 mX10_next ⟨by decide, rfl⟩ rfl ⟨Nat.zero_le _, Nat.zero_le _⟩ (kX10_next hB1.1 hT (s := ((zSum tp z (zTerm tp z fn)) s).2) (by have := gf.1.1.1; omega) (d1.here gf.1.1 hlv) ef (d1.ok ef)) (zOb_of rfl) rfl rfl (Nat.le_of_ble_eq_true rfl) (fun M2 q2 => ?_)
          have ga := (zgx_ad hT gf.1.1 hlv).1
          have f2 : zFr zNG M1 M2 := q2.2.mono (fun a j y => zNF_G y)
          refine zV_aload_n (pc := 98) (i := 0) dX10_not3_98 rfl rfl ?_
          refine zV_ivs (pc := 99) (ci := 10) dX10_not3_99 klX10_256 mX10_added3 ⟨by decide, rfl⟩ rfl ⟨Nat.zero_le _, Nat.zero_le _⟩ (hK1 M2 (zadv tp z ((zSum tp z (zTerm tp z fn)) s).2) (hB1.fr f2) q2.1 ga.1 ((q2.2 _ _ (by unfold zNF; omega)).trans o1)) (zOb_of rfl) rfl rfl (Nat.le_of_ble_eq_true rfl) ?_
          rintro w7 N7 M3 ⟨rfl, d3, o3, f3, u, rfl, r3, v3⟩
          refine zV_istore_n (pc := 102) (i := 3) dX10_not3_102 rfl rfl ?_
          try dsimp only [List.set_cons_succ, List.set_cons_zero]
          refine zV_iload_n (pc := 103) (i := 2) dX10_not3_103 rfl rfl ?_
          refine zV_if_eq (pc := 104) (tgt := 115) dX10_not3_104 (by decide) (by omega) (fun c_104 => ?_) (fun c_104 => ?_)
          · refine zV_iload_n (pc := 115) (i := 1) dX10_not3_115 rfl rfl ?_
            refine zV_iload_n (pc := 116) (i := 3) dX10_not3_116 rfl rfl ?_
            refine zV_icmp_ne (pc := 117) (tgt := 124) dX10_not3_117 (by decide) (by omega) (fun c_117 => ?_) (fun c_117 => ?_)
            · refine zV_iconst (pc := 124) dX10_not3_124 ?_
              refine zV_iret (pc := 125) dX10_not3_125 trivial ⟨Nat.zero_le _, Nat.zero_le _⟩ ?_
              rw [e, e1]
              first
                | (have ev : (1 : Int) = zopr (-14) v u := (zopr_14.trans (zb_t (by omega))).symm
                   have eo : (if ((zSum tp z (zTerm tp z fn)) s).2.tk = 60 then (-14 : Int) else -15) = -14 := if_pos (by omega)
                   rw [eo]
                   exact ⟨rfl, d3, o3, (f1.tr f2).tr f3, 1, rfl, by decide, fun y => ev ▸ (zvl_2 (v1 ef) (v3 y) (by decide))⟩)
                | (have ev : (0 : Int) = zopr (-14) v u := (zopr_14.trans (zb_f (by omega))).symm
                   have eo : (if ((zSum tp z (zTerm tp z fn)) s).2.tk = 60 then (-14 : Int) else -15) = -14 := if_pos (by omega)
                   rw [eo]
                   exact ⟨rfl, d3, o3, (f1.tr f2).tr f3, 0, rfl, by decide, fun y => ev ▸ (zvl_2 (v1 ef) (v3 y) (by decide))⟩)
                | (have ev : (1 : Int) = zopr (-15) v u := (zopr_15.trans (zb_t (by omega))).symm
                   have eo : (if ((zSum tp z (zTerm tp z fn)) s).2.tk = 60 then (-14 : Int) else -15) = -15 := if_neg (by omega)
                   rw [eo]
                   exact ⟨rfl, d3, o3, (f1.tr f2).tr f3, 1, rfl, by decide, fun y => ev ▸ (zvl_2 (v1 ef) (v3 y) (by decide))⟩)
                | (have ev : (0 : Int) = zopr (-15) v u := (zopr_15.trans (zb_f (by omega))).symm
                   have eo : (if ((zSum tp z (zTerm tp z fn)) s).2.tk = 60 then (-14 : Int) else -15) = -15 := if_neg (by omega)
                   rw [eo]
                   exact ⟨rfl, d3, o3, (f1.tr f2).tr f3, 0, rfl, by decide, fun y => ev ▸ (zvl_2 (v1 ef) (v3 y) (by decide))⟩)
            · refine zV_iconst (pc := 120) dX10_not3_120 ?_
              refine zV_goto (pc := 121) (tgt := 125) dX10_not3_121 (by decide) ?_
              refine zV_iret (pc := 125) dX10_not3_125 trivial ⟨Nat.zero_le _, Nat.zero_le _⟩ ?_
              rw [e, e1]
              first
                | (have ev : (1 : Int) = zopr (-14) v u := (zopr_14.trans (zb_t (by omega))).symm
                   have eo : (if ((zSum tp z (zTerm tp z fn)) s).2.tk = 60 then (-14 : Int) else -15) = -14 := if_pos (by omega)
                   rw [eo]
                   exact ⟨rfl, d3, o3, (f1.tr f2).tr f3, 1, rfl, by decide, fun y => ev ▸ (zvl_2 (v1 ef) (v3 y) (by decide))⟩)
                | (have ev : (0 : Int) = zopr (-14) v u := (zopr_14.trans (zb_f (by omega))).symm
                   have eo : (if ((zSum tp z (zTerm tp z fn)) s).2.tk = 60 then (-14 : Int) else -15) = -14 := if_pos (by omega)
                   rw [eo]
                   exact ⟨rfl, d3, o3, (f1.tr f2).tr f3, 0, rfl, by decide, fun y => ev ▸ (zvl_2 (v1 ef) (v3 y) (by decide))⟩)
                | (have ev : (1 : Int) = zopr (-15) v u := (zopr_15.trans (zb_t (by omega))).symm
                   have eo : (if ((zSum tp z (zTerm tp z fn)) s).2.tk = 60 then (-14 : Int) else -15) = -15 := if_neg (by omega)
                   rw [eo]
                   exact ⟨rfl, d3, o3, (f1.tr f2).tr f3, 1, rfl, by decide, fun y => ev ▸ (zvl_2 (v1 ef) (v3 y) (by decide))⟩)
                | (have ev : (0 : Int) = zopr (-15) v u := (zopr_15.trans (zb_f (by omega))).symm
                   have eo : (if ((zSum tp z (zTerm tp z fn)) s).2.tk = 60 then (-14 : Int) else -15) = -15 := if_neg (by omega)
                   rw [eo]
                   exact ⟨rfl, d3, o3, (f1.tr f2).tr f3, 0, rfl, by decide, fun y => ev ▸ (zvl_2 (v1 ef) (v3 y) (by decide))⟩)
          · refine zV_iload_n (pc := 107) (i := 1) dX10_not3_107 rfl rfl ?_
            refine zV_iload_n (pc := 108) (i := 3) dX10_not3_108 rfl rfl ?_
            refine zV_icmp_ge (pc := 109) (tgt := 124) dX10_not3_109 (by decide) (by omega) (fun c_109 => ?_) (fun c_109 => ?_)
            · refine zV_iconst (pc := 124) dX10_not3_124 ?_
              refine zV_iret (pc := 125) dX10_not3_125 trivial ⟨Nat.zero_le _, Nat.zero_le _⟩ ?_
              rw [e, e1]
              first
                | (have ev : (1 : Int) = zopr (-14) v u := (zopr_14.trans (zb_t (by omega))).symm
                   have eo : (if ((zSum tp z (zTerm tp z fn)) s).2.tk = 60 then (-14 : Int) else -15) = -14 := if_pos (by omega)
                   rw [eo]
                   exact ⟨rfl, d3, o3, (f1.tr f2).tr f3, 1, rfl, by decide, fun y => ev ▸ (zvl_2 (v1 ef) (v3 y) (by decide))⟩)
                | (have ev : (0 : Int) = zopr (-14) v u := (zopr_14.trans (zb_f (by omega))).symm
                   have eo : (if ((zSum tp z (zTerm tp z fn)) s).2.tk = 60 then (-14 : Int) else -15) = -14 := if_pos (by omega)
                   rw [eo]
                   exact ⟨rfl, d3, o3, (f1.tr f2).tr f3, 0, rfl, by decide, fun y => ev ▸ (zvl_2 (v1 ef) (v3 y) (by decide))⟩)
                | (have ev : (1 : Int) = zopr (-15) v u := (zopr_15.trans (zb_t (by omega))).symm
                   have eo : (if ((zSum tp z (zTerm tp z fn)) s).2.tk = 60 then (-14 : Int) else -15) = -15 := if_neg (by omega)
                   rw [eo]
                   exact ⟨rfl, d3, o3, (f1.tr f2).tr f3, 1, rfl, by decide, fun y => ev ▸ (zvl_2 (v1 ef) (v3 y) (by decide))⟩)
                | (have ev : (0 : Int) = zopr (-15) v u := (zopr_15.trans (zb_f (by omega))).symm
                   have eo : (if ((zSum tp z (zTerm tp z fn)) s).2.tk = 60 then (-14 : Int) else -15) = -15 := if_neg (by omega)
                   rw [eo]
                   exact ⟨rfl, d3, o3, (f1.tr f2).tr f3, 0, rfl, by decide, fun y => ev ▸ (zvl_2 (v1 ef) (v3 y) (by decide))⟩)
            · refine zV_goto (pc := 112) (tgt := 120) dX10_not3_112 (by decide) ?_
              refine zV_iconst (pc := 120) dX10_not3_120 ?_
              refine zV_goto (pc := 121) (tgt := 125) dX10_not3_121 (by decide) ?_
              refine zV_iret (pc := 125) dX10_not3_125 trivial ⟨Nat.zero_le _, Nat.zero_le _⟩ ?_
              rw [e, e1]
              first
                | (have ev : (1 : Int) = zopr (-14) v u := (zopr_14.trans (zb_t (by omega))).symm
                   have eo : (if ((zSum tp z (zTerm tp z fn)) s).2.tk = 60 then (-14 : Int) else -15) = -14 := if_pos (by omega)
                   rw [eo]
                   exact ⟨rfl, d3, o3, (f1.tr f2).tr f3, 1, rfl, by decide, fun y => ev ▸ (zvl_2 (v1 ef) (v3 y) (by decide))⟩)
                | (have ev : (0 : Int) = zopr (-14) v u := (zopr_14.trans (zb_f (by omega))).symm
                   have eo : (if ((zSum tp z (zTerm tp z fn)) s).2.tk = 60 then (-14 : Int) else -15) = -14 := if_pos (by omega)
                   rw [eo]
                   exact ⟨rfl, d3, o3, (f1.tr f2).tr f3, 0, rfl, by decide, fun y => ev ▸ (zvl_2 (v1 ef) (v3 y) (by decide))⟩)
                | (have ev : (1 : Int) = zopr (-15) v u := (zopr_15.trans (zb_t (by omega))).symm
                   have eo : (if ((zSum tp z (zTerm tp z fn)) s).2.tk = 60 then (-14 : Int) else -15) = -15 := if_neg (by omega)
                   rw [eo]
                   exact ⟨rfl, d3, o3, (f1.tr f2).tr f3, 1, rfl, by decide, fun y => ev ▸ (zvl_2 (v1 ef) (v3 y) (by decide))⟩)
                | (have ev : (0 : Int) = zopr (-15) v u := (zopr_15.trans (zb_f (by omega))).symm
                   have eo : (if ((zSum tp z (zTerm tp z fn)) s).2.tk = 60 then (-14 : Int) else -15) = -15 := if_neg (by omega)
                   rw [eo]
                   exact ⟨rfl, d3, o3, (f1.tr f2).tr f3, 0, rfl, by decide, fun y => ev ▸ (zvl_2 (v1 ef) (v3 y) (by decide))⟩)
      · have e1 : zCm2 tp z fn s = (zSum tp z (zTerm tp z fn)) s := zit_f (fun y => y.elim c_63 c_72)
        refine zV_iload_n (pc := 75) (i := 1) dX10_not3_75 rfl rfl ?_
        refine zV_iret (pc := 76) dX10_not3_76 trivial ⟨Nat.zero_le _, Nat.zero_le _⟩ ?_
        rw [e, e1]
        exact ⟨rfl, d1, o1, f1, v, rfl, r1, fun y => (v1 y).up (by decide)⟩
  · refine zV_aload_n (pc := 18) (i := 0) dX10_not3_18 rfl rfl ?_
    refine zV_ivs (pc := 19) (ci := 10) dX10_not3_19 klX10_204 mX10_opens ⟨by decide, rfl⟩ rfl ⟨Nat.zero_le _, Nat.zero_le _⟩ (kX10_opens hB.1 hT hd hz h25 (by decide) ⟨by omega, by omega⟩) (zOb_of rfl) rfl rfl (Nat.le_of_ble_eq_true rfl) ?_
    rintro w9 N9 M1 ⟨rfl, ⟨o9, rfl, d1, f1⟩ | ⟨o9, rfl, d1, o1, f1⟩⟩
    · exact absurd o9 (by decide)
    · have e : zNotS tp z fa fn s = ((fa (zadv tp z s)).1 ++ [-13], (fa (zadv tp z s)).2) := if_pos c_15
      have ga := (zgx_ad hT hz (s := s) ⟨by omega, by omega⟩).1
      have hB1 := hB.fr f1
      refine zV_if_ne (pc := 22) (tgt := 27) dX10_not3_22 (by decide) (by decide) (fun _ => ?_) (fun y => absurd y (by decide))
      refine zV_aload_n (pc := 27) (i := 0) dX10_not3_27 rfl rfl ?_
      refine zV_ivs (pc := 28) (ci := 10) dX10_not3_28 klX10_241 mX10_not4 ⟨by decide, rfl⟩ rfl ⟨Nat.zero_le _, Nat.zero_le _⟩ (hKa M1 (zadv tp z s) hB1 d1 ga.1 o1) (zOb_of rfl) rfl rfl (Nat.le_of_ble_eq_true rfl) ?_
      rintro w8 N8 M2 ⟨rfl, d2, o2, f2, u, rfl, r2, v2⟩
      refine zV_istore_n (pc := 31) (i := 1) dX10_not3_31 rfl rfl ?_
      try dsimp only [List.set_cons_succ, List.set_cons_zero]
      refine zV_aload_n (pc := 32) (i := 0) dX10_not3_32 rfl rfl ?_
      refine zV_dup (pc := 33) dX10_not3_33 (by simp) ?_
      refine zV_get (pc := 34) (j := 25) dX10_not3_34 flX10_170 (zOb_of rfl) rfl o2 ?_
      refine zV_iconst (pc := 37) dX10_not3_37 ?_
      refine zV_isub (pc := 38) dX10_not3_38 ?_
      refine zV_put (pc := 39) (j := 25) dX10_not3_39 flX10_170 rfl (zOb_of rfl) rfl trivial ?_
      refine zV_iload_n (pc := 42) (i := 1) dX10_not3_42 rfl rfl ?_
      refine zV_if_ne (pc := 43) (tgt := 50) dX10_not3_43 (by decide) (by omega) (fun c_43 => ?_) (fun c_43 => ?_)
      · refine zV_iconst (pc := 50) dX10_not3_50 ?_
        refine zV_iret (pc := 51) dX10_not3_51 trivial ⟨Nat.zero_le _, Nat.zero_le _⟩ ?_
        rw [e]
        first
          | (have ev : (1 : Int) = zop1 (-13) u := by unfold zop1; rw [if_neg (by decide)]; exact (zb_t c_43).symm
             exact ⟨rfl, d2.same (fun j j0 j1 j2 => zU_j _ _ _ _ j2), (zU_s _ _ _ _).trans (by omega), (f1.tr f2).up ⟨rfl, by decide, by decide⟩, 1, rfl, by decide, fun y => ev ▸ (zvl_1 (v2 y) (Or.inl rfl)).up (by decide)⟩)
          | (have ev : (0 : Int) = zop1 (-13) u := by unfold zop1; rw [if_neg (by decide)]; exact (zb_f c_43).symm
             exact ⟨rfl, d2.same (fun j j0 j1 j2 => zU_j _ _ _ _ j2), (zU_s _ _ _ _).trans (by omega), (f1.tr f2).up ⟨rfl, by decide, by decide⟩, 0, rfl, by decide, fun y => ev ▸ (zvl_1 (v2 y) (Or.inl rfl)).up (by decide)⟩)
      · refine zV_iconst (pc := 46) dX10_not3_46 ?_
        refine zV_goto (pc := 47) (tgt := 51) dX10_not3_47 (by decide) ?_
        refine zV_iret (pc := 51) dX10_not3_51 trivial ⟨Nat.zero_le _, Nat.zero_le _⟩ ?_
        rw [e]
        first
          | (have ev : (1 : Int) = zop1 (-13) u := by unfold zop1; rw [if_neg (by decide)]; exact (zb_t c_43).symm
             exact ⟨rfl, d2.same (fun j j0 j1 j2 => zU_j _ _ _ _ j2), (zU_s _ _ _ _).trans (by omega), (f1.tr f2).up ⟨rfl, by decide, by decide⟩, 1, rfl, by decide, fun y => ev ▸ (zvl_1 (v2 y) (Or.inl rfl)).up (by decide)⟩)
          | (have ev : (0 : Int) = zop1 (-13) u := by unfold zop1; rw [if_neg (by decide)]; exact (zb_f c_43).symm
             exact ⟨rfl, d2.same (fun j j0 j1 j2 => zU_j _ _ _ _ j2), (zU_s _ _ _ _).trans (by omega), (f1.tr f2).up ⟨rfl, by decide, by decide⟩, 0, rfl, by decide, fun y => ev ▸ (zvl_1 (v2 y) (Or.inl rfl)).up (by decide)⟩)
set_option maxRecDepth 20000 in
set_option maxHeartbeats 2000000 in
theorem kX10_both3L {f z : Int} {tp nm : Int → Int} (hT : ztp tp z) (hN : ∀ j : Int, 0 ≤ j → j ≤ 5 → -2147483648 ≤ nm j ∧ nm j ≤ 2147483647) {fn : zσ → zρ} (hf : zgd z fn) (hK1 : zMf g yX10_not3 xX10_not3 f tp z nm 3 14 fn) {V : zρ} {M0 : zM} : ∀ (k : Nat) (v : Int) (x : zρ) (M1 : zM) (w2 : zv), (z - x.2.at < k ∨ ¬ (fun t : Int => t = 10) x.2.tk) → zMB M1 f tp z nm → zMd tp M1 x.2 → zσo z x.2 → M1 58 25 = 3 → zFr zNG M0 M1 → (-2147483648 ≤ v ∧ v ≤ 2147483647) → (x.2.ft = -1 → zvl nm (14 + 1) x.1 v) → zlo tp z (fun t => t = 10) (fun t => (-12 : Int)) fn k x = V → zV g xX10_both3 (zMQ tp 3 (14 + 1) nm V M0) 5 [zr 58, zi v, w2] [] 75 M1 0 0 := by
  intro k
  induction k with
  | zero =>
    intro v x M1 w2 h0 h1 h2 h3 h4 h5 h6 h7 h8
    have hlvT : (fun t : Int => t = 10) x.2.tk → zlive x.2 := fun q => ⟨by omega, by omega⟩
    refine zV_aload_n (pc := 5) (i := 0) dX10_both3_5 rfl rfl ?_
    refine zV_bipush (pc := 6) dX10_both3_6 (by decide) ?_
    refine zV_bipush (pc := 8) dX10_both3_8 (by decide) ?_
    refine zV_bipush (pc := 10) dX10_both3_10 (by decide) ?_
    refine zV_iconst (pc := 12) dX10_both3_12 ?_
    refine zV_iconst (pc := 13) dX10_both3_13 ?_
    refine zV_iconst (pc := 14) dX10_both3_14 ?_
    refine zV_iconst (pc := 15) dX10_both3_15 ?_
    refine zV_iconst (pc := 16) dX10_both3_16 ?_
    refine zV_ivp (pc := 17) (ci := 10) dX10_both3_17 klX10_179 mX10_isWord ⟨by decide, rfl⟩ rfl ⟨Nat.zero_le _, Nat.zero_le _⟩ (kX10_w_and h1.1 hT h2 h3) (zOb_of rfl) rfl rfl (Nat.le_of_ble_eq_true rfl) ?_
    refine zV_if_eqb (pc := 20) (tgt := 49) dX10_both3_20 (by decide) (fun c_20 => ?_) (fun c_20 => ?_)
    · refine zV_iload_n (pc := 49) (i := 1) dX10_both3_49 rfl rfl ?_
      refine zV_iret (pc := 50) dX10_both3_50 trivial ⟨Nat.zero_le _, Nat.zero_le _⟩ ?_
      have e8 := (zlo_f (tp := tp) (z := z) (q := fun t => t = 10) (stp := fun t => (-12 : Int)) (f := fn) (k := 0) (x := x) c_20).symm.trans h8
      rw [← e8]
      exact ⟨rfl, h2, h4, h5, v, rfl, h6, h7⟩
    · exfalso
      exact h0.elim (fun y => by have := h3.1; have y : z - x.2.at < 0 := y; omega) (fun y => y c_20)
  | succ k ih =>
    intro v x M1 w2 h0 h1 h2 h3 h4 h5 h6 h7 h8
    have hlvT : (fun t : Int => t = 10) x.2.tk → zlive x.2 := fun q => ⟨by omega, by omega⟩
    refine zV_aload_n (pc := 5) (i := 0) dX10_both3_5 rfl rfl ?_
    refine zV_bipush (pc := 6) dX10_both3_6 (by decide) ?_
    refine zV_bipush (pc := 8) dX10_both3_8 (by decide) ?_
    refine zV_bipush (pc := 10) dX10_both3_10 (by decide) ?_
    refine zV_iconst (pc := 12) dX10_both3_12 ?_
    refine zV_iconst (pc := 13) dX10_both3_13 ?_
    refine zV_iconst (pc := 14) dX10_both3_14 ?_
    refine zV_iconst (pc := 15) dX10_both3_15 ?_
    refine zV_iconst (pc := 16) dX10_both3_16 ?_
    refine zV_ivp (pc := 17) (ci := 10) dX10_both3_17 klX10_179 mX10_isWord ⟨by decide, rfl⟩ rfl ⟨Nat.zero_le _, Nat.zero_le _⟩ (kX10_w_and h1.1 hT h2 h3) (zOb_of rfl) rfl rfl (Nat.le_of_ble_eq_true rfl) ?_
    refine zV_if_eqb (pc := 20) (tgt := 49) dX10_both3_20 (by decide) (fun c_20 => ?_) (fun c_20 => ?_)
    · refine zV_iload_n (pc := 49) (i := 1) dX10_both3_49 rfl rfl ?_
      refine zV_iret (pc := 50) dX10_both3_50 trivial ⟨Nat.zero_le _, Nat.zero_le _⟩ ?_
      have e8 := (zlo_f (tp := tp) (z := z) (q := fun t => t = 10) (stp := fun t => (-12 : Int)) (f := fn) (k := k + 1) (x := x) c_20).symm.trans h8
      rw [← e8]
      exact ⟨rfl, h2, h4, h5, v, rfl, h6, h7⟩
    · have hlv := hlvT c_20
      refine zV_aload_n (pc := 23) (i := 0) dX10_both3_23 rfl rfl ?_
      refine zV_ivn (pc := 24) (ci := 10) dX10_both3_24 klX10_176 mX10_next ⟨by decide, rfl⟩ rfl ⟨Nat.zero_le _, Nat.zero_le _⟩ (kX10_next h1.1 hT (s := x.2) (by have := h3.1; omega) (h2.here h3 hlv) (h3.live hlv) (h2.ok (h3.live hlv))) (zOb_of rfl) rfl rfl (Nat.le_of_ble_eq_true rfl) (fun M2 q2 => ?_)
      have f2 : zFr zNG M1 M2 := q2.2.mono (fun a j y => zNF_G y)
      have hB2 := h1.fr f2
      have ga := (zgx_ad hT h3 hlv).1
      have gf := hf (zadv tp z x.2) ga.1
      refine zV_aload_n (pc := 27) (i := 0) dX10_both3_27 rfl rfl ?_
      refine zV_ivs (pc := 28) (ci := 10) dX10_both3_28 klX10_259 mX10_not3 ⟨by decide, rfl⟩ rfl ⟨Nat.zero_le _, Nat.zero_le _⟩ (hK1 M2 (zadv tp z x.2) hB2 q2.1 ga.1 ((q2.2 _ _ (by unfold zNF; omega)).trans h4)) (zOb_of rfl) rfl rfl (Nat.le_of_ble_eq_true rfl) ?_
      rintro w9 N9 M3 ⟨rfl, d3, o3, f3, u, rfl, r3, v3⟩
      have e8 := (zlo_t (q := fun t => t = 10) (stp := fun t => (-12 : Int)) (f := fn) (k := k) c_20).symm.trans h8
      refine zV_istore_n (pc := 31) (i := 2) dX10_both3_31 rfl rfl ?_
      try dsimp only [List.set_cons_succ, List.set_cons_zero]
      refine zV_iload_n (pc := 32) (i := 1) dX10_both3_32 rfl rfl ?_
      refine zV_if_eq (pc := 33) (tgt := 44) dX10_both3_33 (by decide) (by omega) (fun c_33 => ?_) (fun c_33 => ?_)
      · refine zV_iconst (pc := 44) dX10_both3_44 ?_
        refine zV_istore_n (pc := 45) (i := 1) dX10_both3_45 rfl rfl ?_
        try dsimp only [List.set_cons_succ, List.set_cons_zero]
        refine zV_goto (pc := 46) (tgt := 5) dX10_both3_46 (by decide) ?_
        have hz9 : (fn (zadv tp z x.2)).2.ft = -1 → x.2.ft = -1 := fun _ => h3.live hlv
        have hms : z - (fn (zadv tp z x.2)).2.at < k ∨ ¬ (fun t : Int => t = 10) (fn (zadv tp z x.2)).2.tk := by
          by_cases q : (fun t : Int => t = 10) (fn (zadv tp z x.2)).2.tk
          · have l := gf.2.1 ⟨by omega, by omega⟩
            have l2 := ga.2.2.1
            exact Or.inl (by show z - (fn (zadv tp z x.2)).2.at < k; omega)
          · exact Or.inr q
        first
          | (have ev : (1 : Int) = zopr (-12) v u := ((zopr_12).trans (zb_t ⟨by omega, by omega⟩)).symm
             have eo : (fun t : Int => (-12 : Int)) x.2.tk = -12 := by first | rfl | exact if_pos (by omega) | exact if_neg (by omega)
             have hv9 : (fn (zadv tp z x.2)).2.ft = -1 → zvl nm (14 + 1) (x.1 ++ (fn (zadv tp z x.2)).1 ++ [(fun t : Int => (-12 : Int)) x.2.tk]) (zopr (-12) v u) := fun y => by rw [eo]; exact zvl_2u (h7 (hz9 y)) (v3 y) (by decide)
             rw [← ev] at hv9
             refine ih _ (x.1 ++ (fn (zadv tp z x.2)).1 ++ [(fun t : Int => (-12 : Int)) x.2.tk], (fn (zadv tp z x.2)).2) M3 _ hms (hB2.fr f3) d3 gf.1.1 o3 ((h5.tr f2).tr f3) ?_ hv9 e8
             rw [ev]
             exact zopr_r _ _ _)
          | (have ev : (0 : Int) = zopr (-12) v u := ((zopr_12).trans (zb_f (by omega))).symm
             have eo : (fun t : Int => (-12 : Int)) x.2.tk = -12 := by first | rfl | exact if_pos (by omega) | exact if_neg (by omega)
             have hv9 : (fn (zadv tp z x.2)).2.ft = -1 → zvl nm (14 + 1) (x.1 ++ (fn (zadv tp z x.2)).1 ++ [(fun t : Int => (-12 : Int)) x.2.tk]) (zopr (-12) v u) := fun y => by rw [eo]; exact zvl_2u (h7 (hz9 y)) (v3 y) (by decide)
             rw [← ev] at hv9
             refine ih _ (x.1 ++ (fn (zadv tp z x.2)).1 ++ [(fun t : Int => (-12 : Int)) x.2.tk], (fn (zadv tp z x.2)).2) M3 _ hms (hB2.fr f3) d3 gf.1.1 o3 ((h5.tr f2).tr f3) ?_ hv9 e8
             rw [ev]
             exact zopr_r _ _ _)
      · refine zV_iload_n (pc := 36) (i := 2) dX10_both3_36 rfl rfl ?_
        refine zV_if_eq (pc := 37) (tgt := 44) dX10_both3_37 (by decide) (by omega) (fun c_37 => ?_) (fun c_37 => ?_)
        · refine zV_iconst (pc := 44) dX10_both3_44 ?_
          refine zV_istore_n (pc := 45) (i := 1) dX10_both3_45 rfl rfl ?_
          try dsimp only [List.set_cons_succ, List.set_cons_zero]
          refine zV_goto (pc := 46) (tgt := 5) dX10_both3_46 (by decide) ?_
          have hz9 : (fn (zadv tp z x.2)).2.ft = -1 → x.2.ft = -1 := fun _ => h3.live hlv
          have hms : z - (fn (zadv tp z x.2)).2.at < k ∨ ¬ (fun t : Int => t = 10) (fn (zadv tp z x.2)).2.tk := by
            by_cases q : (fun t : Int => t = 10) (fn (zadv tp z x.2)).2.tk
            · have l := gf.2.1 ⟨by omega, by omega⟩
              have l2 := ga.2.2.1
              exact Or.inl (by show z - (fn (zadv tp z x.2)).2.at < k; omega)
            · exact Or.inr q
          first
            | (have ev : (1 : Int) = zopr (-12) v u := ((zopr_12).trans (zb_t ⟨by omega, by omega⟩)).symm
               have eo : (fun t : Int => (-12 : Int)) x.2.tk = -12 := by first | rfl | exact if_pos (by omega) | exact if_neg (by omega)
               have hv9 : (fn (zadv tp z x.2)).2.ft = -1 → zvl nm (14 + 1) (x.1 ++ (fn (zadv tp z x.2)).1 ++ [(fun t : Int => (-12 : Int)) x.2.tk]) (zopr (-12) v u) := fun y => by rw [eo]; exact zvl_2u (h7 (hz9 y)) (v3 y) (by decide)
               rw [← ev] at hv9
               refine ih _ (x.1 ++ (fn (zadv tp z x.2)).1 ++ [(fun t : Int => (-12 : Int)) x.2.tk], (fn (zadv tp z x.2)).2) M3 _ hms (hB2.fr f3) d3 gf.1.1 o3 ((h5.tr f2).tr f3) ?_ hv9 e8
               rw [ev]
               exact zopr_r _ _ _)
            | (have ev : (0 : Int) = zopr (-12) v u := ((zopr_12).trans (zb_f (by omega))).symm
               have eo : (fun t : Int => (-12 : Int)) x.2.tk = -12 := by first | rfl | exact if_pos (by omega) | exact if_neg (by omega)
               have hv9 : (fn (zadv tp z x.2)).2.ft = -1 → zvl nm (14 + 1) (x.1 ++ (fn (zadv tp z x.2)).1 ++ [(fun t : Int => (-12 : Int)) x.2.tk]) (zopr (-12) v u) := fun y => by rw [eo]; exact zvl_2u (h7 (hz9 y)) (v3 y) (by decide)
               rw [← ev] at hv9
               refine ih _ (x.1 ++ (fn (zadv tp z x.2)).1 ++ [(fun t : Int => (-12 : Int)) x.2.tk], (fn (zadv tp z x.2)).2) M3 _ hms (hB2.fr f3) d3 gf.1.1 o3 ((h5.tr f2).tr f3) ?_ hv9 e8
               rw [ev]
               exact zopr_r _ _ _)
        · refine zV_iconst (pc := 40) dX10_both3_40 ?_
          refine zV_goto (pc := 41) (tgt := 45) dX10_both3_41 (by decide) ?_
          refine zV_istore_n (pc := 45) (i := 1) dX10_both3_45 rfl rfl ?_
          try dsimp only [List.set_cons_succ, List.set_cons_zero]
          refine zV_goto (pc := 46) (tgt := 5) dX10_both3_46 (by decide) ?_
          have hz9 : (fn (zadv tp z x.2)).2.ft = -1 → x.2.ft = -1 := fun _ => h3.live hlv
          have hms : z - (fn (zadv tp z x.2)).2.at < k ∨ ¬ (fun t : Int => t = 10) (fn (zadv tp z x.2)).2.tk := by
            by_cases q : (fun t : Int => t = 10) (fn (zadv tp z x.2)).2.tk
            · have l := gf.2.1 ⟨by omega, by omega⟩
              have l2 := ga.2.2.1
              exact Or.inl (by show z - (fn (zadv tp z x.2)).2.at < k; omega)
            · exact Or.inr q
          first
            | (have ev : (1 : Int) = zopr (-12) v u := ((zopr_12).trans (zb_t ⟨by omega, by omega⟩)).symm
               have eo : (fun t : Int => (-12 : Int)) x.2.tk = -12 := by first | rfl | exact if_pos (by omega) | exact if_neg (by omega)
               have hv9 : (fn (zadv tp z x.2)).2.ft = -1 → zvl nm (14 + 1) (x.1 ++ (fn (zadv tp z x.2)).1 ++ [(fun t : Int => (-12 : Int)) x.2.tk]) (zopr (-12) v u) := fun y => by rw [eo]; exact zvl_2u (h7 (hz9 y)) (v3 y) (by decide)
               rw [← ev] at hv9
               refine ih _ (x.1 ++ (fn (zadv tp z x.2)).1 ++ [(fun t : Int => (-12 : Int)) x.2.tk], (fn (zadv tp z x.2)).2) M3 _ hms (hB2.fr f3) d3 gf.1.1 o3 ((h5.tr f2).tr f3) ?_ hv9 e8
               rw [ev]
               exact zopr_r _ _ _)
            | (have ev : (0 : Int) = zopr (-12) v u := ((zopr_12).trans (zb_f (by omega))).symm
               have eo : (fun t : Int => (-12 : Int)) x.2.tk = -12 := by first | rfl | exact if_pos (by omega) | exact if_neg (by omega)
               have hv9 : (fn (zadv tp z x.2)).2.ft = -1 → zvl nm (14 + 1) (x.1 ++ (fn (zadv tp z x.2)).1 ++ [(fun t : Int => (-12 : Int)) x.2.tk]) (zopr (-12) v u) := fun y => by rw [eo]; exact zvl_2u (h7 (hz9 y)) (v3 y) (by decide)
               rw [← ev] at hv9
               refine ih _ (x.1 ++ (fn (zadv tp z x.2)).1 ++ [(fun t : Int => (-12 : Int)) x.2.tk], (fn (zadv tp z x.2)).2) M3 _ hms (hB2.fr f3) d3 gf.1.1 o3 ((h5.tr f2).tr f3) ?_ hv9 e8
               rw [ev]
               exact zopr_r _ _ _)
set_option maxRecDepth 20000 in
set_option maxHeartbeats 2000000 in
theorem kX10_both3 {f z : Int} {tp nm : Int → Int} (hT : ztp tp z) (hN : ∀ j : Int, 0 ≤ j → j ≤ 5 → -2147483648 ≤ nm j ∧ nm j ≤ 2147483647) {fn : zσ → zρ} (hf : zgd z fn) (hK1 : zMf g yX10_not3 xX10_not3 f tp z nm 3 14 fn) : zMf g yX10_both3 xX10_both3 f tp z nm 3 (14 + 1) (zAnd tp z fn) := by
  intro M s hB hd hz h25
  refine zK_of (ls0 := [zr 58, (3, 0), (3, 0)]) (by decide) rfl (by decide) rfl (Nat.le_of_ble_eq_true rfl) ?_
  refine zV_aload_n (pc := 0) (i := 0) dX10_both3_0 rfl rfl ?_
  refine zV_ivs (pc := 1) (ci := 10) dX10_both3_1 klX10_259 mX10_not3 ⟨by decide, rfl⟩ rfl ⟨Nat.zero_le _, Nat.zero_le _⟩ (hK1 M s hB hd hz h25) (zOb_of rfl) rfl rfl (Nat.le_of_ble_eq_true rfl) ?_
  rintro w9 N9 M1 ⟨rfl, d1, o1, f1, v, rfl, r1, v1⟩
  refine zV_istore_n (pc := 4) (i := 1) dX10_both3_4 rfl rfl ?_
  try dsimp only [List.set_cons_succ, List.set_cons_zero]
  have gf := hf s hz
  exact kX10_both3L hT hN hf hK1 160 v (fn s) M1 _ (by
    by_cases q : (fun t : Int => t = 10) (fn s).2.tk
    · have l := gf.2.1 ⟨by omega, by omega⟩
      have l2 := hz.1
      exact Or.inl (by show z - (fn s).2.at < 160; have := hT.1; omega)
    · exact Or.inr q) (hB.fr f1) d1 gf.1.1 o1 f1 r1 (fun y => (v1 y).up (Nat.le_succ _)) rfl
set_option maxRecDepth 20000 in
set_option maxHeartbeats 2000000 in
theorem kX10_either3L {f z : Int} {tp nm : Int → Int} (hT : ztp tp z) (hN : ∀ j : Int, 0 ≤ j → j ≤ 5 → -2147483648 ≤ nm j ∧ nm j ≤ 2147483647) {fn : zσ → zρ} (hf : zgd z fn) (hK1 : zMf g yX10_both3 xX10_both3 f tp z nm 3 15 fn) {V : zρ} {M0 : zM} : ∀ (k : Nat) (v : Int) (x : zρ) (M1 : zM) (w2 : zv), (z - x.2.at < k ∨ ¬ (fun t : Int => t = 9) x.2.tk) → zMB M1 f tp z nm → zMd tp M1 x.2 → zσo z x.2 → M1 58 25 = 3 → zFr zNG M0 M1 → (-2147483648 ≤ v ∧ v ≤ 2147483647) → (x.2.ft = -1 → zvl nm (15 + 1) x.1 v) → zlo tp z (fun t => t = 9) (fun t => (-11 : Int)) fn k x = V → zV g xX10_either3 (zMQ tp 3 (15 + 1) nm V M0) 5 [zr 58, zi v, w2] [] 75 M1 0 0 := by
  intro k
  induction k with
  | zero =>
    intro v x M1 w2 h0 h1 h2 h3 h4 h5 h6 h7 h8
    have hlvT : (fun t : Int => t = 9) x.2.tk → zlive x.2 := fun q => ⟨by omega, by omega⟩
    refine zV_aload_n (pc := 5) (i := 0) dX10_either3_5 rfl rfl ?_
    refine zV_bipush (pc := 6) dX10_either3_6 (by decide) ?_
    refine zV_bipush (pc := 8) dX10_either3_8 (by decide) ?_
    refine zV_iconst (pc := 10) dX10_either3_10 ?_
    refine zV_iconst (pc := 11) dX10_either3_11 ?_
    refine zV_iconst (pc := 12) dX10_either3_12 ?_
    refine zV_iconst (pc := 13) dX10_either3_13 ?_
    refine zV_iconst (pc := 14) dX10_either3_14 ?_
    refine zV_iconst (pc := 15) dX10_either3_15 ?_
    refine zV_ivp (pc := 16) (ci := 10) dX10_either3_16 klX10_179 mX10_isWord ⟨by decide, rfl⟩ rfl ⟨Nat.zero_le _, Nat.zero_le _⟩ (kX10_w_or h1.1 hT h2 h3) (zOb_of rfl) rfl rfl (Nat.le_of_ble_eq_true rfl) ?_
    refine zV_if_eqb (pc := 19) (tgt := 48) dX10_either3_19 (by decide) (fun c_19 => ?_) (fun c_19 => ?_)
    · refine zV_iload_n (pc := 48) (i := 1) dX10_either3_48 rfl rfl ?_
      refine zV_iret (pc := 49) dX10_either3_49 trivial ⟨Nat.zero_le _, Nat.zero_le _⟩ ?_
      have e8 := (zlo_f (tp := tp) (z := z) (q := fun t => t = 9) (stp := fun t => (-11 : Int)) (f := fn) (k := 0) (x := x) c_19).symm.trans h8
      rw [← e8]
      exact ⟨rfl, h2, h4, h5, v, rfl, h6, h7⟩
    · exfalso
      exact h0.elim (fun y => by have := h3.1; have y : z - x.2.at < 0 := y; omega) (fun y => y c_19)
  | succ k ih =>
    intro v x M1 w2 h0 h1 h2 h3 h4 h5 h6 h7 h8
    have hlvT : (fun t : Int => t = 9) x.2.tk → zlive x.2 := fun q => ⟨by omega, by omega⟩
    refine zV_aload_n (pc := 5) (i := 0) dX10_either3_5 rfl rfl ?_
    refine zV_bipush (pc := 6) dX10_either3_6 (by decide) ?_
    refine zV_bipush (pc := 8) dX10_either3_8 (by decide) ?_
    refine zV_iconst (pc := 10) dX10_either3_10 ?_
    refine zV_iconst (pc := 11) dX10_either3_11 ?_
    refine zV_iconst (pc := 12) dX10_either3_12 ?_
    refine zV_iconst (pc := 13) dX10_either3_13 ?_
    refine zV_iconst (pc := 14) dX10_either3_14 ?_
    refine zV_iconst (pc := 15) dX10_either3_15 ?_
    refine zV_ivp (pc := 16) (ci := 10) dX10_either3_16 klX10_179 mX10_isWord ⟨by decide, rfl⟩ rfl ⟨Nat.zero_le _, Nat.zero_le _⟩ (kX10_w_or h1.1 hT h2 h3) (zOb_of rfl) rfl rfl (Nat.le_of_ble_eq_true rfl) ?_
    refine zV_if_eqb (pc := 19) (tgt := 48) dX10_either3_19 (by decide) (fun c_19 => ?_) (fun c_19 => ?_)
    · refine zV_iload_n (pc := 48) (i := 1) dX10_either3_48 rfl rfl ?_
      refine zV_iret (pc := 49) dX10_either3_49 trivial ⟨Nat.zero_le _, Nat.zero_le _⟩ ?_
      have e8 := (zlo_f (tp := tp) (z := z) (q := fun t => t = 9) (stp := fun t => (-11 : Int)) (f := fn) (k := k + 1) (x := x) c_19).symm.trans h8
      rw [← e8]
      exact ⟨rfl, h2, h4, h5, v, rfl, h6, h7⟩
    · have hlv := hlvT c_19
      refine zV_aload_n (pc := 22) (i := 0) dX10_either3_22 rfl rfl ?_
      refine zV_ivn (pc := 23) (ci := 10) dX10_either3_23 klX10_176 mX10_next ⟨by decide, rfl⟩ rfl ⟨Nat.zero_le _, Nat.zero_le _⟩ (kX10_next h1.1 hT (s := x.2) (by have := h3.1; omega) (h2.here h3 hlv) (h3.live hlv) (h2.ok (h3.live hlv))) (zOb_of rfl) rfl rfl (Nat.le_of_ble_eq_true rfl) (fun M2 q2 => ?_)
      have f2 : zFr zNG M1 M2 := q2.2.mono (fun a j y => zNF_G y)
      have hB2 := h1.fr f2
      have ga := (zgx_ad hT h3 hlv).1
      have gf := hf (zadv tp z x.2) ga.1
      refine zV_aload_n (pc := 26) (i := 0) dX10_either3_26 rfl rfl ?_
      refine zV_ivs (pc := 27) (ci := 10) dX10_either3_27 klX10_262 mX10_both3 ⟨by decide, rfl⟩ rfl ⟨Nat.zero_le _, Nat.zero_le _⟩ (hK1 M2 (zadv tp z x.2) hB2 q2.1 ga.1 ((q2.2 _ _ (by unfold zNF; omega)).trans h4)) (zOb_of rfl) rfl rfl (Nat.le_of_ble_eq_true rfl) ?_
      rintro w9 N9 M3 ⟨rfl, d3, o3, f3, u, rfl, r3, v3⟩
      have e8 := (zlo_t (q := fun t => t = 9) (stp := fun t => (-11 : Int)) (f := fn) (k := k) c_19).symm.trans h8
      refine zV_istore_n (pc := 30) (i := 2) dX10_either3_30 rfl rfl ?_
      try dsimp only [List.set_cons_succ, List.set_cons_zero]
      refine zV_iload_n (pc := 31) (i := 1) dX10_either3_31 rfl rfl ?_
      refine zV_if_ne (pc := 32) (tgt := 39) dX10_either3_32 (by decide) (by omega) (fun c_32 => ?_) (fun c_32 => ?_)
      · refine zV_iconst (pc := 39) dX10_either3_39 ?_
        refine zV_goto (pc := 40) (tgt := 44) dX10_either3_40 (by decide) ?_
        refine zV_istore_n (pc := 44) (i := 1) dX10_either3_44 rfl rfl ?_
        try dsimp only [List.set_cons_succ, List.set_cons_zero]
        refine zV_goto (pc := 45) (tgt := 5) dX10_either3_45 (by decide) ?_
        have hz9 : (fn (zadv tp z x.2)).2.ft = -1 → x.2.ft = -1 := fun _ => h3.live hlv
        have hms : z - (fn (zadv tp z x.2)).2.at < k ∨ ¬ (fun t : Int => t = 9) (fn (zadv tp z x.2)).2.tk := by
          by_cases q : (fun t : Int => t = 9) (fn (zadv tp z x.2)).2.tk
          · have l := gf.2.1 ⟨by omega, by omega⟩
            have l2 := ga.2.2.1
            exact Or.inl (by show z - (fn (zadv tp z x.2)).2.at < k; omega)
          · exact Or.inr q
        first
          | (have ev : (1 : Int) = zopr (-11) v u := ((zopr_11).trans (zb_t (by omega))).symm
             have eo : (fun t : Int => (-11 : Int)) x.2.tk = -11 := by first | rfl | exact if_pos (by omega) | exact if_neg (by omega)
             have hv9 : (fn (zadv tp z x.2)).2.ft = -1 → zvl nm (15 + 1) (x.1 ++ (fn (zadv tp z x.2)).1 ++ [(fun t : Int => (-11 : Int)) x.2.tk]) (zopr (-11) v u) := fun y => by rw [eo]; exact zvl_2u (h7 (hz9 y)) (v3 y) (by decide)
             rw [← ev] at hv9
             refine ih _ (x.1 ++ (fn (zadv tp z x.2)).1 ++ [(fun t : Int => (-11 : Int)) x.2.tk], (fn (zadv tp z x.2)).2) M3 _ hms (hB2.fr f3) d3 gf.1.1 o3 ((h5.tr f2).tr f3) ?_ hv9 e8
             rw [ev]
             exact zopr_r _ _ _)
          | (have ev : (0 : Int) = zopr (-11) v u := ((zopr_11).trans (zb_f (by omega))).symm
             have eo : (fun t : Int => (-11 : Int)) x.2.tk = -11 := by first | rfl | exact if_pos (by omega) | exact if_neg (by omega)
             have hv9 : (fn (zadv tp z x.2)).2.ft = -1 → zvl nm (15 + 1) (x.1 ++ (fn (zadv tp z x.2)).1 ++ [(fun t : Int => (-11 : Int)) x.2.tk]) (zopr (-11) v u) := fun y => by rw [eo]; exact zvl_2u (h7 (hz9 y)) (v3 y) (by decide)
             rw [← ev] at hv9
             refine ih _ (x.1 ++ (fn (zadv tp z x.2)).1 ++ [(fun t : Int => (-11 : Int)) x.2.tk], (fn (zadv tp z x.2)).2) M3 _ hms (hB2.fr f3) d3 gf.1.1 o3 ((h5.tr f2).tr f3) ?_ hv9 e8
             rw [ev]
             exact zopr_r _ _ _)
      · refine zV_iload_n (pc := 35) (i := 2) dX10_either3_35 rfl rfl ?_
        refine zV_if_eq (pc := 36) (tgt := 43) dX10_either3_36 (by decide) (by omega) (fun c_36 => ?_) (fun c_36 => ?_)
        · refine zV_iconst (pc := 43) dX10_either3_43 ?_
          refine zV_istore_n (pc := 44) (i := 1) dX10_either3_44 rfl rfl ?_
          try dsimp only [List.set_cons_succ, List.set_cons_zero]
          refine zV_goto (pc := 45) (tgt := 5) dX10_either3_45 (by decide) ?_
          have hz9 : (fn (zadv tp z x.2)).2.ft = -1 → x.2.ft = -1 := fun _ => h3.live hlv
          have hms : z - (fn (zadv tp z x.2)).2.at < k ∨ ¬ (fun t : Int => t = 9) (fn (zadv tp z x.2)).2.tk := by
            by_cases q : (fun t : Int => t = 9) (fn (zadv tp z x.2)).2.tk
            · have l := gf.2.1 ⟨by omega, by omega⟩
              have l2 := ga.2.2.1
              exact Or.inl (by show z - (fn (zadv tp z x.2)).2.at < k; omega)
            · exact Or.inr q
          first
            | (have ev : (1 : Int) = zopr (-11) v u := ((zopr_11).trans (zb_t (by omega))).symm
               have eo : (fun t : Int => (-11 : Int)) x.2.tk = -11 := by first | rfl | exact if_pos (by omega) | exact if_neg (by omega)
               have hv9 : (fn (zadv tp z x.2)).2.ft = -1 → zvl nm (15 + 1) (x.1 ++ (fn (zadv tp z x.2)).1 ++ [(fun t : Int => (-11 : Int)) x.2.tk]) (zopr (-11) v u) := fun y => by rw [eo]; exact zvl_2u (h7 (hz9 y)) (v3 y) (by decide)
               rw [← ev] at hv9
               refine ih _ (x.1 ++ (fn (zadv tp z x.2)).1 ++ [(fun t : Int => (-11 : Int)) x.2.tk], (fn (zadv tp z x.2)).2) M3 _ hms (hB2.fr f3) d3 gf.1.1 o3 ((h5.tr f2).tr f3) ?_ hv9 e8
               rw [ev]
               exact zopr_r _ _ _)
            | (have ev : (0 : Int) = zopr (-11) v u := ((zopr_11).trans (zb_f (by omega))).symm
               have eo : (fun t : Int => (-11 : Int)) x.2.tk = -11 := by first | rfl | exact if_pos (by omega) | exact if_neg (by omega)
               have hv9 : (fn (zadv tp z x.2)).2.ft = -1 → zvl nm (15 + 1) (x.1 ++ (fn (zadv tp z x.2)).1 ++ [(fun t : Int => (-11 : Int)) x.2.tk]) (zopr (-11) v u) := fun y => by rw [eo]; exact zvl_2u (h7 (hz9 y)) (v3 y) (by decide)
               rw [← ev] at hv9
               refine ih _ (x.1 ++ (fn (zadv tp z x.2)).1 ++ [(fun t : Int => (-11 : Int)) x.2.tk], (fn (zadv tp z x.2)).2) M3 _ hms (hB2.fr f3) d3 gf.1.1 o3 ((h5.tr f2).tr f3) ?_ hv9 e8
               rw [ev]
               exact zopr_r _ _ _)
        · refine zV_iconst (pc := 39) dX10_either3_39 ?_
          refine zV_goto (pc := 40) (tgt := 44) dX10_either3_40 (by decide) ?_
          refine zV_istore_n (pc := 44) (i := 1) dX10_either3_44 rfl rfl ?_
          try dsimp only [List.set_cons_succ, List.set_cons_zero]
          refine zV_goto (pc := 45) (tgt := 5) dX10_either3_45 (by decide) ?_
          have hz9 : (fn (zadv tp z x.2)).2.ft = -1 → x.2.ft = -1 := fun _ => h3.live hlv
          have hms : z - (fn (zadv tp z x.2)).2.at < k ∨ ¬ (fun t : Int => t = 9) (fn (zadv tp z x.2)).2.tk := by
            by_cases q : (fun t : Int => t = 9) (fn (zadv tp z x.2)).2.tk
            · have l := gf.2.1 ⟨by omega, by omega⟩
              have l2 := ga.2.2.1
              exact Or.inl (by show z - (fn (zadv tp z x.2)).2.at < k; omega)
            · exact Or.inr q
          first
            | (have ev : (1 : Int) = zopr (-11) v u := ((zopr_11).trans (zb_t (by omega))).symm
               have eo : (fun t : Int => (-11 : Int)) x.2.tk = -11 := by first | rfl | exact if_pos (by omega) | exact if_neg (by omega)
               have hv9 : (fn (zadv tp z x.2)).2.ft = -1 → zvl nm (15 + 1) (x.1 ++ (fn (zadv tp z x.2)).1 ++ [(fun t : Int => (-11 : Int)) x.2.tk]) (zopr (-11) v u) := fun y => by rw [eo]; exact zvl_2u (h7 (hz9 y)) (v3 y) (by decide)
               rw [← ev] at hv9
               refine ih _ (x.1 ++ (fn (zadv tp z x.2)).1 ++ [(fun t : Int => (-11 : Int)) x.2.tk], (fn (zadv tp z x.2)).2) M3 _ hms (hB2.fr f3) d3 gf.1.1 o3 ((h5.tr f2).tr f3) ?_ hv9 e8
               rw [ev]
               exact zopr_r _ _ _)
            | (have ev : (0 : Int) = zopr (-11) v u := ((zopr_11).trans (zb_f (by omega))).symm
               have eo : (fun t : Int => (-11 : Int)) x.2.tk = -11 := by first | rfl | exact if_pos (by omega) | exact if_neg (by omega)
               have hv9 : (fn (zadv tp z x.2)).2.ft = -1 → zvl nm (15 + 1) (x.1 ++ (fn (zadv tp z x.2)).1 ++ [(fun t : Int => (-11 : Int)) x.2.tk]) (zopr (-11) v u) := fun y => by rw [eo]; exact zvl_2u (h7 (hz9 y)) (v3 y) (by decide)
               rw [← ev] at hv9
               refine ih _ (x.1 ++ (fn (zadv tp z x.2)).1 ++ [(fun t : Int => (-11 : Int)) x.2.tk], (fn (zadv tp z x.2)).2) M3 _ hms (hB2.fr f3) d3 gf.1.1 o3 ((h5.tr f2).tr f3) ?_ hv9 e8
               rw [ev]
               exact zopr_r _ _ _)
set_option maxRecDepth 20000 in
set_option maxHeartbeats 2000000 in
theorem kX10_either3 {f z : Int} {tp nm : Int → Int} (hT : ztp tp z) (hN : ∀ j : Int, 0 ≤ j → j ≤ 5 → -2147483648 ≤ nm j ∧ nm j ≤ 2147483647) {fn : zσ → zρ} (hf : zgd z fn) (hK1 : zMf g yX10_both3 xX10_both3 f tp z nm 3 15 fn) : zMf g yX10_either3 xX10_either3 f tp z nm 3 (15 + 1) (zOr tp z fn) := by
  intro M s hB hd hz h25
  refine zK_of (ls0 := [zr 58, (3, 0), (3, 0)]) (by decide) rfl (by decide) rfl (Nat.le_of_ble_eq_true rfl) ?_
  refine zV_aload_n (pc := 0) (i := 0) dX10_either3_0 rfl rfl ?_
  refine zV_ivs (pc := 1) (ci := 10) dX10_either3_1 klX10_262 mX10_both3 ⟨by decide, rfl⟩ rfl ⟨Nat.zero_le _, Nat.zero_le _⟩ (hK1 M s hB hd hz h25) (zOb_of rfl) rfl rfl (Nat.le_of_ble_eq_true rfl) ?_
  rintro w9 N9 M1 ⟨rfl, d1, o1, f1, v, rfl, r1, v1⟩
  refine zV_istore_n (pc := 4) (i := 1) dX10_either3_4 rfl rfl ?_
  try dsimp only [List.set_cons_succ, List.set_cons_zero]
  have gf := hf s hz
  exact kX10_either3L hT hN hf hK1 160 v (fn s) M1 _ (by
    by_cases q : (fun t : Int => t = 9) (fn s).2.tk
    · have l := gf.2.1 ⟨by omega, by omega⟩
      have l2 := hz.1
      exact Or.inl (by show z - (fn s).2.at < 160; have := hT.1; omega)
    · exact Or.inr q) (hB.fr f1) d1 gf.1.1 o1 f1 r1 (fun y => (v1 y).up (Nat.le_succ _)) rfl
end
