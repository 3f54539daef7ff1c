/-! THE MODEL'S READER: level 5 (printed by wip/whole/p49.py) -/
theorem zfl_ft {z : Int} {s : zσ} (h : zσo z s) : (zfl s).ft ≠ -1 := by
  show (if s.ft = -1 then s.sa else s.ft) ≠ -1
  have := h.1
  split <;> omega
section
variable {g : zG} {N : Nat} {M : zM}
set_option maxRecDepth 20000 in
set_option maxHeartbeats 2000000 in
theorem kX10_atom5 {f z : Int} {tp nm : Int → Int} (hT : ztp tp z) (hN : ∀ j : Int, 0 ≤ j → j ≤ 5 → -2147483648 ≤ nm j ∧ nm j ≤ 2147483647)  : zMf g yX10_atom5 xX10_atom5 f tp z nm 5 1 (zOne0 tp z) := by
  intro M s hB hd hz h25
  refine zK_of (ls0 := [zr 58, (3, 0)]) (by decide) rfl (by decide) rfl (Nat.le_of_ble_eq_true rfl) ?_
  have hk4 := hz.2.2.2.2.1
  refine zV_iconst (pc := 0) dX10_atom5_0 ?_
  refine zV_istore_n (pc := 1) (i := 1) dX10_atom5_1 rfl rfl ?_
  try dsimp only [List.set_cons_succ, List.set_cons_zero]
  refine zV_aload_n (pc := 2) (i := 0) dX10_atom5_2 rfl rfl ?_
  refine zV_bipush (pc := 3) dX10_atom5_3 (by decide) ?_
  refine zV_ivp (pc := 5) (ci := 10) dX10_atom5_5 klX10_201 mX10_isSign ⟨by decide, rfl⟩ rfl ⟨Nat.zero_le _, Nat.zero_le _⟩ (kX10_isSign hd hz (by decide)) (zOb_of rfl) rfl rfl (Nat.le_of_ble_eq_true rfl) ?_
  refine zV_if_eqb (pc := 8) (tgt := 19) dX10_atom5_8 (by decide) (fun c_8 => ?_) (fun c_8 => ?_)
  · refine zV_aload_n (pc := 19) (i := 0) dX10_atom5_19 rfl rfl ?_
    refine zV_bipush (pc := 20) dX10_atom5_20 (by decide) ?_
    refine zV_ivp (pc := 22) (ci := 10) dX10_atom5_22 klX10_201 mX10_isSign ⟨by decide, rfl⟩ rfl ⟨Nat.zero_le _, Nat.zero_le _⟩ (kX10_isSign hd hz (by decide)) (zOb_of rfl) rfl rfl (Nat.le_of_ble_eq_true rfl) ?_
    refine zV_if_eqb (pc := 25) (tgt := 36) dX10_atom5_25 (by decide) (fun c_25 => ?_) (fun c_25 => ?_)
    · refine zV_aload_n (pc := 36) (i := 0) dX10_atom5_36 rfl rfl ?_
      refine zV_get (pc := 37) (j := 26) dX10_atom5_37 flX10_160 (zOb_of rfl) rfl hd.1 ?_
      refine zV_if_neb (pc := 40) (tgt := 64) dX10_atom5_40 (by decide) (fun c_40 => ?_) (fun c_40 => ?_)
      · refine zV_aload_n (pc := 64) (i := 0) dX10_atom5_64 rfl rfl ?_
        refine zV_get (pc := 65) (j := 26) dX10_atom5_65 flX10_160 (zOb_of rfl) rfl hd.1 ?_
        refine zV_if_neb (pc := 68) (tgt := 98) dX10_atom5_68 (by decide) (fun c_68 => ?_) (fun c_68 => ?_)
        · have e : zOne0 tp z s = ([], zfl s) := by
            have n2 : ¬ s.tk = 2 := by
              intro y
              have y3 : s.ft = -1 := hz.live ⟨by omega, by omega⟩
              have ht := (hd.2.2 y3).2
              have hw := zwt_r (tp := tp) (s := s.sa) (e := s.at) 12 (Nat.le_refl _)
              unfold zMt at ht
              first
                | omega
                | exact absurd y3 (by assumption)
            have n3 : ¬ s.tk = 3 := by
              intro y
              have y3 : s.ft = -1 := hz.live ⟨by omega, by omega⟩
              have ht := (hd.2.2 y3).2
              have hw := zwt_r (tp := tp) (s := s.sa) (e := s.at) 12 (Nat.le_refl _)
              unfold zMt at ht
              first
                | omega
                | exact absurd y3 (by assumption)
            exact (if_neg n2).trans (if_neg n3)
          refine zV_aload_n (pc := 98) (i := 0) dX10_atom5_98 rfl rfl ?_
          refine zV_ivn (pc := 99) (ci := 10) dX10_atom5_99 klX10_173 mX10_fail ⟨by decide, rfl⟩ rfl ⟨Nat.zero_le _, Nat.zero_le _⟩ (kX10_fail hd hz) (zOb_of rfl) rfl rfl (Nat.le_of_ble_eq_true rfl) (fun M2 q2 => ?_)
          refine zV_iload_n (pc := 102) (i := 1) dX10_atom5_102 rfl rfl ?_
          refine zV_iret (pc := 103) dX10_atom5_103 trivial ⟨Nat.zero_le _, Nat.zero_le _⟩ ?_
          rw [e]
          first
            | exact ⟨rfl, q2.1, (q2.2 _ _ (by unfold zNF; omega)).trans h25, q2.2.mono (fun a j y => zNF_G y), s.vl, rfl, by omega, fun _ => (zvl_n hv2.1).up (by decide)⟩
            | exact ⟨rfl, q2.1, (q2.2 _ _ (by unfold zNH; omega)).trans h25, q2.2.mono (fun a j y => zNH_G y), 0, rfl, by decide, fun y => absurd y (zfl_ft hz)⟩
        · refine zV_aload_n (pc := 71) (i := 0) dX10_atom5_71 rfl rfl ?_
          refine zV_get (pc := 72) (j := 22) dX10_atom5_72 flX10_143 (zOb_of rfl) rfl rfl ?_
          refine zV_iconst (pc := 75) dX10_atom5_75 ?_
          refine zV_icmp_ne (pc := 76) (tgt := 98) dX10_atom5_76 (by decide) (by omega) (fun c_76 => ?_) (fun c_76 => ?_)
          · have e : zOne0 tp z s = ([], zfl s) := by
              have n2 : ¬ s.tk = 2 := by
                intro y
                have y3 : s.ft = -1 := hz.live ⟨by omega, by omega⟩
                have ht := (hd.2.2 y3).2
                have hw := zwt_r (tp := tp) (s := s.sa) (e := s.at) 12 (Nat.le_refl _)
                unfold zMt at ht
                first
                  | omega
                  | exact absurd y3 (by assumption)
              have n3 : ¬ s.tk = 3 := by
                intro y
                have y3 : s.ft = -1 := hz.live ⟨by omega, by omega⟩
                have ht := (hd.2.2 y3).2
                have hw := zwt_r (tp := tp) (s := s.sa) (e := s.at) 12 (Nat.le_refl _)
                unfold zMt at ht
                first
                  | omega
                  | exact absurd y3 (by assumption)
              exact (if_neg n2).trans (if_neg n3)
            refine zV_aload_n (pc := 98) (i := 0) dX10_atom5_98 rfl rfl ?_
            refine zV_ivn (pc := 99) (ci := 10) dX10_atom5_99 klX10_173 mX10_fail ⟨by decide, rfl⟩ rfl ⟨Nat.zero_le _, Nat.zero_le _⟩ (kX10_fail hd hz) (zOb_of rfl) rfl rfl (Nat.le_of_ble_eq_true rfl) (fun M2 q2 => ?_)
            refine zV_iload_n (pc := 102) (i := 1) dX10_atom5_102 rfl rfl ?_
            refine zV_iret (pc := 103) dX10_atom5_103 trivial ⟨Nat.zero_le _, Nat.zero_le _⟩ ?_
            rw [e]
            first
              | exact ⟨rfl, q2.1, (q2.2 _ _ (by unfold zNF; omega)).trans h25, q2.2.mono (fun a j y => zNF_G y), s.vl, rfl, by omega, fun _ => (zvl_n hv2.1).up (by decide)⟩
              | exact ⟨rfl, q2.1, (q2.2 _ _ (by unfold zNH; omega)).trans h25, q2.2.mono (fun a j y => zNH_G y), 0, rfl, by decide, fun y => absurd y (zfl_ft hz)⟩
          · refine zV_aload_n (pc := 79) (i := 0) dX10_atom5_79 rfl rfl ?_
            refine zV_ivs (pc := 80) (ci := 10) dX10_atom5_80 klX10_208 mX10_name ⟨by decide, rfl⟩ rfl ⟨Nat.zero_le _, Nat.zero_le _⟩ (kX10_name hB hT hd hz) (zOb_of rfl) rfl rfl (Nat.le_of_ble_eq_true rfl) ?_
            rintro w9 N9 M1 ⟨rfl, ⟨n3, rfl, rfl⟩ | ⟨n3, rfl, d1, f1⟩⟩
            · have hlv : zlive s := ⟨by omega, by omega⟩
              have ef := hz.live hlv
              have e : zOne0 tp z s = ([-1 - s.vl], zadv tp z s) := (if_neg (by omega)).trans (if_pos n3)
              refine zV_istore_n (pc := 83) (i := 1) dX10_atom5_83 rfl rfl ?_
              try dsimp only [List.set_cons_succ, List.set_cons_zero]
              refine zV_aload_n (pc := 84) (i := 0) dX10_atom5_84 rfl rfl ?_
              refine zV_get (pc := 85) (j := 26) dX10_atom5_85 flX10_160 (zOb_of rfl) rfl (hd.ok ef) ?_
              refine zV_if_ne (pc := 88) (tgt := 102) dX10_atom5_88 (by decide) (by omega) (fun c_88 => absurd c_88 (by decide)) (fun c_88 => ?_)
              refine zV_aload_n (pc := 91) (i := 0) dX10_atom5_91 rfl rfl ?_
              refine zV_ivn (pc := 92) (ci := 10) dX10_atom5_92 klX10_176 mX10_next ⟨by decide, rfl⟩ rfl ⟨Nat.zero_le _, Nat.zero_le _⟩ (kX10_next hB.1 hT (s := s) (by have := hz.1; omega) (hd.here hz hlv) ef (hd.ok ef)) (zOb_of rfl) rfl rfl (Nat.le_of_ble_eq_true rfl) (fun M2 q2 => ?_)
              refine zV_goto (pc := 95) (tgt := 102) dX10_atom5_95 (by decide) ?_
              refine zV_iload_n (pc := 102) (i := 1) dX10_atom5_102 rfl rfl ?_
              refine zV_iret (pc := 103) dX10_atom5_103 trivial ⟨Nat.zero_le _, Nat.zero_le _⟩ ?_
              rw [e]
              exact ⟨rfl, q2.1, (q2.2 _ _ (by unfold zNF; omega)).trans h25, q2.2.mono (fun a j y => zNF_G y), nm s.vl, rfl, hN _ (by have := hz.2.2.1 n3; omega) (by have := hz.2.2.1 n3; omega), fun _ => (zvl_m (hz.2.2.1 n3)).up (by decide)⟩
            · have e : zOne0 tp z s = ([], zfl s) := (if_neg (by omega)).trans (if_neg n3)
              refine zV_istore_n (pc := 83) (i := 1) dX10_atom5_83 rfl rfl ?_
              try dsimp only [List.set_cons_succ, List.set_cons_zero]
              refine zV_aload_n (pc := 84) (i := 0) dX10_atom5_84 rfl rfl ?_
              refine zV_get (pc := 85) (j := 26) dX10_atom5_85 flX10_160 (zOb_of rfl) rfl (d1.bad (zfl_ft hz)) ?_
              refine zV_if_ne (pc := 88) (tgt := 102) dX10_atom5_88 (by decide) (by decide) (fun _ => ?_) (fun y => absurd y (by decide))
              refine zV_iload_n (pc := 102) (i := 1) dX10_atom5_102 rfl rfl ?_
              refine zV_iret (pc := 103) dX10_atom5_103 trivial ⟨Nat.zero_le _, Nat.zero_le _⟩ ?_
              rw [e]
              exact ⟨rfl, d1, (f1 _ _ (by unfold zNH; omega)).trans h25, f1.mono (fun a j y => zNH_G y), 0, rfl, by decide, fun y => absurd y (zfl_ft hz)⟩
      · have ef : s.ft = -1 := by
          by_cases y : s.ft = -1
          · exact y
          · exact absurd y c_40
        have ht := (hd.2.2 ef).2
        have hw := zwt_r (tp := tp) (s := s.sa) (e := s.at) 12 (Nat.le_refl _)
        unfold zMt at ht
        have h22 : 0 ≤ M 58 22 ∧ M 58 22 ≤ 4 := by omega
        refine zV_aload_n (pc := 43) (i := 0) dX10_atom5_43 rfl rfl ?_
        refine zV_get (pc := 44) (j := 22) dX10_atom5_44 flX10_143 (zOb_of rfl) rfl rfl ?_
        refine zV_iconst (pc := 47) dX10_atom5_47 ?_
        refine zV_icmp_ne (pc := 48) (tgt := 64) dX10_atom5_48 (by decide) (by omega) (fun c_48 => ?_) (fun c_48 => ?_)
        · refine zV_aload_n (pc := 64) (i := 0) dX10_atom5_64 rfl rfl ?_
          refine zV_get (pc := 65) (j := 26) dX10_atom5_65 flX10_160 (zOb_of rfl) rfl hd.1 ?_
          refine zV_if_neb (pc := 68) (tgt := 98) dX10_atom5_68 (by decide) (fun c_68 => ?_) (fun c_68 => ?_)
          · have e : zOne0 tp z s = ([], zfl s) := by
              have n2 : ¬ s.tk = 2 := by
                intro y
                have y3 : s.ft = -1 := hz.live ⟨by omega, by omega⟩
                have ht := (hd.2.2 y3).2
                have hw := zwt_r (tp := tp) (s := s.sa) (e := s.at) 12 (Nat.le_refl _)
                unfold zMt at ht
                first
                  | omega
                  | exact absurd y3 (by assumption)
              have n3 : ¬ s.tk = 3 := by
                intro y
                have y3 : s.ft = -1 := hz.live ⟨by omega, by omega⟩
                have ht := (hd.2.2 y3).2
                have hw := zwt_r (tp := tp) (s := s.sa) (e := s.at) 12 (Nat.le_refl _)
                unfold zMt at ht
                first
                  | omega
                  | exact absurd y3 (by assumption)
              exact (if_neg n2).trans (if_neg n3)
            refine zV_aload_n (pc := 98) (i := 0) dX10_atom5_98 rfl rfl ?_
            refine zV_ivn (pc := 99) (ci := 10) dX10_atom5_99 klX10_173 mX10_fail ⟨by decide, rfl⟩ rfl ⟨Nat.zero_le _, Nat.zero_le _⟩ (kX10_fail hd hz) (zOb_of rfl) rfl rfl (Nat.le_of_ble_eq_true rfl) (fun M2 q2 => ?_)
            refine zV_iload_n (pc := 102) (i := 1) dX10_atom5_102 rfl rfl ?_
            refine zV_iret (pc := 103) dX10_atom5_103 trivial ⟨Nat.zero_le _, Nat.zero_le _⟩ ?_
            rw [e]
            first
              | exact ⟨rfl, q2.1, (q2.2 _ _ (by unfold zNF; omega)).trans h25, q2.2.mono (fun a j y => zNF_G y), s.vl, rfl, by omega, fun _ => (zvl_n hv2.1).up (by decide)⟩
              | exact ⟨rfl, q2.1, (q2.2 _ _ (by unfold zNH; omega)).trans h25, q2.2.mono (fun a j y => zNH_G y), 0, rfl, by decide, fun y => absurd y (zfl_ft hz)⟩
          · refine zV_aload_n (pc := 71) (i := 0) dX10_atom5_71 rfl rfl ?_
            refine zV_get (pc := 72) (j := 22) dX10_atom5_72 flX10_143 (zOb_of rfl) rfl rfl ?_
            refine zV_iconst (pc := 75) dX10_atom5_75 ?_
            refine zV_icmp_ne (pc := 76) (tgt := 98) dX10_atom5_76 (by decide) (by omega) (fun c_76 => ?_) (fun c_76 => ?_)
            · have e : zOne0 tp z s = ([], zfl s) := by
                have n2 : ¬ s.tk = 2 := by
                  intro y
                  have y3 : s.ft = -1 := hz.live ⟨by omega, by omega⟩
                  have ht := (hd.2.2 y3).2
                  have hw := zwt_r (tp := tp) (s := s.sa) (e := s.at) 12 (Nat.le_refl _)
                  unfold zMt at ht
                  first
                    | omega
                    | exact absurd y3 (by assumption)
                have n3 : ¬ s.tk = 3 := by
                  intro y
                  have y3 : s.ft = -1 := hz.live ⟨by omega, by omega⟩
                  have ht := (hd.2.2 y3).2
                  have hw := zwt_r (tp := tp) (s := s.sa) (e := s.at) 12 (Nat.le_refl _)
                  unfold zMt at ht
                  first
                    | omega
                    | exact absurd y3 (by assumption)
                exact (if_neg n2).trans (if_neg n3)
              refine zV_aload_n (pc := 98) (i := 0) dX10_atom5_98 rfl rfl ?_
              refine zV_ivn (pc := 99) (ci := 10) dX10_atom5_99 klX10_173 mX10_fail ⟨by decide, rfl⟩ rfl ⟨Nat.zero_le _, Nat.zero_le _⟩ (kX10_fail hd hz) (zOb_of rfl) rfl rfl (Nat.le_of_ble_eq_true rfl) (fun M2 q2 => ?_)
              refine zV_iload_n (pc := 102) (i := 1) dX10_atom5_102 rfl rfl ?_
              refine zV_iret (pc := 103) dX10_atom5_103 trivial ⟨Nat.zero_le _, Nat.zero_le _⟩ ?_
              rw [e]
              first
                | exact ⟨rfl, q2.1, (q2.2 _ _ (by unfold zNF; omega)).trans h25, q2.2.mono (fun a j y => zNF_G y), s.vl, rfl, by omega, fun _ => (zvl_n hv2.1).up (by decide)⟩
                | exact ⟨rfl, q2.1, (q2.2 _ _ (by unfold zNH; omega)).trans h25, q2.2.mono (fun a j y => zNH_G y), 0, rfl, by decide, fun y => absurd y (zfl_ft hz)⟩
            · refine zV_aload_n (pc := 79) (i := 0) dX10_atom5_79 rfl rfl ?_
              refine zV_ivs (pc := 80) (ci := 10) dX10_atom5_80 klX10_208 mX10_name ⟨by decide, rfl⟩ rfl ⟨Nat.zero_le _, Nat.zero_le _⟩ (kX10_name hB hT hd hz) (zOb_of rfl) rfl rfl (Nat.le_of_ble_eq_true rfl) ?_
              rintro w9 N9 M1 ⟨rfl, ⟨n3, rfl, rfl⟩ | ⟨n3, rfl, d1, f1⟩⟩
              · have hlv : zlive s := ⟨by omega, by omega⟩
                have ef := hz.live hlv
                have e : zOne0 tp z s = ([-1 - s.vl], zadv tp z s) := (if_neg (by omega)).trans (if_pos n3)
                refine zV_istore_n (pc := 83) (i := 1) dX10_atom5_83 rfl rfl ?_
                try dsimp only [List.set_cons_succ, List.set_cons_zero]
                refine zV_aload_n (pc := 84) (i := 0) dX10_atom5_84 rfl rfl ?_
                refine zV_get (pc := 85) (j := 26) dX10_atom5_85 flX10_160 (zOb_of rfl) rfl (hd.ok ef) ?_
                refine zV_if_ne (pc := 88) (tgt := 102) dX10_atom5_88 (by decide) (by omega) (fun c_88 => absurd c_88 (by decide)) (fun c_88 => ?_)
                refine zV_aload_n (pc := 91) (i := 0) dX10_atom5_91 rfl rfl ?_
                refine zV_ivn (pc := 92) (ci := 10) dX10_atom5_92 klX10_176 mX10_next ⟨by decide, rfl⟩ rfl ⟨Nat.zero_le _, Nat.zero_le _⟩ (kX10_next hB.1 hT (s := s) (by have := hz.1; omega) (hd.here hz hlv) ef (hd.ok ef)) (zOb_of rfl) rfl rfl (Nat.le_of_ble_eq_true rfl) (fun M2 q2 => ?_)
                refine zV_goto (pc := 95) (tgt := 102) dX10_atom5_95 (by decide) ?_
                refine zV_iload_n (pc := 102) (i := 1) dX10_atom5_102 rfl rfl ?_
                refine zV_iret (pc := 103) dX10_atom5_103 trivial ⟨Nat.zero_le _, Nat.zero_le _⟩ ?_
                rw [e]
                exact ⟨rfl, q2.1, (q2.2 _ _ (by unfold zNF; omega)).trans h25, q2.2.mono (fun a j y => zNF_G y), nm s.vl, rfl, hN _ (by have := hz.2.2.1 n3; omega) (by have := hz.2.2.1 n3; omega), fun _ => (zvl_m (hz.2.2.1 n3)).up (by decide)⟩
              · have e : zOne0 tp z s = ([], zfl s) := (if_neg (by omega)).trans (if_neg n3)
                refine zV_istore_n (pc := 83) (i := 1) dX10_atom5_83 rfl rfl ?_
                try dsimp only [List.set_cons_succ, List.set_cons_zero]
                refine zV_aload_n (pc := 84) (i := 0) dX10_atom5_84 rfl rfl ?_
                refine zV_get (pc := 85) (j := 26) dX10_atom5_85 flX10_160 (zOb_of rfl) rfl (d1.bad (zfl_ft hz)) ?_
                refine zV_if_ne (pc := 88) (tgt := 102) dX10_atom5_88 (by decide) (by decide) (fun _ => ?_) (fun y => absurd y (by decide))
                refine zV_iload_n (pc := 102) (i := 1) dX10_atom5_102 rfl rfl ?_
                refine zV_iret (pc := 103) dX10_atom5_103 trivial ⟨Nat.zero_le _, Nat.zero_le _⟩ ?_
                rw [e]
                exact ⟨rfl, d1, (f1 _ _ (by unfold zNH; omega)).trans h25, f1.mono (fun a j y => zNH_G y), 0, rfl, by decide, fun y => absurd y (zfl_ft hz)⟩
        · have w24 : M 58 24 = s.vl := by omega
          have tk2 : s.tk = 2 := by omega
          have hlv : zlive s := ⟨by omega, by omega⟩
          have hv2 := hz.2.1 tk2
          have e : zOne0 tp z s = ([s.vl], zadv tp z s) := if_pos tk2
          refine zV_aload_n (pc := 51) (i := 0) dX10_atom5_51 rfl rfl ?_
          refine zV_get (pc := 52) (j := 24) dX10_atom5_52 flX10_154 (zOb_of rfl) rfl w24 ?_
          refine zV_l2i (pc := 55) dX10_atom5_55 (by omega) ?_
          refine zV_istore_n (pc := 56) (i := 1) dX10_atom5_56 rfl rfl ?_
          try dsimp only [List.set_cons_succ, List.set_cons_zero]
          refine zV_aload_n (pc := 57) (i := 0) dX10_atom5_57 rfl rfl ?_
          refine zV_ivn (pc := 58) (ci := 10) dX10_atom5_58 klX10_176 mX10_next ⟨by decide, rfl⟩ rfl ⟨Nat.zero_le _, Nat.zero_le _⟩ (kX10_next hB.1 hT (s := s) (by have := hz.1; omega) (hd.here hz hlv) ef (hd.ok ef)) (zOb_of rfl) rfl rfl (Nat.le_of_ble_eq_true rfl) (fun M2 q2 => ?_)
          refine zV_goto (pc := 61) (tgt := 102) dX10_atom5_61 (by decide) ?_
          refine zV_iload_n (pc := 102) (i := 1) dX10_atom5_102 rfl rfl ?_
          refine zV_iret (pc := 103) dX10_atom5_103 trivial ⟨Nat.zero_le _, Nat.zero_le _⟩ ?_
          rw [e]
          first
            | exact ⟨rfl, q2.1, (q2.2 _ _ (by unfold zNF; omega)).trans h25, q2.2.mono (fun a j y => zNF_G y), s.vl, rfl, by omega, fun _ => (zvl_n hv2.1).up (by decide)⟩
            | exact ⟨rfl, q2.1, (q2.2 _ _ (by unfold zNH; omega)).trans h25, q2.2.mono (fun a j y => zNH_G y), 0, rfl, by decide, fun y => absurd y (zfl_ft hz)⟩
    · refine zV_aload_n (pc := 28) (i := 0) dX10_atom5_28 rfl rfl ?_
      refine zV_ivs (pc := 29) (ci := 10) dX10_atom5_29 klX10_204 mX10_opens ⟨by decide, rfl⟩ rfl ⟨Nat.zero_le _, Nat.zero_le _⟩ (kX10_opens hB.1 hT hd hz h25 (by decide) ⟨by omega, by omega⟩) (zOb_of rfl) rfl rfl (Nat.le_of_ble_eq_true rfl) ?_
      rintro w9 N9 M1 ⟨rfl, ⟨o9, rfl, d1, f1⟩ | ⟨o9, rfl, d1, o1, f1⟩⟩
      · have e : zOne0 tp z s = ([], zfl s) := (if_neg (by omega)).trans (if_neg (by omega))
        refine zV_pop (pc := 32) dX10_atom5_32 (by simp) ?_
        refine zV_goto (pc := 33) (tgt := 102) dX10_atom5_33 (by decide) ?_
        refine zV_iload_n (pc := 102) (i := 1) dX10_atom5_102 rfl rfl ?_
        refine zV_iret (pc := 103) dX10_atom5_103 trivial ⟨Nat.zero_le _, Nat.zero_le _⟩ ?_
        rw [e]
        exact ⟨rfl, d1, (f1 _ _ (by unfold zNH; omega)).trans h25, f1.mono (fun a j y => zNH_G y), 0, rfl, by decide, fun y => absurd y (zfl_ft hz)⟩
      · exact absurd o9 (by decide)
  · refine zV_aload_n (pc := 11) (i := 0) dX10_atom5_11 rfl rfl ?_
    refine zV_ivs (pc := 12) (ci := 10) dX10_atom5_12 klX10_204 mX10_opens ⟨by decide, rfl⟩ rfl ⟨Nat.zero_le _, Nat.zero_le _⟩ (kX10_opens hB.1 hT hd hz h25 (by decide) ⟨by omega, by omega⟩) (zOb_of rfl) rfl rfl (Nat.le_of_ble_eq_true rfl) ?_
    rintro w9 N9 M1 ⟨rfl, ⟨o9, rfl, d1, f1⟩ | ⟨o9, rfl, d1, o1, f1⟩⟩
    · have e : zOne0 tp z s = ([], zfl s) := (if_neg (by omega)).trans (if_neg (by omega))
      refine zV_pop (pc := 15) dX10_atom5_15 (by simp) ?_
      refine zV_goto (pc := 16) (tgt := 102) dX10_atom5_16 (by decide) ?_
      refine zV_iload_n (pc := 102) (i := 1) dX10_atom5_102 rfl rfl ?_
      refine zV_iret (pc := 103) dX10_atom5_103 trivial ⟨Nat.zero_le _, Nat.zero_le _⟩ ?_
      rw [e]
      exact ⟨rfl, d1, (f1 _ _ (by unfold zNH; omega)).trans h25, f1.mono (fun a j y => zNH_G y), 0, rfl, by decide, fun y => absurd y (zfl_ft hz)⟩
    · exact absurd o9 (by decide)
set_option maxRecDepth 20000 in
set_option maxHeartbeats 2000000 in
theorem kX10_term5L {f z : Int} {tp nm : Int → Int} (hT : ztp tp z) (hN : ∀ j : Int, 0 ≤ j → j ≤ 5 → -2147483648 ≤ nm j ∧ nm j ≤ 2147483647) {fn : zσ → zρ} (hf : zgd z fn) (hK1 : zMf g yX10_atom5 xX10_atom5 f tp z nm 5 1 fn) {V : zρ} {M0 : zM} : ∀ (k : Nat) (v : Int) (x : zρ) (M1 : zM), (z - x.2.at < k ∨ ¬ (fun t : Int => t = 42) x.2.tk) → zMB M1 f tp z nm → zMd tp M1 x.2 → zσo z x.2 → M1 58 25 = 5 → zFr zNG M0 M1 → (-2147483648 ≤ v ∧ v ≤ 2147483647) → (x.2.ft = -1 → zvl nm (1 + 1) x.1 v) → zlo tp z (fun t => t = 42) (fun t => (-18 : Int)) fn k x = V → zV g xX10_term5 (zMQ tp 5 (1 + 1) nm V M0) 5 [zr 58, zi v] [] 75 M1 0 0 := by
  intro k
  induction k with
  | zero =>
    intro v x M1 h0 h1 h2 h3 h4 h5 h6 h7 h8
    have hlvT : (fun t : Int => t = 42) x.2.tk → zlive x.2 := fun q => ⟨by omega, by omega⟩
    refine zV_aload_n (pc := 5) (i := 0) dX10_term5_5 rfl rfl ?_
    refine zV_bipush (pc := 6) dX10_term5_6 (by decide) ?_
    refine zV_ivp (pc := 8) (ci := 10) dX10_term5_8 klX10_201 mX10_isSign ⟨by decide, rfl⟩ rfl ⟨Nat.zero_le _, Nat.zero_le _⟩ (kX10_isSign h2 h3 (by decide)) (zOb_of rfl) rfl rfl (Nat.le_of_ble_eq_true rfl) ?_
    refine zV_if_eqb (pc := 11) (tgt := 28) dX10_term5_11 (by decide) (fun c_11 => ?_) (fun c_11 => ?_)
    · refine zV_iload_n (pc := 28) (i := 1) dX10_term5_28 rfl rfl ?_
      refine zV_iret (pc := 29) dX10_term5_29 trivial ⟨Nat.zero_le _, Nat.zero_le _⟩ ?_
      have e8 := (zlo_f (tp := tp) (z := z) (q := fun t => t = 42) (stp := fun t => (-18 : Int)) (f := fn) (k := 0) (x := x) c_11).symm.trans h8
      rw [← e8]
      exact ⟨rfl, h2, h4, h5, v, rfl, h6, h7⟩
    · exfalso
      exact h0.elim (fun y => by have := h3.1; have y : z - x.2.at < 0 := y; omega) (fun y => y c_11)
  | succ k ih =>
    intro v x M1 h0 h1 h2 h3 h4 h5 h6 h7 h8
    have hlvT : (fun t : Int => t = 42) x.2.tk → zlive x.2 := fun q => ⟨by omega, by omega⟩
    refine zV_aload_n (pc := 5) (i := 0) dX10_term5_5 rfl rfl ?_
    refine zV_bipush (pc := 6) dX10_term5_6 (by decide) ?_
    refine zV_ivp (pc := 8) (ci := 10) dX10_term5_8 klX10_201 mX10_isSign ⟨by decide, rfl⟩ rfl ⟨Nat.zero_le _, Nat.zero_le _⟩ (kX10_isSign h2 h3 (by decide)) (zOb_of rfl) rfl rfl (Nat.le_of_ble_eq_true rfl) ?_
    refine zV_if_eqb (pc := 11) (tgt := 28) dX10_term5_11 (by decide) (fun c_11 => ?_) (fun c_11 => ?_)
    · refine zV_iload_n (pc := 28) (i := 1) dX10_term5_28 rfl rfl ?_
      refine zV_iret (pc := 29) dX10_term5_29 trivial ⟨Nat.zero_le _, Nat.zero_le _⟩ ?_
      have e8 := (zlo_f (tp := tp) (z := z) (q := fun t => t = 42) (stp := fun t => (-18 : Int)) (f := fn) (k := k + 1) (x := x) c_11).symm.trans h8
      rw [← e8]
      exact ⟨rfl, h2, h4, h5, v, rfl, h6, h7⟩
    · have hlv := hlvT c_11
      refine zV_aload_n (pc := 14) (i := 0) dX10_term5_14 rfl rfl ?_
      refine zV_ivn (pc := 15) (ci := 10) dX10_term5_15 klX10_176 mX10_next ⟨by decide, rfl⟩ rfl ⟨Nat.zero_le _, Nat.zero_le _⟩ (kX10_next h1.1 hT (s := x.2) (by have := h3.1; omega) (h2.here h3 hlv) (h3.live hlv) (h2.ok (h3.live hlv))) (zOb_of rfl) rfl rfl (Nat.le_of_ble_eq_true rfl) (fun M2 q2 => ?_)
      have f2 : zFr zNG M1 M2 := q2.2.mono (fun a j y => zNF_G y)
      have hB2 := h1.fr f2
      have ga := (zgx_ad hT h3 hlv).1
      have gf := hf (zadv tp z x.2) ga.1
      refine zV_iload_n (pc := 18) (i := 1) dX10_term5_18 rfl rfl ?_
      refine zV_aload_n (pc := 19) (i := 0) dX10_term5_19 rfl rfl ?_
      refine zV_ivs (pc := 20) (ci := 10) dX10_term5_20 klX10_212 mX10_atom5 ⟨by decide, rfl⟩ rfl ⟨Nat.zero_le _, Nat.zero_le _⟩ (hK1 M2 (zadv tp z x.2) hB2 q2.1 ga.1 ((q2.2 _ _ (by unfold zNF; omega)).trans h4)) (zOb_of rfl) rfl rfl (Nat.le_of_ble_eq_true rfl) ?_
      rintro w9 N9 M3 ⟨rfl, d3, o3, f3, u, rfl, r3, v3⟩
      have e8 := (zlo_t (q := fun t => t = 42) (stp := fun t => (-18 : Int)) (f := fn) (k := k) c_11).symm.trans h8
      refine zV_imul (pc := 23) dX10_term5_23 ?_
      refine zV_zw ?_
      refine zV_istore_n (pc := 24) (i := 1) dX10_term5_24 rfl rfl ?_
      try dsimp only [List.set_cons_succ, List.set_cons_zero]
      refine zV_goto (pc := 25) (tgt := 5) dX10_term5_25 (by decide) ?_
      have hz9 : (fn (zadv tp z x.2)).2.ft = -1 → x.2.ft = -1 := fun _ => h3.live hlv
      have hms : z - (fn (zadv tp z x.2)).2.at < k ∨ ¬ (fun t : Int => t = 42) (fn (zadv tp z x.2)).2.tk := by
        by_cases q : (fun t : Int => t = 42) (fn (zadv tp z x.2)).2.tk
        · have l := gf.2.1 ⟨by omega, by omega⟩
          have l2 := ga.2.2.1
          exact Or.inl (by show z - (fn (zadv tp z x.2)).2.at < k; omega)
        · exact Or.inr q
      first
        | (have ev : zw (v * u) = zopr (-18) v u := (zopr_18 (by decide)).symm
           have eo : (fun t : Int => (-18 : Int)) x.2.tk = -18 := by first | rfl | exact if_pos (by omega) | exact if_neg (by omega)
           have hv9 : (fn (zadv tp z x.2)).2.ft = -1 → zvl nm (1 + 1) (x.1 ++ (fn (zadv tp z x.2)).1 ++ [(fun t : Int => (-18 : Int)) x.2.tk]) (zopr (-18) v u) := fun y => by rw [eo]; exact zvl_2u (h7 (hz9 y)) (v3 y) (by decide)
           rw [← ev] at hv9
           refine ih _ (x.1 ++ (fn (zadv tp z x.2)).1 ++ [(fun t : Int => (-18 : Int)) x.2.tk], (fn (zadv tp z x.2)).2) M3 hms (hB2.fr f3) d3 gf.1.1 o3 ((h5.tr f2).tr f3) ?_ hv9 e8
           rw [ev]
           exact zopr_r _ _ _)
set_option maxRecDepth 20000 in
set_option maxHeartbeats 2000000 in
theorem kX10_term5 {f z : Int} {tp nm : Int → Int} (hT : ztp tp z) (hN : ∀ j : Int, 0 ≤ j → j ≤ 5 → -2147483648 ≤ nm j ∧ nm j ≤ 2147483647) {fn : zσ → zρ} (hf : zgd z fn) (hK1 : zMf g yX10_atom5 xX10_atom5 f tp z nm 5 1 fn) : zMf g yX10_term5 xX10_term5 f tp z nm 5 (1 + 1) (zTerm tp z fn) := by
  intro M s hB hd hz h25
  refine zK_of (ls0 := [zr 58, (3, 0)]) (by decide) rfl (by decide) rfl (Nat.le_of_ble_eq_true rfl) ?_
  refine zV_aload_n (pc := 0) (i := 0) dX10_term5_0 rfl rfl ?_
  refine zV_ivs (pc := 1) (ci := 10) dX10_term5_1 klX10_212 mX10_atom5 ⟨by decide, rfl⟩ rfl ⟨Nat.zero_le _, Nat.zero_le _⟩ (hK1 M s hB hd hz h25) (zOb_of rfl) rfl rfl (Nat.le_of_ble_eq_true rfl) ?_
  rintro w9 N9 M1 ⟨rfl, d1, o1, f1, v, rfl, r1, v1⟩
  refine zV_istore_n (pc := 4) (i := 1) dX10_term5_4 rfl rfl ?_
  try dsimp only [List.set_cons_succ, List.set_cons_zero]
  have gf := hf s hz
  exact kX10_term5L hT hN hf hK1 160 v (fn s) M1 (by
    by_cases q : (fun t : Int => t = 42) (fn s).2.tk
    · have l := gf.2.1 ⟨by omega, by omega⟩
      have l2 := hz.1
      exact Or.inl (by show z - (fn s).2.at < 160; have := hT.1; omega)
    · exact Or.inr q) (hB.fr f1) d1 gf.1.1 o1 f1 r1 (fun y => (v1 y).up (Nat.le_succ _)) rfl
set_option maxRecDepth 20000 in
set_option maxHeartbeats 2000000 in
theorem kX10_added5L {f z : Int} {tp nm : Int → Int} (hT : ztp tp z) (hN : ∀ j : Int, 0 ≤ j → j ≤ 5 → -2147483648 ≤ nm j ∧ nm j ≤ 2147483647) {fn : zσ → zρ} (hf : zgd z fn) (hK1 : zMf g yX10_term5 xX10_term5 f tp z nm 5 2 fn) {V : zρ} {M0 : zM} : ∀ (k : Nat) (v : Int) (x : zρ) (M1 : zM) (w2 : zv) (w3 : zv), (z - x.2.at < k ∨ ¬ (fun t : Int => t = 43 ∨ t = 45) x.2.tk) → zMB M1 f tp z nm → zMd tp M1 x.2 → zσo z x.2 → M1 58 25 = 5 → zFr zNG M0 M1 → (-2147483648 ≤ v ∧ v ≤ 2147483647) → (x.2.ft = -1 → zvl nm (2 + 1) x.1 v) → zlo tp z (fun t => t = 43 ∨ t = 45) (fun t => if t = 43 then (-16 : Int) else -17) fn k x = V → zV g xX10_added5 (zMQ tp 5 (2 + 1) nm V M0) 5 [zr 58, zi v, w2, w3] [] 75 M1 0 0 := by
  intro k
  induction k with
  | zero =>
    intro v x M1 w2 w3 h0 h1 h2 h3 h4 h5 h6 h7 h8
    have hlvT : (fun t : Int => t = 43 ∨ t = 45) x.2.tk → zlive x.2 := fun q => ⟨by omega, by omega⟩
    refine zV_aload_n (pc := 5) (i := 0) dX10_added5_5 rfl rfl ?_
    refine zV_bipush (pc := 6) dX10_added5_6 (by decide) ?_
    refine zV_ivp (pc := 8) (ci := 10) dX10_added5_8 klX10_201 mX10_isSign ⟨by decide, rfl⟩ rfl ⟨Nat.zero_le _, Nat.zero_le _⟩ (kX10_isSign h2 h3 (by decide)) (zOb_of rfl) rfl rfl (Nat.le_of_ble_eq_true rfl) ?_
    refine zV_if_neb (pc := 11) (tgt := 23) dX10_added5_11 (by decide) (fun c_11 => ?_) (fun c_11 => ?_)
    · exfalso
      exact h0.elim (fun y => by have := h3.1; have y : z - x.2.at < 0 := y; omega) (fun y => y (by first | exact Or.inl c_11 | exact Or.inr c_20))
    · refine zV_aload_n (pc := 14) (i := 0) dX10_added5_14 rfl rfl ?_
      refine zV_bipush (pc := 15) dX10_added5_15 (by decide) ?_
      refine zV_ivp (pc := 17) (ci := 10) dX10_added5_17 klX10_201 mX10_isSign ⟨by decide, rfl⟩ rfl ⟨Nat.zero_le _, Nat.zero_le _⟩ (kX10_isSign h2 h3 (by decide)) (zOb_of rfl) rfl rfl (Nat.le_of_ble_eq_true rfl) ?_
      refine zV_if_eqb (pc := 20) (tgt := 66) dX10_added5_20 (by decide) (fun c_20 => ?_) (fun c_20 => ?_)
      · refine zV_iload_n (pc := 66) (i := 1) dX10_added5_66 rfl rfl ?_
        refine zV_iret (pc := 67) dX10_added5_67 trivial ⟨Nat.zero_le _, Nat.zero_le _⟩ ?_
        have e8 := (zlo_f (tp := tp) (z := z) (q := fun t => t = 43 ∨ t = 45) (stp := fun t => if t = 43 then (-16 : Int) else -17) (f := fn) (k := 0) (x := x) (fun y => y.elim c_11 c_20)).symm.trans h8
        rw [← e8]
        exact ⟨rfl, h2, h4, h5, v, rfl, h6, h7⟩
      · exfalso
        exact h0.elim (fun y => by have := h3.1; have y : z - x.2.at < 0 := y; omega) (fun y => y (by first | exact Or.inl c_11 | exact Or.inr c_20))
  | succ k ih =>
    intro v x M1 w2 w3 h0 h1 h2 h3 h4 h5 h6 h7 h8
    have hlvT : (fun t : Int => t = 43 ∨ t = 45) x.2.tk → zlive x.2 := fun q => ⟨by omega, by omega⟩
    refine zV_aload_n (pc := 5) (i := 0) dX10_added5_5 rfl rfl ?_
    refine zV_bipush (pc := 6) dX10_added5_6 (by decide) ?_
    refine zV_ivp (pc := 8) (ci := 10) dX10_added5_8 klX10_201 mX10_isSign ⟨by decide, rfl⟩ rfl ⟨Nat.zero_le _, Nat.zero_le _⟩ (kX10_isSign h2 h3 (by decide)) (zOb_of rfl) rfl rfl (Nat.le_of_ble_eq_true rfl) ?_
    refine zV_if_neb (pc := 11) (tgt := 23) dX10_added5_11 (by decide) (fun c_11 => ?_) (fun c_11 => ?_)
    · have hlv := hlvT (by first | exact Or.inl c_11 | exact Or.inr c_20)
      have h24 : M1 58 24 = x.2.tk := by
        have ht := (h2.2.2 (h3.live hlv)).2
        have hw := zwt_r (tp := tp) (s := x.2.sa) (e := x.2.at) 12 (Nat.le_refl _)
        have hw0 : zwt tp x.2.sa x.2.at 12 ≤ 11 := by omega
        unfold zMt at ht
        omega
      refine zV_aload_n (pc := 23) (i := 0) dX10_added5_23 rfl rfl ?_
      refine zV_get (pc := 24) (j := 24) dX10_added5_24 flX10_154 (zOb_of rfl) rfl h24 ?_
      refine zV_ldc2 (pc := 27) dX10_added5_27 kiX10_218 ?_
      refine zV_lcmp (pc := 30) dX10_added5_30 (by have := h3.2.2.2.2.1; omega) ?_
      refine zV_if_nec (pc := 31) (tgt := 38) dX10_added5_31 (by decide) (fun c_31 => ?_) (fun c_31 => ?_)
      · refine zV_iconst (pc := 38) dX10_added5_38 ?_
        refine zV_istore_n (pc := 39) (i := 2) dX10_added5_39 rfl rfl ?_
        try dsimp only [List.set_cons_succ, List.set_cons_zero]
        refine zV_aload_n (pc := 40) (i := 0) dX10_added5_40 rfl rfl ?_
        refine zV_ivn (pc := 41) (ci := 10) dX10_added5_41 klX10_176 mX10_next ⟨by decide, rfl⟩ rfl ⟨Nat.zero_le _, Nat.zero_le _⟩ (kX10_next h1.1 hT (s := x.2) (by have := h3.1; omega) (h2.here h3 hlv) (h3.live hlv) (h2.ok (h3.live hlv))) (zOb_of rfl) rfl rfl (Nat.le_of_ble_eq_true rfl) (fun M2 q2 => ?_)
        have f2 : zFr zNG M1 M2 := q2.2.mono (fun a j y => zNF_G y)
        have hB2 := h1.fr f2
        have ga := (zgx_ad hT h3 hlv).1
        have gf := hf (zadv tp z x.2) ga.1
        refine zV_aload_n (pc := 44) (i := 0) dX10_added5_44 rfl rfl ?_
        refine zV_ivs (pc := 45) (ci := 10) dX10_added5_45 klX10_215 mX10_term5 ⟨by decide, rfl⟩ rfl ⟨Nat.zero_le _, Nat.zero_le _⟩ (hK1 M2 (zadv tp z x.2) hB2 q2.1 ga.1 ((q2.2 _ _ (by unfold zNF; omega)).trans h4)) (zOb_of rfl) rfl rfl (Nat.le_of_ble_eq_true rfl) ?_
        rintro w9 N9 M3 ⟨rfl, d3, o3, f3, u, rfl, r3, v3⟩
        have e8 := (zlo_t (q := fun t => t = 43 ∨ t = 45) (stp := fun t => if t = 43 then (-16 : Int) else -17) (f := fn) (k := k) (by first | exact Or.inl c_11 | exact Or.inr c_20)).symm.trans h8
        refine zV_istore_n (pc := 48) (i := 3) dX10_added5_48 rfl rfl ?_
        try dsimp only [List.set_cons_succ, List.set_cons_zero]
        refine zV_iload_n (pc := 49) (i := 2) dX10_added5_49 rfl rfl ?_
        refine zV_if_eq (pc := 50) (tgt := 59) dX10_added5_50 (by decide) (by omega) (fun c_50 => ?_) (fun c_50 => ?_)
        · refine zV_iload_n (pc := 59) (i := 1) dX10_added5_59 rfl rfl ?_
          refine zV_iload_n (pc := 60) (i := 3) dX10_added5_60 rfl rfl ?_
          refine zV_isub (pc := 61) dX10_added5_61 ?_
          refine zV_zw ?_
          refine zV_istore_n (pc := 62) (i := 1) dX10_added5_62 rfl rfl ?_
          try dsimp only [List.set_cons_succ, List.set_cons_zero]
          refine zV_goto (pc := 63) (tgt := 5) dX10_added5_63 (by decide) ?_
          have hz9 : (fn (zadv tp z x.2)).2.ft = -1 → x.2.ft = -1 := fun _ => h3.live hlv
          have hms : z - (fn (zadv tp z x.2)).2.at < k ∨ ¬ (fun t : Int => t = 43 ∨ t = 45) (fn (zadv tp z x.2)).2.tk := by
            by_cases q : (fun t : Int => t = 43 ∨ t = 45) (fn (zadv tp z x.2)).2.tk
            · have l := gf.2.1 ⟨by omega, by omega⟩
              have l2 := ga.2.2.1
              exact Or.inl (by show z - (fn (zadv tp z x.2)).2.at < k; omega)
            · exact Or.inr q
          first
            | (have ev : zw (v + u) = zopr (-16) v u := zopr_16.symm
               have eo : (fun t : Int => if t = 43 then (-16 : Int) else -17) x.2.tk = -16 := by first | rfl | exact if_pos (by omega) | exact if_neg (by omega)
               have hv9 : (fn (zadv tp z x.2)).2.ft = -1 → zvl nm (2 + 1) (x.1 ++ (fn (zadv tp z x.2)).1 ++ [(fun t : Int => if t = 43 then (-16 : Int) else -17) x.2.tk]) (zopr (-16) v u) := fun y => by rw [eo]; exact zvl_2u (h7 (hz9 y)) (v3 y) (by decide)
               rw [← ev] at hv9
               refine ih _ (x.1 ++ (fn (zadv tp z x.2)).1 ++ [(fun t : Int => if t = 43 then (-16 : Int) else -17) x.2.tk], (fn (zadv tp z x.2)).2) M3 _ _ hms (hB2.fr f3) d3 gf.1.1 o3 ((h5.tr f2).tr f3) ?_ hv9 e8
               rw [ev]
               exact zopr_r _ _ _)
            | (have ev : zw (v - u) = zopr (-17) v u := zopr_17.symm
               have eo : (fun t : Int => if t = 43 then (-16 : Int) else -17) x.2.tk = -17 := by first | rfl | exact if_pos (by omega) | exact if_neg (by omega)
               have hv9 : (fn (zadv tp z x.2)).2.ft = -1 → zvl nm (2 + 1) (x.1 ++ (fn (zadv tp z x.2)).1 ++ [(fun t : Int => if t = 43 then (-16 : Int) else -17) x.2.tk]) (zopr (-17) v u) := fun y => by rw [eo]; exact zvl_2u (h7 (hz9 y)) (v3 y) (by decide)
               rw [← ev] at hv9
               refine ih _ (x.1 ++ (fn (zadv tp z x.2)).1 ++ [(fun t : Int => if t = 43 then (-16 : Int) else -17) x.2.tk], (fn (zadv tp z x.2)).2) M3 _ _ hms (hB2.fr f3) d3 gf.1.1 o3 ((h5.tr f2).tr f3) ?_ hv9 e8
               rw [ev]
               exact zopr_r _ _ _)
        · refine zV_iload_n (pc := 53) (i := 1) dX10_added5_53 rfl rfl ?_
          refine zV_iload_n (pc := 54) (i := 3) dX10_added5_54 rfl rfl ?_
          refine zV_iadd (pc := 55) dX10_added5_55 ?_
          refine zV_goto (pc := 56) (tgt := 62) dX10_added5_56 (by decide) ?_
          refine zV_zw ?_
          refine zV_istore_n (pc := 62) (i := 1) dX10_added5_62 rfl rfl ?_
          try dsimp only [List.set_cons_succ, List.set_cons_zero]
          refine zV_goto (pc := 63) (tgt := 5) dX10_added5_63 (by decide) ?_
          have hz9 : (fn (zadv tp z x.2)).2.ft = -1 → x.2.ft = -1 := fun _ => h3.live hlv
          have hms : z - (fn (zadv tp z x.2)).2.at < k ∨ ¬ (fun t : Int => t = 43 ∨ t = 45) (fn (zadv tp z x.2)).2.tk := by
            by_cases q : (fun t : Int => t = 43 ∨ t = 45) (fn (zadv tp z x.2)).2.tk
            · have l := gf.2.1 ⟨by omega, by omega⟩
              have l2 := ga.2.2.1
              exact Or.inl (by show z - (fn (zadv tp z x.2)).2.at < k; omega)
            · exact Or.inr q
          first
            | (have ev : zw (v + u) = zopr (-16) v u := zopr_16.symm
               have eo : (fun t : Int => if t = 43 then (-16 : Int) else -17) x.2.tk = -16 := by first | rfl | exact if_pos (by omega) | exact if_neg (by omega)
               have hv9 : (fn (zadv tp z x.2)).2.ft = -1 → zvl nm (2 + 1) (x.1 ++ (fn (zadv tp z x.2)).1 ++ [(fun t : Int => if t = 43 then (-16 : Int) else -17) x.2.tk]) (zopr (-16) v u) := fun y => by rw [eo]; exact zvl_2u (h7 (hz9 y)) (v3 y) (by decide)
               rw [← ev] at hv9
               refine ih _ (x.1 ++ (fn (zadv tp z x.2)).1 ++ [(fun t : Int => if t = 43 then (-16 : Int) else -17) x.2.tk], (fn (zadv tp z x.2)).2) M3 _ _ hms (hB2.fr f3) d3 gf.1.1 o3 ((h5.tr f2).tr f3) ?_ hv9 e8
               rw [ev]
               exact zopr_r _ _ _)
            | (have ev : zw (v - u) = zopr (-17) v u := zopr_17.symm
               have eo : (fun t : Int => if t = 43 then (-16 : Int) else -17) x.2.tk = -17 := by first | rfl | exact if_pos (by omega) | exact if_neg (by omega)
               have hv9 : (fn (zadv tp z x.2)).2.ft = -1 → zvl nm (2 + 1) (x.1 ++ (fn (zadv tp z x.2)).1 ++ [(fun t : Int => if t = 43 then (-16 : Int) else -17) x.2.tk]) (zopr (-17) v u) := fun y => by rw [eo]; exact zvl_2u (h7 (hz9 y)) (v3 y) (by decide)
               rw [← ev] at hv9
               refine ih _ (x.1 ++ (fn (zadv tp z x.2)).1 ++ [(fun t : Int => if t = 43 then (-16 : Int) else -17) x.2.tk], (fn (zadv tp z x.2)).2) M3 _ _ hms (hB2.fr f3) d3 gf.1.1 o3 ((h5.tr f2).tr f3) ?_ hv9 e8
               rw [ev]
               exact zopr_r _ _ _)
      · refine zV_iconst (pc := 34) dX10_added5_34 ?_
        refine zV_goto (pc := 35) (tgt := 39) dX10_added5_35 (by decide) ?_
        refine zV_istore_n (pc := 39) (i := 2) dX10_added5_39 rfl rfl ?_
        try dsimp only [List.set_cons_succ, List.set_cons_zero]
        refine zV_aload_n (pc := 40) (i := 0) dX10_added5_40 rfl rfl ?_
        refine zV_ivn (pc := 41) (ci := 10) dX10_added5_41 klX10_176 mX10_next ⟨by decide, rfl⟩ rfl ⟨Nat.zero_le _, Nat.zero_le _⟩ (kX10_next h1.1 hT (s := x.2) (by have := h3.1; omega) (h2.here h3 hlv) (h3.live hlv) (h2.ok (h3.live hlv))) (zOb_of rfl) rfl rfl (Nat.le_of_ble_eq_true rfl) (fun M2 q2 => ?_)
        have f2 : zFr zNG M1 M2 := q2.2.mono (fun a j y => zNF_G y)
        have hB2 := h1.fr f2
        have ga := (zgx_ad hT h3 hlv).1
        have gf := hf (zadv tp z x.2) ga.1
        refine zV_aload_n (pc := 44) (i := 0) dX10_added5_44 rfl rfl ?_
        refine zV_ivs (pc := 45) (ci := 10) dX10_added5_45 klX10_215 mX10_term5 ⟨by decide, rfl⟩ rfl ⟨Nat.zero_le _, Nat.zero_le _⟩ (hK1 M2 (zadv tp z x.2) hB2 q2.1 ga.1 ((q2.2 _ _ (by unfold zNF; omega)).trans h4)) (zOb_of rfl) rfl rfl (Nat.le_of_ble_eq_true rfl) ?_
        rintro w9 N9 M3 ⟨rfl, d3, o3, f3, u, rfl, r3, v3⟩
        have e8 := (zlo_t (q := fun t => t = 43 ∨ t = 45) (stp := fun t => if t = 43 then (-16 : Int) else -17) (f := fn) (k := k) (by first | exact Or.inl c_11 | exact Or.inr c_20)).symm.trans h8
        refine zV_istore_n (pc := 48) (i := 3) dX10_added5_48 rfl rfl ?_
        try dsimp only [List.set_cons_succ, List.set_cons_zero]
        refine zV_iload_n (pc := 49) (i := 2) dX10_added5_49 rfl rfl ?_
        refine zV_if_eq (pc := 50) (tgt := 59) dX10_added5_50 (by decide) (by omega) (fun c_50 => ?_) (fun c_50 => ?_)
        · refine zV_iload_n (pc := 59) (i := 1) dX10_added5_59 rfl rfl ?_
          refine zV_iload_n (pc := 60) (i := 3) dX10_added5_60 rfl rfl ?_
          refine zV_isub (pc := 61) dX10_added5_61 ?_
          refine zV_zw ?_
          refine zV_istore_n (pc := 62) (i := 1) dX10_added5_62 rfl rfl ?_
          try dsimp only [List.set_cons_succ, List.set_cons_zero]
          refine zV_goto (pc := 63) (tgt := 5) dX10_added5_63 (by decide) ?_
          have hz9 : (fn (zadv tp z x.2)).2.ft = -1 → x.2.ft = -1 := fun _ => h3.live hlv
          have hms : z - (fn (zadv tp z x.2)).2.at < k ∨ ¬ (fun t : Int => t = 43 ∨ t = 45) (fn (zadv tp z x.2)).2.tk := by
            by_cases q : (fun t : Int => t = 43 ∨ t = 45) (fn (zadv tp z x.2)).2.tk
            · have l := gf.2.1 ⟨by omega, by omega⟩
              have l2 := ga.2.2.1
              exact Or.inl (by show z - (fn (zadv tp z x.2)).2.at < k; omega)
            · exact Or.inr q
          first
            | (have ev : zw (v + u) = zopr (-16) v u := zopr_16.symm
               have eo : (fun t : Int => if t = 43 then (-16 : Int) else -17) x.2.tk = -16 := by first | rfl | exact if_pos (by omega) | exact if_neg (by omega)
               have hv9 : (fn (zadv tp z x.2)).2.ft = -1 → zvl nm (2 + 1) (x.1 ++ (fn (zadv tp z x.2)).1 ++ [(fun t : Int => if t = 43 then (-16 : Int) else -17) x.2.tk]) (zopr (-16) v u) := fun y => by rw [eo]; exact zvl_2u (h7 (hz9 y)) (v3 y) (by decide)
               rw [← ev] at hv9
               refine ih _ (x.1 ++ (fn (zadv tp z x.2)).1 ++ [(fun t : Int => if t = 43 then (-16 : Int) else -17) x.2.tk], (fn (zadv tp z x.2)).2) M3 _ _ hms (hB2.fr f3) d3 gf.1.1 o3 ((h5.tr f2).tr f3) ?_ hv9 e8
               rw [ev]
               exact zopr_r _ _ _)
            | (have ev : zw (v - u) = zopr (-17) v u := zopr_17.symm
               have eo : (fun t : Int => if t = 43 then (-16 : Int) else -17) x.2.tk = -17 := by first | rfl | exact if_pos (by omega) | exact if_neg (by omega)
               have hv9 : (fn (zadv tp z x.2)).2.ft = -1 → zvl nm (2 + 1) (x.1 ++ (fn (zadv tp z x.2)).1 ++ [(fun t : Int => if t = 43 then (-16 : Int) else -17) x.2.tk]) (zopr (-17) v u) := fun y => by rw [eo]; exact zvl_2u (h7 (hz9 y)) (v3 y) (by decide)
               rw [← ev] at hv9
               refine ih _ (x.1 ++ (fn (zadv tp z x.2)).1 ++ [(fun t : Int => if t = 43 then (-16 : Int) else -17) x.2.tk], (fn (zadv tp z x.2)).2) M3 _ _ hms (hB2.fr f3) d3 gf.1.1 o3 ((h5.tr f2).tr f3) ?_ hv9 e8
               rw [ev]
               exact zopr_r _ _ _)
        · refine zV_iload_n (pc := 53) (i := 1) dX10_added5_53 rfl rfl ?_
          refine zV_iload_n (pc := 54) (i := 3) dX10_added5_54 rfl rfl ?_
          refine zV_iadd (pc := 55) dX10_added5_55 ?_
          refine zV_goto (pc := 56) (tgt := 62) dX10_added5_56 (by decide) ?_
          refine zV_zw ?_
          refine zV_istore_n (pc := 62) (i := 1) dX10_added5_62 rfl rfl ?_
          try dsimp only [List.set_cons_succ, List.set_cons_zero]
          refine zV_goto (pc := 63) (tgt := 5) dX10_added5_63 (by decide) ?_
          have hz9 : (fn (zadv tp z x.2)).2.ft = -1 → x.2.ft = -1 := fun _ => h3.live hlv
          have hms : z - (fn (zadv tp z x.2)).2.at < k ∨ ¬ (fun t : Int => t = 43 ∨ t = 45) (fn (zadv tp z x.2)).2.tk := by
            by_cases q : (fun t : Int => t = 43 ∨ t = 45) (fn (zadv tp z x.2)).2.tk
            · have l := gf.2.1 ⟨by omega, by omega⟩
              have l2 := ga.2.2.1
              exact Or.inl (by show z - (fn (zadv tp z x.2)).2.at < k; omega)
            · exact Or.inr q
          first
            | (have ev : zw (v + u) = zopr (-16) v u := zopr_16.symm
               have eo : (fun t : Int => if t = 43 then (-16 : Int) else -17) x.2.tk = -16 := by first | rfl | exact if_pos (by omega) | exact if_neg (by omega)
               have hv9 : (fn (zadv tp z x.2)).2.ft = -1 → zvl nm (2 + 1) (x.1 ++ (fn (zadv tp z x.2)).1 ++ [(fun t : Int => if t = 43 then (-16 : Int) else -17) x.2.tk]) (zopr (-16) v u) := fun y => by rw [eo]; exact zvl_2u (h7 (hz9 y)) (v3 y) (by decide)
               rw [← ev] at hv9
               refine ih _ (x.1 ++ (fn (zadv tp z x.2)).1 ++ [(fun t : Int => if t = 43 then (-16 : Int) else -17) x.2.tk], (fn (zadv tp z x.2)).2) M3 _ _ hms (hB2.fr f3) d3 gf.1.1 o3 ((h5.tr f2).tr f3) ?_ hv9 e8
               rw [ev]
               exact zopr_r _ _ _)
            | (have ev : zw (v - u) = zopr (-17) v u := zopr_17.symm
               have eo : (fun t : Int => if t = 43 then (-16 : Int) else -17) x.2.tk = -17 := by first | rfl | exact if_pos (by omega) | exact if_neg (by omega)
               have hv9 : (fn (zadv tp z x.2)).2.ft = -1 → zvl nm (2 + 1) (x.1 ++ (fn (zadv tp z x.2)).1 ++ [(fun t : Int => if t = 43 then (-16 : Int) else -17) x.2.tk]) (zopr (-17) v u) := fun y => by rw [eo]; exact zvl_2u (h7 (hz9 y)) (v3 y) (by decide)
               rw [← ev] at hv9
               refine ih _ (x.1 ++ (fn (zadv tp z x.2)).1 ++ [(fun t : Int => if t = 43 then (-16 : Int) else -17) x.2.tk], (fn (zadv tp z x.2)).2) M3 _ _ hms (hB2.fr f3) d3 gf.1.1 o3 ((h5.tr f2).tr f3) ?_ hv9 e8
               rw [ev]
               exact zopr_r _ _ _)
    · refine zV_aload_n (pc := 14) (i := 0) dX10_added5_14 rfl rfl ?_
      refine zV_bipush (pc := 15) dX10_added5_15 (by decide) ?_
      refine zV_ivp (pc := 17) (ci := 10) dX10_added5_17 klX10_201 mX10_isSign ⟨by decide, rfl⟩ rfl ⟨Nat.zero_le _, Nat.zero_le _⟩ (kX10_isSign h2 h3 (by decide)) (zOb_of rfl) rfl rfl (Nat.le_of_ble_eq_true rfl) ?_
      refine zV_if_eqb (pc := 20) (tgt := 66) dX10_added5_20 (by decide) (fun c_20 => ?_) (fun c_20 => ?_)
      · refine zV_iload_n (pc := 66) (i := 1) dX10_added5_66 rfl rfl ?_
        refine zV_iret (pc := 67) dX10_added5_67 trivial ⟨Nat.zero_le _, Nat.zero_le _⟩ ?_
        have e8 := (zlo_f (tp := tp) (z := z) (q := fun t => t = 43 ∨ t = 45) (stp := fun t => if t = 43 then (-16 : Int) else -17) (f := fn) (k := k + 1) (x := x) (fun y => y.elim c_11 c_20)).symm.trans h8
        rw [← e8]
        exact ⟨rfl, h2, h4, h5, v, rfl, h6, h7⟩
      · have hlv := hlvT (by first | exact Or.inl c_11 | exact Or.inr c_20)
        have h24 : M1 58 24 = x.2.tk := by
          have ht := (h2.2.2 (h3.live hlv)).2
          have hw := zwt_r (tp := tp) (s := x.2.sa) (e := x.2.at) 12 (Nat.le_refl _)
          have hw0 : zwt tp x.2.sa x.2.at 12 ≤ 11 := by omega
          unfold zMt at ht
          omega
        refine zV_aload_n (pc := 23) (i := 0) dX10_added5_23 rfl rfl ?_
        refine zV_get (pc := 24) (j := 24) dX10_added5_24 flX10_154 (zOb_of rfl) rfl h24 ?_
        refine zV_ldc2 (pc := 27) dX10_added5_27 kiX10_218 ?_
        refine zV_lcmp (pc := 30) dX10_added5_30 (by have := h3.2.2.2.2.1; omega) ?_
        refine zV_if_nec (pc := 31) (tgt := 38) dX10_added5_31 (by decide) (fun c_31 => ?_) (fun c_31 => ?_)
        · refine zV_iconst (pc := 38) dX10_added5_38 ?_
          refine zV_istore_n (pc := 39) (i := 2) dX10_added5_39 rfl rfl ?_
          try dsimp only [List.set_cons_succ, List.set_cons_zero]
          refine zV_aload_n (pc := 40) (i := 0) dX10_added5_40 rfl rfl ?_
          refine zV_ivn (pc := 41) (ci := 10) dX10_added5_41 klX10_176 mX10_next ⟨by decide, rfl⟩ rfl ⟨Nat.zero_le _, Nat.zero_le _⟩ (kX10_next h1.1 hT (s := x.2) (by have := h3.1; omega) (h2.here h3 hlv) (h3.live hlv) (h2.ok (h3.live hlv))) (zOb_of rfl) rfl rfl (Nat.le_of_ble_eq_true rfl) (fun M2 q2 => ?_)
          have f2 : zFr zNG M1 M2 := q2.2.mono (fun a j y => zNF_G y)
          have hB2 := h1.fr f2
          have ga := (zgx_ad hT h3 hlv).1
          have gf := hf (zadv tp z x.2) ga.1
          refine zV_aload_n (pc := 44) (i := 0) dX10_added5_44 rfl rfl ?_
          refine zV_ivs (pc := 45) (ci := 10) dX10_added5_45 klX10_215 mX10_term5 ⟨by decide, rfl⟩ rfl ⟨Nat.zero_le _, Nat.zero_le _⟩ (hK1 M2 (zadv tp z x.2) hB2 q2.1 ga.1 ((q2.2 _ _ (by unfold zNF; omega)).trans h4)) (zOb_of rfl) rfl rfl (Nat.le_of_ble_eq_true rfl) ?_
          rintro w9 N9 M3 ⟨rfl, d3, o3, f3, u, rfl, r3, v3⟩
          have e8 := (zlo_t (q := fun t => t = 43 ∨ t = 45) (stp := fun t => if t = 43 then (-16 : Int) else -17) (f := fn) (k := k) (by first | exact Or.inl c_11 | exact Or.inr c_20)).symm.trans h8
          refine zV_istore_n (pc := 48) (i := 3) dX10_added5_48 rfl rfl ?_
          try dsimp only [List.set_cons_succ, List.set_cons_zero]
          refine zV_iload_n (pc := 49) (i := 2) dX10_added5_49 rfl rfl ?_
          refine zV_if_eq (pc := 50) (tgt := 59) dX10_added5_50 (by decide) (by omega) (fun c_50 => ?_) (fun c_50 => ?_)
          · refine zV_iload_n (pc := 59) (i := 1) dX10_added5_59 rfl rfl ?_
            refine zV_iload_n (pc := 60) (i := 3) dX10_added5_60 rfl rfl ?_
            refine zV_isub (pc := 61) dX10_added5_61 ?_
            refine zV_zw ?_
            refine zV_istore_n (pc := 62) (i := 1) dX10_added5_62 rfl rfl ?_
            try dsimp only [List.set_cons_succ, List.set_cons_zero]
            refine zV_goto (pc := 63) (tgt := 5) dX10_added5_63 (by decide) ?_
            have hz9 : (fn (zadv tp z x.2)).2.ft = -1 → x.2.ft = -1 := fun _ => h3.live hlv
            have hms : z - (fn (zadv tp z x.2)).2.at < k ∨ ¬ (fun t : Int => t = 43 ∨ t = 45) (fn (zadv tp z x.2)).2.tk := by
              by_cases q : (fun t : Int => t = 43 ∨ t = 45) (fn (zadv tp z x.2)).2.tk
              · have l := gf.2.1 ⟨by omega, by omega⟩
                have l2 := ga.2.2.1
                exact Or.inl (by show z - (fn (zadv tp z x.2)).2.at < k; omega)
              · exact Or.inr q
            first
              | (have ev : zw (v + u) = zopr (-16) v u := zopr_16.symm
                 have eo : (fun t : Int => if t = 43 then (-16 : Int) else -17) x.2.tk = -16 := by first | rfl | exact if_pos (by omega) | exact if_neg (by omega)
                 have hv9 : (fn (zadv tp z x.2)).2.ft = -1 → zvl nm (2 + 1) (x.1 ++ (fn (zadv tp z x.2)).1 ++ [(fun t : Int => if t = 43 then (-16 : Int) else -17) x.2.tk]) (zopr (-16) v u) := fun y => by rw [eo]; exact zvl_2u (h7 (hz9 y)) (v3 y) (by decide)
                 rw [← ev] at hv9
                 refine ih _ (x.1 ++ (fn (zadv tp z x.2)).1 ++ [(fun t : Int => if t = 43 then (-16 : Int) else -17) x.2.tk], (fn (zadv tp z x.2)).2) M3 _ _ hms (hB2.fr f3) d3 gf.1.1 o3 ((h5.tr f2).tr f3) ?_ hv9 e8
                 rw [ev]
                 exact zopr_r _ _ _)
              | (have ev : zw (v - u) = zopr (-17) v u := zopr_17.symm
                 have eo : (fun t : Int => if t = 43 then (-16 : Int) else -17) x.2.tk = -17 := by first | rfl | exact if_pos (by omega) | exact if_neg (by omega)
                 have hv9 : (fn (zadv tp z x.2)).2.ft = -1 → zvl nm (2 + 1) (x.1 ++ (fn (zadv tp z x.2)).1 ++ [(fun t : Int => if t = 43 then (-16 : Int) else -17) x.2.tk]) (zopr (-17) v u) := fun y => by rw [eo]; exact zvl_2u (h7 (hz9 y)) (v3 y) (by decide)
                 rw [← ev] at hv9
                 refine ih _ (x.1 ++ (fn (zadv tp z x.2)).1 ++ [(fun t : Int => if t = 43 then (-16 : Int) else -17) x.2.tk], (fn (zadv tp z x.2)).2) M3 _ _ hms (hB2.fr f3) d3 gf.1.1 o3 ((h5.tr f2).tr f3) ?_ hv9 e8
                 rw [ev]
                 exact zopr_r _ _ _)
          · refine zV_iload_n (pc := 53) (i := 1) dX10_added5_53 rfl rfl ?_
            refine zV_iload_n (pc := 54) (i := 3) dX10_added5_54 rfl rfl ?_
            refine zV_iadd (pc := 55) dX10_added5_55 ?_
            refine zV_goto (pc := 56) (tgt := 62) dX10_added5_56 (by decide) ?_
            refine zV_zw ?_
            refine zV_istore_n (pc := 62) (i := 1) dX10_added5_62 rfl rfl ?_
            try dsimp only [List.set_cons_succ, List.set_cons_zero]
            refine zV_goto (pc := 63) (tgt := 5) dX10_added5_63 (by decide) ?_
            have hz9 : (fn (zadv tp z x.2)).2.ft = -1 → x.2.ft = -1 := fun _ => h3.live hlv
            have hms : z - (fn (zadv tp z x.2)).2.at < k ∨ ¬ (fun t : Int => t = 43 ∨ t = 45) (fn (zadv tp z x.2)).2.tk := by
              by_cases q : (fun t : Int => t = 43 ∨ t = 45) (fn (zadv tp z x.2)).2.tk
              · have l := gf.2.1 ⟨by omega, by omega⟩
                have l2 := ga.2.2.1
                exact Or.inl (by show z - (fn (zadv tp z x.2)).2.at < k; omega)
              · exact Or.inr q
            first
              | (have ev : zw (v + u) = zopr (-16) v u := zopr_16.symm
                 have eo : (fun t : Int => if t = 43 then (-16 : Int) else -17) x.2.tk = -16 := by first | rfl | exact if_pos (by omega) | exact if_neg (by omega)
                 have hv9 : (fn (zadv tp z x.2)).2.ft = -1 → zvl nm (2 + 1) (x.1 ++ (fn (zadv tp z x.2)).1 ++ [(fun t : Int => if t = 43 then (-16 : Int) else -17) x.2.tk]) (zopr (-16) v u) := fun y => by rw [eo]; exact zvl_2u (h7 (hz9 y)) (v3 y) (by decide)
                 rw [← ev] at hv9
                 refine ih _ (x.1 ++ (fn (zadv tp z x.2)).1 ++ [(fun t : Int => if t = 43 then (-16 : Int) else -17) x.2.tk], (fn (zadv tp z x.2)).2) M3 _ _ hms (hB2.fr f3) d3 gf.1.1 o3 ((h5.tr f2).tr f3) ?_ hv9 e8
                 rw [ev]
                 exact zopr_r _ _ _)
              | (have ev : zw (v - u) = zopr (-17) v u := zopr_17.symm
                 have eo : (fun t : Int => if t = 43 then (-16 : Int) else -17) x.2.tk = -17 := by first | rfl | exact if_pos (by omega) | exact if_neg (by omega)
                 have hv9 : (fn (zadv tp z x.2)).2.ft = -1 → zvl nm (2 + 1) (x.1 ++ (fn (zadv tp z x.2)).1 ++ [(fun t : Int => if t = 43 then (-16 : Int) else -17) x.2.tk]) (zopr (-17) v u) := fun y => by rw [eo]; exact zvl_2u (h7 (hz9 y)) (v3 y) (by decide)
                 rw [← ev] at hv9
                 refine ih _ (x.1 ++ (fn (zadv tp z x.2)).1 ++ [(fun t : Int => if t = 43 then (-16 : Int) else -17) x.2.tk], (fn (zadv tp z x.2)).2) M3 _ _ hms (hB2.fr f3) d3 gf.1.1 o3 ((h5.tr f2).tr f3) ?_ hv9 e8
                 rw [ev]
                 exact zopr_r _ _ _)
        · refine zV_iconst (pc := 34) dX10_added5_34 ?_
          refine zV_goto (pc := 35) (tgt := 39) dX10_added5_35 (by decide) ?_
          refine zV_istore_n (pc := 39) (i := 2) dX10_added5_39 rfl rfl ?_
          try dsimp only [List.set_cons_succ, List.set_cons_zero]
          refine zV_aload_n (pc := 40) (i := 0) dX10_added5_40 rfl rfl ?_
          refine zV_ivn (pc := 41) (ci := 10) dX10_added5_41 klX10_176 mX10_next ⟨by decide, rfl⟩ rfl ⟨Nat.zero_le _, Nat.zero_le _⟩ (kX10_next h1.1 hT (s := x.2) (by have := h3.1; omega) (h2.here h3 hlv) (h3.live hlv) (h2.ok (h3.live hlv))) (zOb_of rfl) rfl rfl (Nat.le_of_ble_eq_true rfl) (fun M2 q2 => ?_)
          have f2 : zFr zNG M1 M2 := q2.2.mono (fun a j y => zNF_G y)
          have hB2 := h1.fr f2
          have ga := (zgx_ad hT h3 hlv).1
          have gf := hf (zadv tp z x.2) ga.1
          refine zV_aload_n (pc := 44) (i := 0) dX10_added5_44 rfl rfl ?_
          refine zV_ivs (pc := 45) (ci := 10) dX10_added5_45 klX10_215 mX10_term5 ⟨by decide, rfl⟩ rfl ⟨Nat.zero_le _, Nat.zero_le _⟩ (hK1 M2 (zadv tp z x.2) hB2 q2.1 ga.1 ((q2.2 _ _ (by unfold zNF; omega)).trans h4)) (zOb_of rfl) rfl rfl (Nat.le_of_ble_eq_true rfl) ?_
          rintro w9 N9 M3 ⟨rfl, d3, o3, f3, u, rfl, r3, v3⟩
          have e8 := (zlo_t (q := fun t => t = 43 ∨ t = 45) (stp := fun t => if t = 43 then (-16 : Int) else -17) (f := fn) (k := k) (by first | exact Or.inl c_11 | exact Or.inr c_20)).symm.trans h8
          refine zV_istore_n (pc := 48) (i := 3) dX10_added5_48 rfl rfl ?_
          try dsimp only [List.set_cons_succ, List.set_cons_zero]
          refine zV_iload_n (pc := 49) (i := 2) dX10_added5_49 rfl rfl ?_
          refine zV_if_eq (pc := 50) (tgt := 59) dX10_added5_50 (by decide) (by omega) (fun c_50 => ?_) (fun c_50 => ?_)
          · refine zV_iload_n (pc := 59) (i := 1) dX10_added5_59 rfl rfl ?_
            refine zV_iload_n (pc := 60) (i := 3) dX10_added5_60 rfl rfl ?_
            refine zV_isub (pc := 61) dX10_added5_61 ?_
            refine zV_zw ?_
            refine zV_istore_n (pc := 62) (i := 1) dX10_added5_62 rfl rfl ?_
            try dsimp only [List.set_cons_succ, List.set_cons_zero]
            refine zV_goto (pc := 63) (tgt := 5) dX10_added5_63 (by decide) ?_
            have hz9 : (fn (zadv tp z x.2)).2.ft = -1 → x.2.ft = -1 := fun _ => h3.live hlv
            have hms : z - (fn (zadv tp z x.2)).2.at < k ∨ ¬ (fun t : Int => t = 43 ∨ t = 45) (fn (zadv tp z x.2)).2.tk := by
              by_cases q : (fun t : Int => t = 43 ∨ t = 45) (fn (zadv tp z x.2)).2.tk
              · have l := gf.2.1 ⟨by omega, by omega⟩
                have l2 := ga.2.2.1
                exact Or.inl (by show z - (fn (zadv tp z x.2)).2.at < k; omega)
              · exact Or.inr q
            first
              | (have ev : zw (v + u) = zopr (-16) v u := zopr_16.symm
                 have eo : (fun t : Int => if t = 43 then (-16 : Int) else -17) x.2.tk = -16 := by first | rfl | exact if_pos (by omega) | exact if_neg (by omega)
                 have hv9 : (fn (zadv tp z x.2)).2.ft = -1 → zvl nm (2 + 1) (x.1 ++ (fn (zadv tp z x.2)).1 ++ [(fun t : Int => if t = 43 then (-16 : Int) else -17) x.2.tk]) (zopr (-16) v u) := fun y => by rw [eo]; exact zvl_2u (h7 (hz9 y)) (v3 y) (by decide)
                 rw [← ev] at hv9
                 refine ih _ (x.1 ++ (fn (zadv tp z x.2)).1 ++ [(fun t : Int => if t = 43 then (-16 : Int) else -17) x.2.tk], (fn (zadv tp z x.2)).2) M3 _ _ hms (hB2.fr f3) d3 gf.1.1 o3 ((h5.tr f2).tr f3) ?_ hv9 e8
                 rw [ev]
                 exact zopr_r _ _ _)
              | (have ev : zw (v - u) = zopr (-17) v u := zopr_17.symm
                 have eo : (fun t : Int => if t = 43 then (-16 : Int) else -17) x.2.tk = -17 := by first | rfl | exact if_pos (by omega) | exact if_neg (by omega)
                 have hv9 : (fn (zadv tp z x.2)).2.ft = -1 → zvl nm (2 + 1) (x.1 ++ (fn (zadv tp z x.2)).1 ++ [(fun t : Int => if t = 43 then (-16 : Int) else -17) x.2.tk]) (zopr (-17) v u) := fun y => by rw [eo]; exact zvl_2u (h7 (hz9 y)) (v3 y) (by decide)
                 rw [← ev] at hv9
                 refine ih _ (x.1 ++ (fn (zadv tp z x.2)).1 ++ [(fun t : Int => if t = 43 then (-16 : Int) else -17) x.2.tk], (fn (zadv tp z x.2)).2) M3 _ _ hms (hB2.fr f3) d3 gf.1.1 o3 ((h5.tr f2).tr f3) ?_ hv9 e8
                 rw [ev]
                 exact zopr_r _ _ _)
          · refine zV_iload_n (pc := 53) (i := 1) dX10_added5_53 rfl rfl ?_
            refine zV_iload_n (pc := 54) (i := 3) dX10_added5_54 rfl rfl ?_
            refine zV_iadd (pc := 55) dX10_added5_55 ?_
            refine zV_goto (pc := 56) (tgt := 62) dX10_added5_56 (by decide) ?_
            refine zV_zw ?_
            refine zV_istore_n (pc := 62) (i := 1) dX10_added5_62 rfl rfl ?_
            try dsimp only [List.set_cons_succ, List.set_cons_zero]
            refine zV_goto (pc := 63) (tgt := 5) dX10_added5_63 (by decide) ?_
            have hz9 : (fn (zadv tp z x.2)).2.ft = -1 → x.2.ft = -1 := fun _ => h3.live hlv
            have hms : z - (fn (zadv tp z x.2)).2.at < k ∨ ¬ (fun t : Int => t = 43 ∨ t = 45) (fn (zadv tp z x.2)).2.tk := by
              by_cases q : (fun t : Int => t = 43 ∨ t = 45) (fn (zadv tp z x.2)).2.tk
              · have l := gf.2.1 ⟨by omega, by omega⟩
                have l2 := ga.2.2.1
                exact Or.inl (by show z - (fn (zadv tp z x.2)).2.at < k; omega)
              · exact Or.inr q
            first
              | (have ev : zw (v + u) = zopr (-16) v u := zopr_16.symm
                 have eo : (fun t : Int => if t = 43 then (-16 : Int) else -17) x.2.tk = -16 := by first | rfl | exact if_pos (by omega) | exact if_neg (by omega)
                 have hv9 : (fn (zadv tp z x.2)).2.ft = -1 → zvl nm (2 + 1) (x.1 ++ (fn (zadv tp z x.2)).1 ++ [(fun t : Int => if t = 43 then (-16 : Int) else -17) x.2.tk]) (zopr (-16) v u) := fun y => by rw [eo]; exact zvl_2u (h7 (hz9 y)) (v3 y) (by decide)
                 rw [← ev] at hv9
                 refine ih _ (x.1 ++ (fn (zadv tp z x.2)).1 ++ [(fun t : Int => if t = 43 then (-16 : Int) else -17) x.2.tk], (fn (zadv tp z x.2)).2) M3 _ _ hms (hB2.fr f3) d3 gf.1.1 o3 ((h5.tr f2).tr f3) ?_ hv9 e8
                 rw [ev]
                 exact zopr_r _ _ _)
              | (have ev : zw (v - u) = zopr (-17) v u := zopr_17.symm
                 have eo : (fun t : Int => if t = 43 then (-16 : Int) else -17) x.2.tk = -17 := by first | rfl | exact if_pos (by omega) | exact if_neg (by omega)
                 have hv9 : (fn (zadv tp z x.2)).2.ft = -1 → zvl nm (2 + 1) (x.1 ++ (fn (zadv tp z x.2)).1 ++ [(fun t : Int => if t = 43 then (-16 : Int) else -17) x.2.tk]) (zopr (-17) v u) := fun y => by rw [eo]; exact zvl_2u (h7 (hz9 y)) (v3 y) (by decide)
                 rw [← ev] at hv9
                 refine ih _ (x.1 ++ (fn (zadv tp z x.2)).1 ++ [(fun t : Int => if t = 43 then (-16 : Int) else -17) x.2.tk], (fn (zadv tp z x.2)).2) M3 _ _ hms (hB2.fr f3) d3 gf.1.1 o3 ((h5.tr f2).tr f3) ?_ hv9 e8
                 rw [ev]
                 exact zopr_r _ _ _)
set_option maxRecDepth 20000 in
set_option maxHeartbeats 2000000 in
theorem kX10_added5 {f z : Int} {tp nm : Int → Int} (hT : ztp tp z) (hN : ∀ j : Int, 0 ≤ j → j ≤ 5 → -2147483648 ≤ nm j ∧ nm j ≤ 2147483647) {fn : zσ → zρ} (hf : zgd z fn) (hK1 : zMf g yX10_term5 xX10_term5 f tp z nm 5 2 fn) : zMf g yX10_added5 xX10_added5 f tp z nm 5 (2 + 1) (zSum tp z fn) := by
  intro M s hB hd hz h25
  refine zK_of (ls0 := [zr 58, (3, 0), (3, 0), (3, 0)]) (by decide) rfl (by decide) rfl (Nat.le_of_ble_eq_true rfl) ?_
  refine zV_aload_n (pc := 0) (i := 0) dX10_added5_0 rfl rfl ?_
  refine zV_ivs (pc := 1) (ci := 10) dX10_added5_1 klX10_215 mX10_term5 ⟨by decide, rfl⟩ rfl ⟨Nat.zero_le _, Nat.zero_le _⟩ (hK1 M s hB hd hz h25) (zOb_of rfl) rfl rfl (Nat.le_of_ble_eq_true rfl) ?_
  rintro w9 N9 M1 ⟨rfl, d1, o1, f1, v, rfl, r1, v1⟩
  refine zV_istore_n (pc := 4) (i := 1) dX10_added5_4 rfl rfl ?_
  try dsimp only [List.set_cons_succ, List.set_cons_zero]
  have gf := hf s hz
  exact kX10_added5L hT hN hf hK1 160 v (fn s) M1 _ _ (by
    by_cases q : (fun t : Int => t = 43 ∨ t = 45) (fn s).2.tk
    · have l := gf.2.1 ⟨by omega, by omega⟩
      have l2 := hz.1
      exact Or.inl (by show z - (fn s).2.at < 160; have := hT.1; omega)
    · exact Or.inr q) (hB.fr f1) d1 gf.1.1 o1 f1 r1 (fun y => (v1 y).up (Nat.le_succ _)) rfl
set_option maxRecDepth 20000 in
set_option maxHeartbeats 2000000 in
theorem kX10_not5 {f z : Int} {tp nm : Int → Int} (hT : ztp tp z) (hN : ∀ j : Int, 0 ≤ j → j ≤ 5 → -2147483648 ≤ nm j ∧ nm j ≤ 2147483647) {fn : zσ → zρ} (hf : zgd z (zSum tp z (zTerm tp z fn))) (hK1 : zMf g yX10_added5 xX10_added5 f tp z nm 5 3 (zSum tp z (zTerm tp z fn))) : zMf g yX10_not5 xX10_not5 f tp z nm 5 4 (zNot0 tp z fn) := by
  intro M s hB hd hz h25
  refine zK_of (ls0 := [zr 58, (3, 0), (3, 0), (3, 0)]) (by decide) rfl (by decide) rfl (Nat.le_of_ble_eq_true rfl) ?_
  refine zV_aload_n (pc := 0) (i := 0) dX10_not5_0 rfl rfl ?_
  refine zV_bipush (pc := 1) dX10_not5_1 (by decide) ?_
  refine zV_bipush (pc := 3) dX10_not5_3 (by decide) ?_
  refine zV_bipush (pc := 5) dX10_not5_5 (by decide) ?_
  refine zV_iconst (pc := 7) dX10_not5_7 ?_
  refine zV_iconst (pc := 8) dX10_not5_8 ?_
  refine zV_iconst (pc := 9) dX10_not5_9 ?_
  refine zV_iconst (pc := 10) dX10_not5_10 ?_
  refine zV_iconst (pc := 11) dX10_not5_11 ?_
  refine zV_ivp (pc := 12) (ci := 10) dX10_not5_12 klX10_179 mX10_isWord ⟨by decide, rfl⟩ rfl ⟨Nat.zero_le _, Nat.zero_le _⟩ (kX10_w_not hB.1 hT hd hz) (zOb_of rfl) rfl rfl (Nat.le_of_ble_eq_true rfl) ?_
  refine zV_if_eqb (pc := 15) (tgt := 25) dX10_not5_15 (by decide) (fun c_15 => ?_) (fun c_15 => ?_)
  · have e : zNot0 tp z fn s = zCm2 tp z fn s := if_neg c_15
    refine zV_aload_n (pc := 25) (i := 0) dX10_not5_25 rfl rfl ?_
    refine zV_ivs (pc := 26) (ci := 10) dX10_not5_26 klX10_220 mX10_added5 ⟨by decide, rfl⟩ rfl ⟨Nat.zero_le _, Nat.zero_le _⟩ (hK1 M s hB hd hz h25) (zOb_of rfl) rfl rfl (Nat.le_of_ble_eq_true rfl) ?_
    rintro w8 N8 M1 ⟨rfl, d1, o1, f1, v, rfl, r1, v1⟩
    have gf := hf s hz
    refine zV_istore_n (pc := 29) (i := 1) dX10_not5_29 rfl rfl ?_
    try dsimp only [List.set_cons_succ, List.set_cons_zero]
    refine zV_aload_n (pc := 30) (i := 0) dX10_not5_30 rfl rfl ?_
    refine zV_bipush (pc := 31) dX10_not5_31 (by decide) ?_
    refine zV_ivp (pc := 33) (ci := 10) dX10_not5_33 klX10_201 mX10_isSign ⟨by decide, rfl⟩ rfl ⟨Nat.zero_le _, Nat.zero_le _⟩ (kX10_isSign d1 gf.1.1 (by decide)) (zOb_of rfl) rfl rfl (Nat.le_of_ble_eq_true rfl) ?_
    refine zV_if_neb (pc := 36) (tgt := 50) dX10_not5_36 (by decide) (fun c_36 => ?_) (fun c_36 => ?_)
    · have hlv : zlive ((zSum tp z (zTerm tp z fn)) s).2 := ⟨by omega, by omega⟩
      have ef := gf.1.1.live hlv
      have hB1 := hB.fr f1
      have h24 : M1 58 24 = ((zSum tp z (zTerm tp z fn)) s).2.tk := by
        have ht := (d1.2.2 ef).2
        have hw := zwt_r (tp := tp) (s := ((zSum tp z (zTerm tp z fn)) s).2.sa) (e := ((zSum tp z (zTerm tp z fn)) s).2.at) 12 (Nat.le_refl _)
        have hw0 : zwt tp ((zSum tp z (zTerm tp z fn)) s).2.sa ((zSum tp z (zTerm tp z fn)) s).2.at 12 ≤ 11 := by omega
        unfold zMt at ht
        omega
      have hq : ((zSum tp z (zTerm tp z fn)) s).2.tk = 60 ∨ ((zSum tp z (zTerm tp z fn)) s).2.tk = 61 := by omega
      have e1 : zCm2 tp z fn s = (((zSum tp z (zTerm tp z fn)) s).1 ++ ((zSum tp z (zTerm tp z fn)) (zadv tp z ((zSum tp z (zTerm tp z fn)) s).2)).1 ++ [if ((zSum tp z (zTerm tp z fn)) s).2.tk = 60 then -14 else -15], ((zSum tp z (zTerm tp z fn)) (zadv tp z ((zSum tp z (zTerm tp z fn)) s).2)).2) := zit_t hq
      refine zV_aload_n (pc := 50) (i := 0) dX10_not5_50 rfl rfl ?_
      refine zV_get (pc := 51) (j := 24) dX10_not5_51 flX10_154 (zOb_of rfl) rfl h24 ?_
      refine zV_ldc2 (pc := 54) dX10_not5_54 kiX10_92 ?_
      refine zV_lcmp (pc := 57) dX10_not5_57 (by have := gf.1.1.2.2.2.2.1; omega) ?_
      refine zV_if_nec (pc := 58) (tgt := 65) dX10_not5_58 (by decide) (fun c_58 => ?_) (fun c_58 => ?_)
      · refine zV_iconst (pc := 65) dX10_not5_65 ?_
        refine zV_istore_n (pc := 66) (i := 2) dX10_not5_66 rfl rfl ?_
        try dsimp only [List.set_cons_succ, List.set_cons_zero]
        refine zV_aload_n (pc := 67) (i := 0) dX10_not5_67 rfl rfl ?_
        refine zV_ivn (pc := 68) (ci := 10) dX10_not5_68 klX10_176 mX10_next ⟨by decide, rfl⟩ rfl ⟨Nat.zero_le _, Nat.zero_le _⟩ (kX10_next hB1.1 hT (s := ((zSum tp z (zTerm tp z fn)) s).2) (by have := gf.1.1.1; omega) (d1.here gf.1.1 hlv) ef (d1.ok ef)) (zOb_of rfl) rfl rfl (Nat.le_of_ble_eq_true rfl) (fun M2 q2 => ?_)
        have ga := (zgx_ad hT gf.1.1 hlv).1
        have f2 : zFr zNG M1 M2 := q2.2.mono (fun a j y => zNF_G y)
        refine zV_aload_n (pc := 71) (i := 0) dX10_not5_71 rfl rfl ?_
        refine zV_ivs (pc := 72) (ci := 10) dX10_not5_72 klX10_220 mX10_added5 ⟨by decide, rfl⟩ rfl ⟨Nat.zero_le _, Nat.zero_le _⟩ (hK1 M2 (zadv tp z ((zSum tp z (zTerm tp z fn)) s).2) (hB1.fr f2) q2.1 ga.1 ((q2.2 _ _ (by unfold zNF; omega)).trans o1)) (zOb_of rfl) rfl rfl (Nat.le_of_ble_eq_true rfl) ?_
        rintro w7 N7 M3 ⟨rfl, d3, o3, f3, u, rfl, r3, v3⟩
        refine zV_istore_n (pc := 75) (i := 3) dX10_not5_75 rfl rfl ?_
        try dsimp only [List.set_cons_succ, List.set_cons_zero]
        refine zV_iload_n (pc := 76) (i := 2) dX10_not5_76 rfl rfl ?_
        refine zV_if_eq (pc := 77) (tgt := 88) dX10_not5_77 (by decide) (by omega) (fun c_77 => ?_) (fun c_77 => ?_)
        · refine zV_iload_n (pc := 88) (i := 1) dX10_not5_88 rfl rfl ?_
          refine zV_iload_n (pc := 89) (i := 3) dX10_not5_89 rfl rfl ?_
          refine zV_icmp_ne (pc := 90) (tgt := 97) dX10_not5_90 (by decide) (by omega) (fun c_90 => ?_) (fun c_90 => ?_)
          · refine zV_iconst (pc := 97) dX10_not5_97 ?_
            refine zV_iret (pc := 98) dX10_not5_98 trivial ⟨Nat.zero_le _, Nat.zero_le _⟩ ?_
            rw [e, e1]
            first
              | (have ev : (1 : Int) = zopr (-14) v u := (zopr_14.trans (zb_t (by omega))).symm
                 have eo : (if ((zSum tp z (zTerm tp z fn)) s).2.tk = 60 then (-14 : Int) else -15) = -14 := if_pos (by omega)
                 rw [eo]
                 exact ⟨rfl, d3, o3, (f1.tr f2).tr f3, 1, rfl, by decide, fun y => ev ▸ (zvl_2 (v1 ef) (v3 y) (by decide))⟩)
              | (have ev : (0 : Int) = zopr (-14) v u := (zopr_14.trans (zb_f (by omega))).symm
                 have eo : (if ((zSum tp z (zTerm tp z fn)) s).2.tk = 60 then (-14 : Int) else -15) = -14 := if_pos (by omega)
                 rw [eo]
                 exact ⟨rfl, d3, o3, (f1.tr f2).tr f3, 0, rfl, by decide, fun y => ev ▸ (zvl_2 (v1 ef) (v3 y) (by decide))⟩)
              | (have ev : (1 : Int) = zopr (-15) v u := (zopr_15.trans (zb_t (by omega))).symm
                 have eo : (if ((zSum tp z (zTerm tp z fn)) s).2.tk = 60 then (-14 : Int) else -15) = -15 := if_neg (by omega)
                 rw [eo]
                 exact ⟨rfl, d3, o3, (f1.tr f2).tr f3, 1, rfl, by decide, fun y => ev ▸ (zvl_2 (v1 ef) (v3 y) (by decide))⟩)
              | (have ev : (0 : Int) = zopr (-15) v u := (zopr_15.trans (zb_f (by omega))).symm
                 have eo : (if ((zSum tp z (zTerm tp z fn)) s).2.tk = 60 then (-14 : Int) else -15) = -15 := if_neg (by omega)
                 rw [eo]
                 exact ⟨rfl, d3, o3, (f1.tr f2).tr f3, 0, rfl, by decide, fun y => ev ▸ (zvl_2 (v1 ef) (v3 y) (by decide))⟩)
          · refine zV_iconst (pc := 93) dX10_not5_93 ?_
            refine zV_goto (pc := 94) (tgt := 98) dX10_not5_94 (by decide) ?_
            refine zV_iret (pc := 98) dX10_not5_98 trivial ⟨Nat.zero_le _, Nat.zero_le _⟩ ?_
            rw [e, e1]
            first
              | (have ev : (1 : Int) = zopr (-14) v u := (zopr_14.trans (zb_t (by omega))).symm
                 have eo : (if ((zSum tp z (zTerm tp z fn)) s).2.tk = 60 then (-14 : Int) else -15) = -14 := if_pos (by omega)
                 rw [eo]
                 exact ⟨rfl, d3, o3, (f1.tr f2).tr f3, 1, rfl, by decide, fun y => ev ▸ (zvl_2 (v1 ef) (v3 y) (by decide))⟩)
              | (have ev : (0 : Int) = zopr (-14) v u := (zopr_14.trans (zb_f (by omega))).symm
                 have eo : (if ((zSum tp z (zTerm tp z fn)) s).2.tk = 60 then (-14 : Int) else -15) = -14 := if_pos (by omega)
                 rw [eo]
                 exact ⟨rfl, d3, o3, (f1.tr f2).tr f3, 0, rfl, by decide, fun y => ev ▸ (zvl_2 (v1 ef) (v3 y) (by decide))⟩)
              | (have ev : (1 : Int) = zopr (-15) v u := (zopr_15.trans (zb_t (by omega))).symm
                 have eo : (if ((zSum tp z (zTerm tp z fn)) s).2.tk = 60 then (-14 : Int) else -15) = -15 := if_neg (by omega)
                 rw [eo]
                 exact ⟨rfl, d3, o3, (f1.tr f2).tr f3, 1, rfl, by decide, fun y => ev ▸ (zvl_2 (v1 ef) (v3 y) (by decide))⟩)
              | (have ev : (0 : Int) = zopr (-15) v u := (zopr_15.trans (zb_f (by omega))).symm
                 have eo : (if ((zSum tp z (zTerm tp z fn)) s).2.tk = 60 then (-14 : Int) else -15) = -15 := if_neg (by omega)
                 rw [eo]
                 exact ⟨rfl, d3, o3, (f1.tr f2).tr f3, 0, rfl, by decide, fun y => ev ▸ (zvl_2 (v1 ef) (v3 y) (by decide))⟩)
        · refine zV_iload_n (pc := 80) (i := 1) dX10_not5_80 rfl rfl ?_
          refine zV_iload_n (pc := 81) (i := 3) dX10_not5_81 rfl rfl ?_
          refine zV_icmp_ge (pc := 82) (tgt := 97) dX10_not5_82 (by decide) (by omega) (fun c_82 => ?_) (fun c_82 => ?_)
          · refine zV_iconst (pc := 97) dX10_not5_97 ?_
            refine zV_iret (pc := 98) dX10_not5_98 trivial ⟨Nat.zero_le _, Nat.zero_le _⟩ ?_
            rw [e, e1]
            first
              | (have ev : (1 : Int) = zopr (-14) v u := (zopr_14.trans (zb_t (by omega))).symm
                 have eo : (if ((zSum tp z (zTerm tp z fn)) s).2.tk = 60 then (-14 : Int) else -15) = -14 := if_pos (by omega)
                 rw [eo]
                 exact ⟨rfl, d3, o3, (f1.tr f2).tr f3, 1, rfl, by decide, fun y => ev ▸ (zvl_2 (v1 ef) (v3 y) (by decide))⟩)
              | (have ev : (0 : Int) = zopr (-14) v u := (zopr_14.trans (zb_f (by omega))).symm
                 have eo : (if ((zSum tp z (zTerm tp z fn)) s).2.tk = 60 then (-14 : Int) else -15) = -14 := if_pos (by omega)
                 rw [eo]
                 exact ⟨rfl, d3, o3, (f1.tr f2).tr f3, 0, rfl, by decide, fun y => ev ▸ (zvl_2 (v1 ef) (v3 y) (by decide))⟩)
              | (have ev : (1 : Int) = zopr (-15) v u := (zopr_15.trans (zb_t (by omega))).symm
                 have eo : (if ((zSum tp z (zTerm tp z fn)) s).2.tk = 60 then (-14 : Int) else -15) = -15 := if_neg (by omega)
                 rw [eo]
                 exact ⟨rfl, d3, o3, (f1.tr f2).tr f3, 1, rfl, by decide, fun y => ev ▸ (zvl_2 (v1 ef) (v3 y) (by decide))⟩)
              | (have ev : (0 : Int) = zopr (-15) v u := (zopr_15.trans (zb_f (by omega))).symm
                 have eo : (if ((zSum tp z (zTerm tp z fn)) s).2.tk = 60 then (-14 : Int) else -15) = -15 := if_neg (by omega)
                 rw [eo]
                 exact ⟨rfl, d3, o3, (f1.tr f2).tr f3, 0, rfl, by decide, fun y => ev ▸ (zvl_2 (v1 ef) (v3 y) (by decide))⟩)
          · refine zV_goto (pc := 85) (tgt := 93) dX10_not5_85 (by decide) ?_
            refine zV_iconst (pc := 93) dX10_not5_93 ?_
            refine zV_goto (pc := 94) (tgt := 98) dX10_not5_94 (by decide) ?_
            refine zV_iret (pc := 98) dX10_not5_98 trivial ⟨Nat.zero_le _, Nat.zero_le _⟩ ?_
            rw [e, e1]
            first
              | (have ev : (1 : Int) = zopr (-14) v u := (zopr_14.trans (zb_t (by omega))).symm
                 have eo : (if ((zSum tp z (zTerm tp z fn)) s).2.tk = 60 then (-14 : Int) else -15) = -14 := if_pos (by omega)
                 rw [eo]
                 exact ⟨rfl, d3, o3, (f1.tr f2).tr f3, 1, rfl, by decide, fun y => ev ▸ (zvl_2 (v1 ef) (v3 y) (by decide))⟩)
              | (have ev : (0 : Int) = zopr (-14) v u := (zopr_14.trans (zb_f (by omega))).symm
                 have eo : (if ((zSum tp z (zTerm tp z fn)) s).2.tk = 60 then (-14 : Int) else -15) = -14 := if_pos (by omega)
                 rw [eo]
                 exact ⟨rfl, d3, o3, (f1.tr f2).tr f3, 0, rfl, by decide, fun y => ev ▸ (zvl_2 (v1 ef) (v3 y) (by decide))⟩)
              | (have ev : (1 : Int) = zopr (-15) v u := (zopr_15.trans (zb_t (by omega))).symm
                 have eo : (if ((zSum tp z (zTerm tp z fn)) s).2.tk = 60 then (-14 : Int) else -15) = -15 := if_neg (by omega)
                 rw [eo]
                 exact ⟨rfl, d3, o3, (f1.tr f2).tr f3, 1, rfl, by decide, fun y => ev ▸ (zvl_2 (v1 ef) (v3 y) (by decide))⟩)
              | (have ev : (0 : Int) = zopr (-15) v u := (zopr_15.trans (zb_f (by omega))).symm
                 have eo : (if ((zSum tp z (zTerm tp z fn)) s).2.tk = 60 then (-14 : Int) else -15) = -15 := if_neg (by omega)
                 rw [eo]
                 exact ⟨rfl, d3, o3, (f1.tr f2).tr f3, 0, rfl, by decide, fun y => ev ▸ (zvl_2 (v1 ef) (v3 y) (by decide))⟩)
      · refine zV_iconst (pc := 61) dX10_not5_61 ?_
        refine zV_goto (pc := 62) (tgt := 66) dX10_not5_62 (by decide) ?_
        refine zV_istore_n (pc := 66) (i := 2) dX10_not5_66 rfl rfl ?_
        try dsimp only [List.set_cons_succ, List.set_cons_zero]
        refine zV_aload_n (pc := 67) (i := 0) dX10_not5_67 rfl rfl ?_
        refine zV_ivn (pc := 68) (ci := 10) dX10_not5_68 klX10_176 mX10_next ⟨by decide, rfl⟩ rfl ⟨Nat.zero_le _, Nat.zero_le _⟩ (kX10_next hB1.1 hT (s := ((zSum tp z (zTerm tp z fn)) s).2) (by have := gf.1.1.1; omega) (d1.here gf.1.1 hlv) ef (d1.ok ef)) (zOb_of rfl) rfl rfl (Nat.le_of_ble_eq_true rfl) (fun M2 q2 => ?_)
        have ga := (zgx_ad hT gf.1.1 hlv).1
        have f2 : zFr zNG M1 M2 := q2.2.mono (fun a j y => zNF_G y)
        refine zV_aload_n (pc := 71) (i := 0) dX10_not5_71 rfl rfl ?_
        refine zV_ivs (pc := 72) (ci := 10) dX10_not5_72 klX10_220 mX10_added5 ⟨by decide, rfl⟩ rfl ⟨Nat.zero_le _, Nat.zero_le _⟩ (hK1 M2 (zadv tp z ((zSum tp z (zTerm tp z fn)) s).2) (hB1.fr f2) q2.1 ga.1 ((q2.2 _ _ (by unfold zNF; omega)).trans o1)) (zOb_of rfl) rfl rfl (Nat.le_of_ble_eq_true rfl) ?_
        rintro w7 N7 M3 ⟨rfl, d3, o3, f3, u, rfl, r3, v3⟩
        refine zV_istore_n (pc := 75) (i := 3) dX10_not5_75 rfl rfl ?_
        try dsimp only [List.set_cons_succ, List.set_cons_zero]
        refine zV_iload_n (pc := 76) (i := 2) dX10_not5_76 rfl rfl ?_
        refine zV_if_eq (pc := 77) (tgt := 88) dX10_not5_77 (by decide) (by omega) (fun c_77 => ?_) (fun c_77 => ?_)
        · refine zV_iload_n (pc := 88) (i := 1) dX10_not5_88 rfl rfl ?_
          refine zV_iload_n (pc := 89) (i := 3) dX10_not5_89 rfl rfl ?_
          refine zV_icmp_ne (pc := 90) (tgt := 97) dX10_not5_90 (by decide) (by omega) (fun c_90 => ?_) (fun c_90 => ?_)
          · refine zV_iconst (pc := 97) dX10_not5_97 ?_
            refine zV_iret (pc := 98) dX10_not5_98 trivial ⟨Nat.zero_le _, Nat.zero_le _⟩ ?_
            rw [e, e1]
            first
              | (have ev : (1 : Int) = zopr (-14) v u := (zopr_14.trans (zb_t (by omega))).symm
                 have eo : (if ((zSum tp z (zTerm tp z fn)) s).2.tk = 60 then (-14 : Int) else -15) = -14 := if_pos (by omega)
                 rw [eo]
                 exact ⟨rfl, d3, o3, (f1.tr f2).tr f3, 1, rfl, by decide, fun y => ev ▸ (zvl_2 (v1 ef) (v3 y) (by decide))⟩)
              | (have ev : (0 : Int) = zopr (-14) v u := (zopr_14.trans (zb_f (by omega))).symm
                 have eo : (if ((zSum tp z (zTerm tp z fn)) s).2.tk = 60 then (-14 : Int) else -15) = -14 := if_pos (by omega)
                 rw [eo]
                 exact ⟨rfl, d3, o3, (f1.tr f2).tr f3, 0, rfl, by decide, fun y => ev ▸ (zvl_2 (v1 ef) (v3 y) (by decide))⟩)
              | (have ev : (1 : Int) = zopr (-15) v u := (zopr_15.trans (zb_t (by omega))).symm
                 have eo : (if ((zSum tp z (zTerm tp z fn)) s).2.tk = 60 then (-14 : Int) else -15) = -15 := if_neg (by omega)
                 rw [eo]
                 exact ⟨rfl, d3, o3, (f1.tr f2).tr f3, 1, rfl, by decide, fun y => ev ▸ (zvl_2 (v1 ef) (v3 y) (by decide))⟩)
              | (have ev : (0 : Int) = zopr (-15) v u := (zopr_15.trans (zb_f (by omega))).symm
                 have eo : (if ((zSum tp z (zTerm tp z fn)) s).2.tk = 60 then (-14 : Int) else -15) = -15 := if_neg (by omega)
                 rw [eo]
                 exact ⟨rfl, d3, o3, (f1.tr f2).tr f3, 0, rfl, by decide, fun y => ev ▸ (zvl_2 (v1 ef) (v3 y) (by decide))⟩)
          · refine zV_iconst (pc := 93) dX10_not5_93 ?_
            refine zV_goto (pc := 94) (tgt := 98) dX10_not5_94 (by decide) ?_
            refine zV_iret (pc := 98) dX10_not5_98 trivial ⟨Nat.zero_le _, Nat.zero_le _⟩ ?_
            rw [e, e1]
            first
              | (have ev : (1 : Int) = zopr (-14) v u := (zopr_14.trans (zb_t (by omega))).symm
                 have eo : (if ((zSum tp z (zTerm tp z fn)) s).2.tk = 60 then (-14 : Int) else -15) = -14 := if_pos (by omega)
                 rw [eo]
                 exact ⟨rfl, d3, o3, (f1.tr f2).tr f3, 1, rfl, by decide, fun y => ev ▸ (zvl_2 (v1 ef) (v3 y) (by decide))⟩)
              | (have ev : (0 : Int) = zopr (-14) v u := (zopr_14.trans (zb_f (by omega))).symm
                 have eo : (if ((zSum tp z (zTerm tp z fn)) s).2.tk = 60 then (-14 : Int) else -15) = -14 := if_pos (by omega)
                 rw [eo]
                 exact ⟨rfl, d3, o3, (f1.tr f2).tr f3, 0, rfl, by decide, fun y => ev ▸ (zvl_2 (v1 ef) (v3 y) (by decide))⟩)
              | (have ev : (1 : Int) = zopr (-15) v u := (zopr_15.trans (zb_t (by omega))).symm
                 have eo : (if ((zSum tp z (zTerm tp z fn)) s).2.tk = 60 then (-14 : Int) else -15) = -15 := if_neg (by omega)
                 rw [eo]
                 exact ⟨rfl, d3, o3, (f1.tr f2).tr f3, 1, rfl, by decide, fun y => ev ▸ (zvl_2 (v1 ef) (v3 y) (by decide))⟩)
              | (have ev : (0 : Int) = zopr (-15) v u := (zopr_15.trans (zb_f (by omega))).symm
                 have eo : (if ((zSum tp z (zTerm tp z fn)) s).2.tk = 60 then (-14 : Int) else -15) = -15 := if_neg (by omega)
                 rw [eo]
                 exact ⟨rfl, d3, o3, (f1.tr f2).tr f3, 0, rfl, by decide, fun y => ev ▸ (zvl_2 (v1 ef) (v3 y) (by decide))⟩)
        · refine zV_iload_n (pc := 80) (i := 1) dX10_not5_80 rfl rfl ?_
          refine zV_iload_n (pc := 81) (i := 3) dX10_not5_81 rfl rfl ?_
          refine zV_icmp_ge (pc := 82) (tgt := 97) dX10_not5_82 (by decide) (by omega) (fun c_82 => ?_) (fun c_82 => ?_)
          · refine zV_iconst (pc := 97) dX10_not5_97 ?_
            refine zV_iret (pc := 98) dX10_not5_98 trivial ⟨Nat.zero_le _, Nat.zero_le _⟩ ?_
            rw [e, e1]
            first
              | (have ev : (1 : Int) = zopr (-14) v u := (zopr_14.trans (zb_t (by omega))).symm
                 have eo : (if ((zSum tp z (zTerm tp z fn)) s).2.tk = 60 then (-14 : Int) else -15) = -14 := if_pos (by omega)
                 rw [eo]
                 exact ⟨rfl, d3, o3, (f1.tr f2).tr f3, 1, rfl, by decide, fun y => ev ▸ (zvl_2 (v1 ef) (v3 y) (by decide))⟩)
              | (have ev : (0 : Int) = zopr (-14) v u := (zopr_14.trans (zb_f (by omega))).symm
                 have eo : (if ((zSum tp z (zTerm tp z fn)) s).2.tk = 60 then (-14 : Int) else -15) = -14 := if_pos (by omega)
                 rw [eo]
                 exact ⟨rfl, d3, o3, (f1.tr f2).tr f3, 0, rfl, by decide, fun y => ev ▸ (zvl_2 (v1 ef) (v3 y) (by decide))⟩)
              | (have ev : (1 : Int) = zopr (-15) v u := (zopr_15.trans (zb_t (by omega))).symm
                 have eo : (if ((zSum tp z (zTerm tp z fn)) s).2.tk = 60 then (-14 : Int) else -15) = -15 := if_neg (by omega)
                 rw [eo]
                 exact ⟨rfl, d3, o3, (f1.tr f2).tr f3, 1, rfl, by decide, fun y => ev ▸ (zvl_2 (v1 ef) (v3 y) (by decide))⟩)
              | (have ev : (0 : Int) = zopr (-15) v u := (zopr_15.trans (zb_f (by omega))).symm
                 have eo : (if ((zSum tp z (zTerm tp z fn)) s).2.tk = 60 then (-14 : Int) else -15) = -15 := if_neg (by omega)
                 rw [eo]
                 exact ⟨rfl, d3, o3, (f1.tr f2).tr f3, 0, rfl, by decide, fun y => ev ▸ (zvl_2 (v1 ef) (v3 y) (by decide))⟩)
          · refine zV_goto (pc := 85) (tgt := 93) dX10_not5_85 (by decide) ?_
            refine zV_iconst (pc := 93) dX10_not5_93 ?_
            refine zV_goto (pc := 94) (tgt := 98) dX10_not5_94 (by decide) ?_
            refine zV_iret (pc := 98) dX10_not5_98 trivial ⟨Nat.zero_le _, Nat.zero_le _⟩ ?_
            rw [e, e1]
            first
              | (have ev : (1 : Int) = zopr (-14) v u := (zopr_14.trans (zb_t (by omega))).symm
                 have eo : (if ((zSum tp z (zTerm tp z fn)) s).2.tk = 60 then (-14 : Int) else -15) = -14 := if_pos (by omega)
                 rw [eo]
                 exact ⟨rfl, d3, o3, (f1.tr f2).tr f3, 1, rfl, by decide, fun y => ev ▸ (zvl_2 (v1 ef) (v3 y) (by decide))⟩)
              | (have ev : (0 : Int) = zopr (-14) v u := (zopr_14.trans (zb_f (by omega))).symm
                 have eo : (if ((zSum tp z (zTerm tp z fn)) s).2.tk = 60 then (-14 : Int) else -15) = -14 := if_pos (by omega)
                 rw [eo]
                 exact ⟨rfl, d3, o3, (f1.tr f2).tr f3, 0, rfl, by decide, fun y => ev ▸ (zvl_2 (v1 ef) (v3 y) (by decide))⟩)
              | (have ev : (1 : Int) = zopr (-15) v u := (zopr_15.trans (zb_t (by omega))).symm
                 have eo : (if ((zSum tp z (zTerm tp z fn)) s).2.tk = 60 then (-14 : Int) else -15) = -15 := if_neg (by omega)
                 rw [eo]
                 exact ⟨rfl, d3, o3, (f1.tr f2).tr f3, 1, rfl, by decide, fun y => ev ▸ (zvl_2 (v1 ef) (v3 y) (by decide))⟩)
              | (have ev : (0 : Int) = zopr (-15) v u := (zopr_15.trans (zb_f (by omega))).symm
                 have eo : (if ((zSum tp z (zTerm tp z fn)) s).2.tk = 60 then (-14 : Int) else -15) = -15 := if_neg (by omega)
                 rw [eo]
                 exact ⟨rfl, d3, o3, (f1.tr f2).tr f3, 0, rfl, by decide, fun y => ev ▸ (zvl_2 (v1 ef) (v3 y) (by decide))⟩)
    · refine zV_aload_n (pc := 39) (i := 0) dX10_not5_39 rfl rfl ?_
      refine zV_bipush (pc := 40) dX10_not5_40 (by decide) ?_
      refine zV_ivp (pc := 42) (ci := 10) dX10_not5_42 klX10_201 mX10_isSign ⟨by decide, rfl⟩ rfl ⟨Nat.zero_le _, Nat.zero_le _⟩ (kX10_isSign d1 gf.1.1 (by decide)) (zOb_of rfl) rfl rfl (Nat.le_of_ble_eq_true rfl) ?_
      refine zV_if_neb (pc := 45) (tgt := 50) dX10_not5_45 (by decide) (fun c_45 => ?_) (fun c_45 => ?_)
      · have hlv : zlive ((zSum tp z (zTerm tp z fn)) s).2 := ⟨by omega, by omega⟩
        have ef := gf.1.1.live hlv
        have hB1 := hB.fr f1
        have h24 : M1 58 24 = ((zSum tp z (zTerm tp z fn)) s).2.tk := by
          have ht := (d1.2.2 ef).2
          have hw := zwt_r (tp := tp) (s := ((zSum tp z (zTerm tp z fn)) s).2.sa) (e := ((zSum tp z (zTerm tp z fn)) s).2.at) 12 (Nat.le_refl _)
          have hw0 : zwt tp ((zSum tp z (zTerm tp z fn)) s).2.sa ((zSum tp z (zTerm tp z fn)) s).2.at 12 ≤ 11 := by omega
          unfold zMt at ht
          omega
        have hq : ((zSum tp z (zTerm tp z fn)) s).2.tk = 60 ∨ ((zSum tp z (zTerm tp z fn)) s).2.tk = 61 := by omega
        have e1 : zCm2 tp z fn s = (((zSum tp z (zTerm tp z fn)) s).1 ++ ((zSum tp z (zTerm tp z fn)) (zadv tp z ((zSum tp z (zTerm tp z fn)) s).2)).1 ++ [if ((zSum tp z (zTerm tp z fn)) s).2.tk = 60 then -14 else -15], ((zSum tp z (zTerm tp z fn)) (zadv tp z ((zSum tp z (zTerm tp z fn)) s).2)).2) := zit_t hq
        refine zV_aload_n (pc := 50) (i := 0) dX10_not5_50 rfl rfl ?_
        refine zV_get (pc := 51) (j := 24) dX10_not5_51 flX10_154 (zOb_of rfl) rfl h24 ?_
        refine zV_ldc2 (pc := 54) dX10_not5_54 kiX10_92 ?_
        refine zV_lcmp (pc := 57) dX10_not5_57 (by have := gf.1.1.2.2.2.2.1; omega) ?_
        refine zV_if_nec (pc := 58) (tgt := 65) dX10_not5_58 (by decide) (fun c_58 => ?_) (fun c_58 => ?_)
        · refine zV_iconst (pc := 65) dX10_not5_65 ?_
          refine zV_istore_n (pc := 66) (i := 2) dX10_not5_66 rfl rfl ?_
          try dsimp only [List.set_cons_succ, List.set_cons_zero]
          refine zV_aload_n (pc := 67) (i := 0) dX10_not5_67 rfl rfl ?_
          refine zV_ivn (pc := 68) (ci := 10) dX10_not5_68 klX10_176 mX10_next ⟨by decide, rfl⟩ rfl ⟨Nat.zero_le _, Nat.zero_le _⟩ (kX10_next hB1.1 hT (s := ((zSum tp z (zTerm tp z fn)) s).2) (by have := gf.1.1.1; omega) (d1.here gf.1.1 hlv) ef (d1.ok ef)) (zOb_of rfl) rfl rfl (Nat.le_of_ble_eq_true rfl) (fun M2 q2 => ?_)
          have ga := (zgx_ad hT gf.1.1 hlv).1
          have f2 : zFr zNG M1 M2 := q2.2.mono (fun a j y => zNF_G y)
          refine zV_aload_n (pc := 71) (i := 0) dX10_not5_71 rfl rfl ?_
          refine zV_ivs (pc := 72) (ci := 10) dX10_not5_72 klX10_220 mX10_added5 ⟨by decide, rfl⟩ rfl ⟨Nat.zero_le _, Nat.zero_le _⟩ (hK1 M2 (zadv tp z ((zSum tp z (zTerm tp z fn)) s).2) (hB1.fr f2) q2.1 ga.1 ((q2.2 _ _ (by unfold zNF; omega)).trans o1)) (zOb_of rfl) rfl rfl (Nat.le_of_ble_eq_true rfl) ?_
          rintro w7 N7 M3 ⟨rfl, d3, o3, f3, u, rfl, r3, v3⟩
          refine zV_istore_n (pc := 75) (i := 3) dX10_not5_75 rfl rfl ?_
          try dsimp only [List.set_cons_succ, List.set_cons_zero]
          refine zV_iload_n (pc := 76) (i := 2) dX10_not5_76 rfl rfl ?_
          refine zV_if_eq (pc := 77) (tgt := 88) dX10_not5_77 (by decide) (by omega) (fun c_77 => ?_) (fun c_77 => ?_)
          · refine zV_iload_n (pc := 88) (i := 1) dX10_not5_88 rfl rfl ?_
            refine zV_iload_n (pc := 89) (i := 3) dX10_not5_89 rfl rfl ?_
            refine zV_icmp_ne (pc := 90) (tgt := 97) dX10_not5_90 (by decide) (by omega) (fun c_90 => ?_) (fun c_90 => ?_)
            · refine zV_iconst (pc := 97) dX10_not5_97 ?_
              refine zV_iret (pc := 98) dX10_not5_98 trivial ⟨Nat.zero_le _, Nat.zero_le _⟩ ?_
              rw [e, e1]
              first
                | (have ev : (1 : Int) = zopr (-14) v u := (zopr_14.trans (zb_t (by omega))).symm
                   have eo : (if ((zSum tp z (zTerm tp z fn)) s).2.tk = 60 then (-14 : Int) else -15) = -14 := if_pos (by omega)
                   rw [eo]
                   exact ⟨rfl, d3, o3, (f1.tr f2).tr f3, 1, rfl, by decide, fun y => ev ▸ (zvl_2 (v1 ef) (v3 y) (by decide))⟩)
                | (have ev : (0 : Int) = zopr (-14) v u := (zopr_14.trans (zb_f (by omega))).symm
                   have eo : (if ((zSum tp z (zTerm tp z fn)) s).2.tk = 60 then (-14 : Int) else -15) = -14 := if_pos (by omega)
                   rw [eo]
                   exact ⟨rfl, d3, o3, (f1.tr f2).tr f3, 0, rfl, by decide, fun y => ev ▸ (zvl_2 (v1 ef) (v3 y) (by decide))⟩)
                | (have ev : (1 : Int) = zopr (-15) v u := (zopr_15.trans (zb_t (by omega))).symm
                   have eo : (if ((zSum tp z (zTerm tp z fn)) s).2.tk = 60 then (-14 : Int) else -15) = -15 := if_neg (by omega)
                   rw [eo]
                   exact ⟨rfl, d3, o3, (f1.tr f2).tr f3, 1, rfl, by decide, fun y => ev ▸ (zvl_2 (v1 ef) (v3 y) (by decide))⟩)
                | (have ev : (0 : Int) = zopr (-15) v u := (zopr_15.trans (zb_f (by omega))).symm
                   have eo : (if ((zSum tp z (zTerm tp z fn)) s).2.tk = 60 then (-14 : Int) else -15) = -15 := if_neg (by omega)
                   rw [eo]
                   exact ⟨rfl, d3, o3, (f1.tr f2).tr f3, 0, rfl, by decide, fun y => ev ▸ (zvl_2 (v1 ef) (v3 y) (by decide))⟩)
            · refine zV_iconst (pc := 93) dX10_not5_93 ?_
              refine zV_goto (pc := 94) (tgt := 98) dX10_not5_94 (by decide) ?_
              refine zV_iret (pc := 98) dX10_not5_98 trivial ⟨Nat.zero_le _, Nat.zero_le _⟩ ?_
              rw [e, e1]
              first
                | (have ev : (1 : Int) = zopr (-14) v u := (zopr_14.trans (zb_t (by omega))).symm
                   have eo : (if ((zSum tp z (zTerm tp z fn)) s).2.tk = 60 then (-14 : Int) else -15) = -14 := if_pos (by omega)
                   rw [eo]
                   exact ⟨rfl, d3, o3, (f1.tr f2).tr f3, 1, rfl, by decide, fun y => ev ▸ (zvl_2 (v1 ef) (v3 y) (by decide))⟩)
                | (have ev : (0 : Int) = zopr (-14) v u := (zopr_14.trans (zb_f (by omega))).symm
                   have eo : (if ((zSum tp z (zTerm tp z fn)) s).2.tk = 60 then (-14 : Int) else -15) = -14 := if_pos (by omega)
                   rw [eo]
                   exact ⟨rfl, d3, o3, (f1.tr f2).tr f3, 0, rfl, by decide, fun y => ev ▸ (zvl_2 (v1 ef) (v3 y) (by decide))⟩)
                | (have ev : (1 : Int) = zopr (-15) v u := (zopr_15.trans (zb_t (by omega))).symm
                   have eo : (if ((zSum tp z (zTerm tp z fn)) s).2.tk = 60 then (-14 : Int) else -15) = -15 := if_neg (by omega)
                   rw [eo]
                   exact ⟨rfl, d3, o3, (f1.tr f2).tr f3, 1, rfl, by decide, fun y => ev ▸ (zvl_2 (v1 ef) (v3 y) (by decide))⟩)
                | (have ev : (0 : Int) = zopr (-15) v u := (zopr_15.trans (zb_f (by omega))).symm
                   have eo : (if ((zSum tp z (zTerm tp z fn)) s).2.tk = 60 then (-14 : Int) else -15) = -15 := if_neg (by omega)
                   rw [eo]
                   exact ⟨rfl, d3, o3, (f1.tr f2).tr f3, 0, rfl, by decide, fun y => ev ▸ (zvl_2 (v1 ef) (v3 y) (by decide))⟩)
          · refine zV_iload_n (pc := 80) (i := 1) dX10_not5_80 rfl rfl ?_
            refine zV_iload_n (pc := 81) (i := 3) dX10_not5_81 rfl rfl ?_
            refine zV_icmp_ge (pc := 82) (tgt := 97) dX10_not5_82 (by decide) (by omega) (fun c_82 => ?_) (fun c_82 => ?_)
            · refine zV_iconst (pc := 97) dX10_not5_97 ?_
              refine zV_iret (pc := 98) dX10_not5_98 trivial ⟨Nat.zero_le _, Nat.zero_le _⟩ ?_
              rw [e, e1]
              first
                | (have ev : (1 : Int) = zopr (-14) v u := (zopr_14.trans (zb_t (by omega))).symm
                   have eo : (if ((zSum tp z (zTerm tp z fn)) s).2.tk = 60 then (-14 : Int) else -15) = -14 := if_pos (by omega)
                   rw [eo]
                   exact ⟨rfl, d3, o3, (f1.tr f2).tr f3, 1, rfl, by decide, fun y => ev ▸ (zvl_2 (v1 ef) (v3 y) (by decide))⟩)
                | (have ev : (0 : Int) = zopr (-14) v u := (zopr_14.trans (zb_f (by omega))).symm
                   have eo : (if ((zSum tp z (zTerm tp z fn)) s).2.tk = 60 then (-14 : Int) else -15) = -14 := if_pos (by omega)
                   rw [eo]
                   exact ⟨rfl, d3, o3, (f1.tr f2).tr f3, 0, rfl, by decide, fun y => ev ▸ (zvl_2 (v1 ef) (v3 y) (by decide))⟩)
                | (have ev : (1 : Int) = zopr (-15) v u := (zopr_15.trans (zb_t (by omega))).symm
                   have eo : (if ((zSum tp z (zTerm tp z fn)) s).2.tk = 60 then (-14 : Int) else -15) = -15 := if_neg (by omega)
                   rw [eo]
                   exact ⟨rfl, d3, o3, (f1.tr f2).tr f3, 1, rfl, by decide, fun y => ev ▸ (zvl_2 (v1 ef) (v3 y) (by decide))⟩)
                | (have ev : (0 : Int) = zopr (-15) v u := (zopr_15.trans (zb_f (by omega))).symm
                   have eo : (if ((zSum tp z (zTerm tp z fn)) s).2.tk = 60 then (-14 : Int) else -15) = -15 := if_neg (by omega)
                   rw [eo]
                   exact ⟨rfl, d3, o3, (f1.tr f2).tr f3, 0, rfl, by decide, fun y => ev ▸ (zvl_2 (v1 ef) (v3 y) (by decide))⟩)
            · refine zV_goto (pc := 85) (tgt := 93) dX10_not5_85 (by decide) ?_
              refine zV_iconst (pc := 93) dX10_not5_93 ?_
              refine zV_goto (pc := 94) (tgt := 98) dX10_not5_94 (by decide) ?_
              refine zV_iret (pc := 98) dX10_not5_98 trivial ⟨Nat.zero_le _, Nat.zero_le _⟩ ?_
              rw [e, e1]
              first
                | (have ev : (1 : Int) = zopr (-14) v u := (zopr_14.trans (zb_t (by omega))).symm
                   have eo : (if ((zSum tp z (zTerm tp z fn)) s).2.tk = 60 then (-14 : Int) else -15) = -14 := if_pos (by omega)
                   rw [eo]
                   exact ⟨rfl, d3, o3, (f1.tr f2).tr f3, 1, rfl, by decide, fun y => ev ▸ (zvl_2 (v1 ef) (v3 y) (by decide))⟩)
                | (have ev : (0 : Int) = zopr (-14) v u := (zopr_14.trans (zb_f (by omega))).symm
                   have eo : (if ((zSum tp z (zTerm tp z fn)) s).2.tk = 60 then (-14 : Int) else -15) = -14 := if_pos (by omega)
                   rw [eo]
                   exact ⟨rfl, d3, o3, (f1.tr f2).tr f3, 0, rfl, by decide, fun y => ev ▸ (zvl_2 (v1 ef) (v3 y) (by decide))⟩)
                | (have ev : (1 : Int) = zopr (-15) v u := (zopr_15.trans (zb_t (by omega))).symm
                   have eo : (if ((zSum tp z (zTerm tp z fn)) s).2.tk = 60 then (-14 : Int) else -15) = -15 := if_neg (by omega)
                   rw [eo]
                   exact ⟨rfl, d3, o3, (f1.tr f2).tr f3, 1, rfl, by decide, fun y => ev ▸ (zvl_2 (v1 ef) (v3 y) (by decide))⟩)
                | (have ev : (0 : Int) = zopr (-15) v u := (zopr_15.trans (zb_f (by omega))).symm
                   have eo : (if ((zSum tp z (zTerm tp z fn)) s).2.tk = 60 then (-14 : Int) else -15) = -15 := if_neg (by omega)
                   rw [eo]
                   exact ⟨rfl, d3, o3, (f1.tr f2).tr f3, 0, rfl, by decide, fun y => ev ▸ (zvl_2 (v1 ef) (v3 y) (by decide))⟩)
        · refine zV_iconst (pc := 61) dX10_not5_61 ?_
          refine zV_goto (pc := 62) (tgt := 66) dX10_not5_62 (by decide) ?_
          refine zV_istore_n (pc := 66) (i := 2) dX10_not5_66 rfl rfl ?_
          try dsimp only [List.set_cons_succ, List.set_cons_zero]
          refine zV_aload_n (pc := 67) (i := 0) dX10_not5_67 rfl rfl ?_
          refine zV_ivn (pc := 68) (ci := 10) dX10_not5_68 klX10_176 mX10_next ⟨by decide, rfl⟩ rfl ⟨Nat.zero_le _, Nat.zero_le _⟩ (kX10_next hB1.1 hT (s := ((zSum tp z (zTerm tp z fn)) s).2) (by have := gf.1.1.1; omega) (d1.here gf.1.1 hlv) ef (d1.ok ef)) (zOb_of rfl) rfl rfl (Nat.le_of_ble_eq_true rfl) (fun M2 q2 => ?_)
          have ga := (zgx_ad hT gf.1.1 hlv).1
          have f2 : zFr zNG M1 M2 := q2.2.mono (fun a j y => zNF_G y)
          refine zV_aload_n (pc := 71) (i := 0) dX10_not5_71 rfl rfl ?_
          refine zV_ivs (pc := 72) (ci := 10) dX10_not5_72 klX10_220 mX10_added5 ⟨by decide, rfl⟩ rfl ⟨Nat.zero_le _, Nat.zero_le _⟩ (hK1 M2 (zadv tp z ((zSum tp z (zTerm tp z fn)) s).2) (hB1.fr f2) q2.1 ga.1 ((q2.2 _ _ (by unfold zNF; omega)).trans o1)) (zOb_of rfl) rfl rfl (Nat.le_of_ble_eq_true rfl) ?_
          rintro w7 N7 M3 ⟨rfl, d3, o3, f3, u, rfl, r3, v3⟩
          refine zV_istore_n (pc := 75) (i := 3) dX10_not5_75 rfl rfl ?_
          try dsimp only [List.set_cons_succ, List.set_cons_zero]
          refine zV_iload_n (pc := 76) (i := 2) dX10_not5_76 rfl rfl ?_
          refine zV_if_eq (pc := 77) (tgt := 88) dX10_not5_77 (by decide) (by omega) (fun c_77 => ?_) (fun c_77 => ?_)
          · refine zV_iload_n (pc := 88) (i := 1) dX10_not5_88 rfl rfl ?_
            refine zV_iload_n (pc := 89) (i := 3) dX10_not5_89 rfl rfl ?_
            refine zV_icmp_ne (pc := 90) (tgt := 97) dX10_not5_90 (by decide) (by omega) (fun c_90 => ?_) (fun c_90 => ?_)
            · refine zV_iconst (pc := 97) dX10_not5_97 ?_
              refine zV_iret (pc := 98) dX10_not5_98 trivial ⟨Nat.zero_le _, Nat.zero_le _⟩ ?_
              rw [e, e1]
              first
                | (have ev : (1 : Int) = zopr (-14) v u := (zopr_14.trans (zb_t (by omega))).symm
                   have eo : (if ((zSum tp z (zTerm tp z fn)) s).2.tk = 60 then (-14 : Int) else -15) = -14 := if_pos (by omega)
                   rw [eo]
                   exact ⟨rfl, d3, o3, (f1.tr f2).tr f3, 1, rfl, by decide, fun y => ev ▸ (zvl_2 (v1 ef) (v3 y) (by decide))⟩)
                | (have ev : (0 : Int) = zopr (-14) v u := (zopr_14.trans (zb_f (by omega))).symm
                   have eo : (if ((zSum tp z (zTerm tp z fn)) s).2.tk = 60 then (-14 : Int) else -15) = -14 := if_pos (by omega)
                   rw [eo]
                   exact ⟨rfl, d3, o3, (f1.tr f2).tr f3, 0, rfl, by decide, fun y => ev ▸ (zvl_2 (v1 ef) (v3 y) (by decide))⟩)
                | (have ev : (1 : Int) = zopr (-15) v u := (zopr_15.trans (zb_t (by omega))).symm
                   have eo : (if ((zSum tp z (zTerm tp z fn)) s).2.tk = 60 then (-14 : Int) else -15) = -15 := if_neg (by omega)
                   rw [eo]
                   exact ⟨rfl, d3, o3, (f1.tr f2).tr f3, 1, rfl, by decide, fun y => ev ▸ (zvl_2 (v1 ef) (v3 y) (by decide))⟩)
                | (have ev : (0 : Int) = zopr (-15) v u := (zopr_15.trans (zb_f (by omega))).symm
                   have eo : (if ((zSum tp z (zTerm tp z fn)) s).2.tk = 60 then (-14 : Int) else -15) = -15 := if_neg (by omega)
                   rw [eo]
                   exact ⟨rfl, d3, o3, (f1.tr f2).tr f3, 0, rfl, by decide, fun y => ev ▸ (zvl_2 (v1 ef) (v3 y) (by decide))⟩)
            · refine zV_iconst (pc := 93) dX10_not5_93 ?_
              refine zV_goto (pc := 94) (tgt := 98) dX10_not5_94 (by decide) ?_
              refine zV_iret (pc := 98) dX10_not5_98 trivial ⟨Nat.zero_le _, Nat.zero_le _⟩ ?_
              rw [e, e1]
              first
                | (have ev : (1 : Int) = zopr (-14) v u := (zopr_14.trans (zb_t (by omega))).symm
                   have eo : (if ((zSum tp z (zTerm tp z fn)) s).2.tk = 60 then (-14 : Int) else -15) = -14 := if_pos (by omega)
                   rw [eo]
                   exact ⟨rfl, d3, o3, (f1.tr f2).tr f3, 1, rfl, by decide, fun y => ev ▸ (zvl_2 (v1 ef) (v3 y) (by decide))⟩)
                | (have ev : (0 : Int) = zopr (-14) v u := (zopr_14.trans (zb_f (by omega))).symm
                   have eo : (if ((zSum tp z (zTerm tp z fn)) s).2.tk = 60 then (-14 : Int) else -15) = -14 := if_pos (by omega)
                   rw [eo]
                   exact ⟨rfl, d3, o3, (f1.tr f2).tr f3, 0, rfl, by decide, fun y => ev ▸ (zvl_2 (v1 ef) (v3 y) (by decide))⟩)
                | (have ev : (1 : Int) = zopr (-15) v u := (zopr_15.trans (zb_t (by omega))).symm
                   have eo : (if ((zSum tp z (zTerm tp z fn)) s).2.tk = 60 then (-14 : Int) else -15) = -15 := if_neg (by omega)
                   rw [eo]
                   exact ⟨rfl, d3, o3, (f1.tr f2).tr f3, 1, rfl, by decide, fun y => ev ▸ (zvl_2 (v1 ef) (v3 y) (by decide))⟩)
                | (have ev : (0 : Int) = zopr (-15) v u := (zopr_15.trans (zb_f (by omega))).symm
                   have eo : (if ((zSum tp z (zTerm tp z fn)) s).2.tk = 60 then (-14 : Int) else -15) = -15 := if_neg (by omega)
                   rw [eo]
                   exact ⟨rfl, d3, o3, (f1.tr f2).tr f3, 0, rfl, by decide, fun y => ev ▸ (zvl_2 (v1 ef) (v3 y) (by decide))⟩)
          · refine zV_iload_n (pc := 80) (i := 1) dX10_not5_80 rfl rfl ?_
            refine zV_iload_n (pc := 81) (i := 3) dX10_not5_81 rfl rfl ?_
            refine zV_icmp_ge (pc := 82) (tgt := 97) dX10_not5_82 (by decide) (by omega) (fun c_82 => ?_) (fun c_82 => ?_)
            · refine zV_iconst (pc := 97) dX10_not5_97 ?_
              refine zV_iret (pc := 98) dX10_not5_98 trivial ⟨Nat.zero_le _, Nat.zero_le _⟩ ?_
              rw [e, e1]
              first
                | (have ev : (1 : Int) = zopr (-14) v u := (zopr_14.trans (zb_t (by omega))).symm
                   have eo : (if ((zSum tp z (zTerm tp z fn)) s).2.tk = 60 then (-14 : Int) else -15) = -14 := if_pos (by omega)
                   rw [eo]
                   exact ⟨rfl, d3, o3, (f1.tr f2).tr f3, 1, rfl, by decide, fun y => ev ▸ (zvl_2 (v1 ef) (v3 y) (by decide))⟩)
                | (have ev : (0 : Int) = zopr (-14) v u := (zopr_14.trans (zb_f (by omega))).symm
                   have eo : (if ((zSum tp z (zTerm tp z fn)) s).2.tk = 60 then (-14 : Int) else -15) = -14 := if_pos (by omega)
                   rw [eo]
                   exact ⟨rfl, d3, o3, (f1.tr f2).tr f3, 0, rfl, by decide, fun y => ev ▸ (zvl_2 (v1 ef) (v3 y) (by decide))⟩)
                | (have ev : (1 : Int) = zopr (-15) v u := (zopr_15.trans (zb_t (by omega))).symm
                   have eo : (if ((zSum tp z (zTerm tp z fn)) s).2.tk = 60 then (-14 : Int) else -15) = -15 := if_neg (by omega)
                   rw [eo]
                   exact ⟨rfl, d3, o3, (f1.tr f2).tr f3, 1, rfl, by decide, fun y => ev ▸ (zvl_2 (v1 ef) (v3 y) (by decide))⟩)
                | (have ev : (0 : Int) = zopr (-15) v u := (zopr_15.trans (zb_f (by omega))).symm
                   have eo : (if ((zSum tp z (zTerm tp z fn)) s).2.tk = 60 then (-14 : Int) else -15) = -15 := if_neg (by omega)
                   rw [eo]
                   exact ⟨rfl, d3, o3, (f1.tr f2).tr f3, 0, rfl, by decide, fun y => ev ▸ (zvl_2 (v1 ef) (v3 y) (by decide))⟩)
            · refine zV_goto (pc := 85) (tgt := 93) dX10_not5_85 (by decide) ?_
              refine zV_iconst (pc := 93) dX10_not5_93 ?_
              refine zV_goto (pc := 94) (tgt := 98) dX10_not5_94 (by decide) ?_
              refine zV_iret (pc := 98) dX10_not5_98 trivial ⟨Nat.zero_le _, Nat.zero_le _⟩ ?_
              rw [e, e1]
              first
                | (have ev : (1 : Int) = zopr (-14) v u := (zopr_14.trans (zb_t (by omega))).symm
                   have eo : (if ((zSum tp z (zTerm tp z fn)) s).2.tk = 60 then (-14 : Int) else -15) = -14 := if_pos (by omega)
                   rw [eo]
                   exact ⟨rfl, d3, o3, (f1.tr f2).tr f3, 1, rfl, by decide, fun y => ev ▸ (zvl_2 (v1 ef) (v3 y) (by decide))⟩)
                | (have ev : (0 : Int) = zopr (-14) v u := (zopr_14.trans (zb_f (by omega))).symm
                   have eo : (if ((zSum tp z (zTerm tp z fn)) s).2.tk = 60 then (-14 : Int) else -15) = -14 := if_pos (by omega)
                   rw [eo]
                   exact ⟨rfl, d3, o3, (f1.tr f2).tr f3, 0, rfl, by decide, fun y => ev ▸ (zvl_2 (v1 ef) (v3 y) (by decide))⟩)
                | (have ev : (1 : Int) = zopr (-15) v u := (zopr_15.trans (zb_t (by omega))).symm
                   have eo : (if ((zSum tp z (zTerm tp z fn)) s).2.tk = 60 then (-14 : Int) else -15) = -15 := if_neg (by omega)
                   rw [eo]
                   exact ⟨rfl, d3, o3, (f1.tr f2).tr f3, 1, rfl, by decide, fun y => ev ▸ (zvl_2 (v1 ef) (v3 y) (by decide))⟩)
                | (have ev : (0 : Int) = zopr (-15) v u := (zopr_15.trans (zb_f (by omega))).symm
                   have eo : (if ((zSum tp z (zTerm tp z fn)) s).2.tk = 60 then (-14 : Int) else -15) = -15 := if_neg (by omega)
                   rw [eo]
                   exact ⟨rfl, d3, o3, (f1.tr f2).tr f3, 0, rfl, by decide, fun y => ev ▸ (zvl_2 (v1 ef) (v3 y) (by decide))⟩)
      · have e1 : zCm2 tp z fn s = (zSum tp z (zTerm tp z fn)) s := zit_f (fun y => y.elim c_36 c_45)
        refine zV_iload_n (pc := 48) (i := 1) dX10_not5_48 rfl rfl ?_
        refine zV_iret (pc := 49) dX10_not5_49 trivial ⟨Nat.zero_le _, Nat.zero_le _⟩ ?_
        rw [e, e1]
        exact ⟨rfl, d1, o1, f1, v, rfl, r1, fun y => (v1 y).up (by decide)⟩
  · refine zV_aload_n (pc := 18) (i := 0) dX10_not5_18 rfl rfl ?_
    refine zV_ivs (pc := 19) (ci := 10) dX10_not5_19 klX10_204 mX10_opens ⟨by decide, rfl⟩ rfl ⟨Nat.zero_le _, Nat.zero_le _⟩ (kX10_opens hB.1 hT hd hz h25 (by decide) ⟨by omega, by omega⟩) (zOb_of rfl) rfl rfl (Nat.le_of_ble_eq_true rfl) ?_
    rintro w9 N9 M1 ⟨rfl, ⟨o9, rfl, d1, f1⟩ | ⟨o9, rfl, d1, o1, f1⟩⟩
    · have e : zNot0 tp z fn s = ([], zfl s) := if_pos c_15
      refine zV_pop (pc := 22) dX10_not5_22 (by simp) ?_
      refine zV_iconst (pc := 23) dX10_not5_23 ?_
      refine zV_iret (pc := 24) dX10_not5_24 trivial ⟨Nat.zero_le _, Nat.zero_le _⟩ ?_
      rw [e]
      exact ⟨rfl, d1, (f1 _ _ (by unfold zNH; omega)).trans h25, f1.mono (fun a j y => zNH_G y), 0, rfl, by decide, fun y => absurd y (zfl_ft hz)⟩
    · exact absurd o9 (by decide)
set_option maxRecDepth 20000 in
set_option maxHeartbeats 2000000 in
theorem kX10_both5L {f z : Int} {tp nm : Int → Int} (hT : ztp tp z) (hN : ∀ j : Int, 0 ≤ j → j ≤ 5 → -2147483648 ≤ nm j ∧ nm j ≤ 2147483647) {fn : zσ → zρ} (hf : zgd z fn) (hK1 : zMf g yX10_not5 xX10_not5 f tp z nm 5 4 fn) {V : zρ} {M0 : zM} : ∀ (k : Nat) (v : Int) (x : zρ) (M1 : zM) (w2 : zv), (z - x.2.at < k ∨ ¬ (fun t : Int => t = 10) x.2.tk) → zMB M1 f tp z nm → zMd tp M1 x.2 → zσo z x.2 → M1 58 25 = 5 → zFr zNG M0 M1 → (-2147483648 ≤ v ∧ v ≤ 2147483647) → (x.2.ft = -1 → zvl nm (4 + 1) x.1 v) → zlo tp z (fun t => t = 10) (fun t => (-12 : Int)) fn k x = V → zV g xX10_both5 (zMQ tp 5 (4 + 1) nm V M0) 5 [zr 58, zi v, w2] [] 75 M1 0 0 := by
  intro k
  induction k with
  | zero =>
    intro v x M1 w2 h0 h1 h2 h3 h4 h5 h6 h7 h8
    have hlvT : (fun t : Int => t = 10) x.2.tk → zlive x.2 := fun q => ⟨by omega, by omega⟩
    refine zV_aload_n (pc := 5) (i := 0) dX10_both5_5 rfl rfl ?_
    refine zV_bipush (pc := 6) dX10_both5_6 (by decide) ?_
    refine zV_bipush (pc := 8) dX10_both5_8 (by decide) ?_
    refine zV_bipush (pc := 10) dX10_both5_10 (by decide) ?_
    refine zV_iconst (pc := 12) dX10_both5_12 ?_
    refine zV_iconst (pc := 13) dX10_both5_13 ?_
    refine zV_iconst (pc := 14) dX10_both5_14 ?_
    refine zV_iconst (pc := 15) dX10_both5_15 ?_
    refine zV_iconst (pc := 16) dX10_both5_16 ?_
    refine zV_ivp (pc := 17) (ci := 10) dX10_both5_17 klX10_179 mX10_isWord ⟨by decide, rfl⟩ rfl ⟨Nat.zero_le _, Nat.zero_le _⟩ (kX10_w_and h1.1 hT h2 h3) (zOb_of rfl) rfl rfl (Nat.le_of_ble_eq_true rfl) ?_
    refine zV_if_eqb (pc := 20) (tgt := 49) dX10_both5_20 (by decide) (fun c_20 => ?_) (fun c_20 => ?_)
    · refine zV_iload_n (pc := 49) (i := 1) dX10_both5_49 rfl rfl ?_
      refine zV_iret (pc := 50) dX10_both5_50 trivial ⟨Nat.zero_le _, Nat.zero_le _⟩ ?_
      have e8 := (zlo_f (tp := tp) (z := z) (q := fun t => t = 10) (stp := fun t => (-12 : Int)) (f := fn) (k := 0) (x := x) c_20).symm.trans h8
      rw [← e8]
      exact ⟨rfl, h2, h4, h5, v, rfl, h6, h7⟩
    · exfalso
      exact h0.elim (fun y => by have := h3.1; have y : z - x.2.at < 0 := y; omega) (fun y => y c_20)
  | succ k ih =>
    intro v x M1 w2 h0 h1 h2 h3 h4 h5 h6 h7 h8
    have hlvT : (fun t : Int => t = 10) x.2.tk → zlive x.2 := fun q => ⟨by omega, by omega⟩
    refine zV_aload_n (pc := 5) (i := 0) dX10_both5_5 rfl rfl ?_
    refine zV_bipush (pc := 6) dX10_both5_6 (by decide) ?_
    refine zV_bipush (pc := 8) dX10_both5_8 (by decide) ?_
    refine zV_bipush (pc := 10) dX10_both5_10 (by decide) ?_
    refine zV_iconst (pc := 12) dX10_both5_12 ?_
    refine zV_iconst (pc := 13) dX10_both5_13 ?_
    refine zV_iconst (pc := 14) dX10_both5_14 ?_
    refine zV_iconst (pc := 15) dX10_both5_15 ?_
    refine zV_iconst (pc := 16) dX10_both5_16 ?_
    refine zV_ivp (pc := 17) (ci := 10) dX10_both5_17 klX10_179 mX10_isWord ⟨by decide, rfl⟩ rfl ⟨Nat.zero_le _, Nat.zero_le _⟩ (kX10_w_and h1.1 hT h2 h3) (zOb_of rfl) rfl rfl (Nat.le_of_ble_eq_true rfl) ?_
    refine zV_if_eqb (pc := 20) (tgt := 49) dX10_both5_20 (by decide) (fun c_20 => ?_) (fun c_20 => ?_)
    · refine zV_iload_n (pc := 49) (i := 1) dX10_both5_49 rfl rfl ?_
      refine zV_iret (pc := 50) dX10_both5_50 trivial ⟨Nat.zero_le _, Nat.zero_le _⟩ ?_
      have e8 := (zlo_f (tp := tp) (z := z) (q := fun t => t = 10) (stp := fun t => (-12 : Int)) (f := fn) (k := k + 1) (x := x) c_20).symm.trans h8
      rw [← e8]
      exact ⟨rfl, h2, h4, h5, v, rfl, h6, h7⟩
    · have hlv := hlvT c_20
      refine zV_aload_n (pc := 23) (i := 0) dX10_both5_23 rfl rfl ?_
      refine zV_ivn (pc := 24) (ci := 10) dX10_both5_24 klX10_176 mX10_next ⟨by decide, rfl⟩ rfl ⟨Nat.zero_le _, Nat.zero_le _⟩ (kX10_next h1.1 hT (s := x.2) (by have := h3.1; omega) (h2.here h3 hlv) (h3.live hlv) (h2.ok (h3.live hlv))) (zOb_of rfl) rfl rfl (Nat.le_of_ble_eq_true rfl) (fun M2 q2 => ?_)
      have f2 : zFr zNG M1 M2 := q2.2.mono (fun a j y => zNF_G y)
      have hB2 := h1.fr f2
      have ga := (zgx_ad hT h3 hlv).1
      have gf := hf (zadv tp z x.2) ga.1
      refine zV_aload_n (pc := 27) (i := 0) dX10_both5_27 rfl rfl ?_
      refine zV_ivs (pc := 28) (ci := 10) dX10_both5_28 klX10_223 mX10_not5 ⟨by decide, rfl⟩ rfl ⟨Nat.zero_le _, Nat.zero_le _⟩ (hK1 M2 (zadv tp z x.2) hB2 q2.1 ga.1 ((q2.2 _ _ (by unfold zNF; omega)).trans h4)) (zOb_of rfl) rfl rfl (Nat.le_of_ble_eq_true rfl) ?_
      rintro w9 N9 M3 ⟨rfl, d3, o3, f3, u, rfl, r3, v3⟩
      have e8 := (zlo_t (q := fun t => t = 10) (stp := fun t => (-12 : Int)) (f := fn) (k := k) c_20).symm.trans h8
      refine zV_istore_n (pc := 31) (i := 2) dX10_both5_31 rfl rfl ?_
      try dsimp only [List.set_cons_succ, List.set_cons_zero]
      refine zV_iload_n (pc := 32) (i := 1) dX10_both5_32 rfl rfl ?_
      refine zV_if_eq (pc := 33) (tgt := 44) dX10_both5_33 (by decide) (by omega) (fun c_33 => ?_) (fun c_33 => ?_)
      · refine zV_iconst (pc := 44) dX10_both5_44 ?_
        refine zV_istore_n (pc := 45) (i := 1) dX10_both5_45 rfl rfl ?_
        try dsimp only [List.set_cons_succ, List.set_cons_zero]
        refine zV_goto (pc := 46) (tgt := 5) dX10_both5_46 (by decide) ?_
        have hz9 : (fn (zadv tp z x.2)).2.ft = -1 → x.2.ft = -1 := fun _ => h3.live hlv
        have hms : z - (fn (zadv tp z x.2)).2.at < k ∨ ¬ (fun t : Int => t = 10) (fn (zadv tp z x.2)).2.tk := by
          by_cases q : (fun t : Int => t = 10) (fn (zadv tp z x.2)).2.tk
          · have l := gf.2.1 ⟨by omega, by omega⟩
            have l2 := ga.2.2.1
            exact Or.inl (by show z - (fn (zadv tp z x.2)).2.at < k; omega)
          · exact Or.inr q
        first
          | (have ev : (1 : Int) = zopr (-12) v u := ((zopr_12).trans (zb_t ⟨by omega, by omega⟩)).symm
             have eo : (fun t : Int => (-12 : Int)) x.2.tk = -12 := by first | rfl | exact if_pos (by omega) | exact if_neg (by omega)
             have hv9 : (fn (zadv tp z x.2)).2.ft = -1 → zvl nm (4 + 1) (x.1 ++ (fn (zadv tp z x.2)).1 ++ [(fun t : Int => (-12 : Int)) x.2.tk]) (zopr (-12) v u) := fun y => by rw [eo]; exact zvl_2u (h7 (hz9 y)) (v3 y) (by decide)
             rw [← ev] at hv9
             refine ih _ (x.1 ++ (fn (zadv tp z x.2)).1 ++ [(fun t : Int => (-12 : Int)) x.2.tk], (fn (zadv tp z x.2)).2) M3 _ hms (hB2.fr f3) d3 gf.1.1 o3 ((h5.tr f2).tr f3) ?_ hv9 e8
             rw [ev]
             exact zopr_r _ _ _)
          | (have ev : (0 : Int) = zopr (-12) v u := ((zopr_12).trans (zb_f (by omega))).symm
             have eo : (fun t : Int => (-12 : Int)) x.2.tk = -12 := by first | rfl | exact if_pos (by omega) | exact if_neg (by omega)
             have hv9 : (fn (zadv tp z x.2)).2.ft = -1 → zvl nm (4 + 1) (x.1 ++ (fn (zadv tp z x.2)).1 ++ [(fun t : Int => (-12 : Int)) x.2.tk]) (zopr (-12) v u) := fun y => by rw [eo]; exact zvl_2u (h7 (hz9 y)) (v3 y) (by decide)
             rw [← ev] at hv9
             refine ih _ (x.1 ++ (fn (zadv tp z x.2)).1 ++ [(fun t : Int => (-12 : Int)) x.2.tk], (fn (zadv tp z x.2)).2) M3 _ hms (hB2.fr f3) d3 gf.1.1 o3 ((h5.tr f2).tr f3) ?_ hv9 e8
             rw [ev]
             exact zopr_r _ _ _)
      · refine zV_iload_n (pc := 36) (i := 2) dX10_both5_36 rfl rfl ?_
        refine zV_if_eq (pc := 37) (tgt := 44) dX10_both5_37 (by decide) (by omega) (fun c_37 => ?_) (fun c_37 => ?_)
        · refine zV_iconst (pc := 44) dX10_both5_44 ?_
          refine zV_istore_n (pc := 45) (i := 1) dX10_both5_45 rfl rfl ?_
          try dsimp only [List.set_cons_succ, List.set_cons_zero]
          refine zV_goto (pc := 46) (tgt := 5) dX10_both5_46 (by decide) ?_
          have hz9 : (fn (zadv tp z x.2)).2.ft = -1 → x.2.ft = -1 := fun _ => h3.live hlv
          have hms : z - (fn (zadv tp z x.2)).2.at < k ∨ ¬ (fun t : Int => t = 10) (fn (zadv tp z x.2)).2.tk := by
            by_cases q : (fun t : Int => t = 10) (fn (zadv tp z x.2)).2.tk
            · have l := gf.2.1 ⟨by omega, by omega⟩
              have l2 := ga.2.2.1
              exact Or.inl (by show z - (fn (zadv tp z x.2)).2.at < k; omega)
            · exact Or.inr q
          first
            | (have ev : (1 : Int) = zopr (-12) v u := ((zopr_12).trans (zb_t ⟨by omega, by omega⟩)).symm
               have eo : (fun t : Int => (-12 : Int)) x.2.tk = -12 := by first | rfl | exact if_pos (by omega) | exact if_neg (by omega)
               have hv9 : (fn (zadv tp z x.2)).2.ft = -1 → zvl nm (4 + 1) (x.1 ++ (fn (zadv tp z x.2)).1 ++ [(fun t : Int => (-12 : Int)) x.2.tk]) (zopr (-12) v u) := fun y => by rw [eo]; exact zvl_2u (h7 (hz9 y)) (v3 y) (by decide)
               rw [← ev] at hv9
               refine ih _ (x.1 ++ (fn (zadv tp z x.2)).1 ++ [(fun t : Int => (-12 : Int)) x.2.tk], (fn (zadv tp z x.2)).2) M3 _ hms (hB2.fr f3) d3 gf.1.1 o3 ((h5.tr f2).tr f3) ?_ hv9 e8
               rw [ev]
               exact zopr_r _ _ _)
            | (have ev : (0 : Int) = zopr (-12) v u := ((zopr_12).trans (zb_f (by omega))).symm
               have eo : (fun t : Int => (-12 : Int)) x.2.tk = -12 := by first | rfl | exact if_pos (by omega) | exact if_neg (by omega)
               have hv9 : (fn (zadv tp z x.2)).2.ft = -1 → zvl nm (4 + 1) (x.1 ++ (fn (zadv tp z x.2)).1 ++ [(fun t : Int => (-12 : Int)) x.2.tk]) (zopr (-12) v u) := fun y => by rw [eo]; exact zvl_2u (h7 (hz9 y)) (v3 y) (by decide)
               rw [← ev] at hv9
               refine ih _ (x.1 ++ (fn (zadv tp z x.2)).1 ++ [(fun t : Int => (-12 : Int)) x.2.tk], (fn (zadv tp z x.2)).2) M3 _ hms (hB2.fr f3) d3 gf.1.1 o3 ((h5.tr f2).tr f3) ?_ hv9 e8
               rw [ev]
               exact zopr_r _ _ _)
        · refine zV_iconst (pc := 40) dX10_both5_40 ?_
          refine zV_goto (pc := 41) (tgt := 45) dX10_both5_41 (by decide) ?_
          refine zV_istore_n (pc := 45) (i := 1) dX10_both5_45 rfl rfl ?_
          try dsimp only [List.set_cons_succ, List.set_cons_zero]
          refine zV_goto (pc := 46) (tgt := 5) dX10_both5_46 (by decide) ?_
          have hz9 : (fn (zadv tp z x.2)).2.ft = -1 → x.2.ft = -1 := fun _ => h3.live hlv
          have hms : z - (fn (zadv tp z x.2)).2.at < k ∨ ¬ (fun t : Int => t = 10) (fn (zadv tp z x.2)).2.tk := by
            by_cases q : (fun t : Int => t = 10) (fn (zadv tp z x.2)).2.tk
            · have l := gf.2.1 ⟨by omega, by omega⟩
              have l2 := ga.2.2.1
              exact Or.inl (by show z - (fn (zadv tp z x.2)).2.at < k; omega)
            · exact Or.inr q
          first
            | (have ev : (1 : Int) = zopr (-12) v u := ((zopr_12).trans (zb_t ⟨by omega, by omega⟩)).symm
               have eo : (fun t : Int => (-12 : Int)) x.2.tk = -12 := by first | rfl | exact if_pos (by omega) | exact if_neg (by omega)
               have hv9 : (fn (zadv tp z x.2)).2.ft = -1 → zvl nm (4 + 1) (x.1 ++ (fn (zadv tp z x.2)).1 ++ [(fun t : Int => (-12 : Int)) x.2.tk]) (zopr (-12) v u) := fun y => by rw [eo]; exact zvl_2u (h7 (hz9 y)) (v3 y) (by decide)
               rw [← ev] at hv9
               refine ih _ (x.1 ++ (fn (zadv tp z x.2)).1 ++ [(fun t : Int => (-12 : Int)) x.2.tk], (fn (zadv tp z x.2)).2) M3 _ hms (hB2.fr f3) d3 gf.1.1 o3 ((h5.tr f2).tr f3) ?_ hv9 e8
               rw [ev]
               exact zopr_r _ _ _)
            | (have ev : (0 : Int) = zopr (-12) v u := ((zopr_12).trans (zb_f (by omega))).symm
               have eo : (fun t : Int => (-12 : Int)) x.2.tk = -12 := by first | rfl | exact if_pos (by omega) | exact if_neg (by omega)
               have hv9 : (fn (zadv tp z x.2)).2.ft = -1 → zvl nm (4 + 1) (x.1 ++ (fn (zadv tp z x.2)).1 ++ [(fun t : Int => (-12 : Int)) x.2.tk]) (zopr (-12) v u) := fun y => by rw [eo]; exact zvl_2u (h7 (hz9 y)) (v3 y) (by decide)
               rw [← ev] at hv9
               refine ih _ (x.1 ++ (fn (zadv tp z x.2)).1 ++ [(fun t : Int => (-12 : Int)) x.2.tk], (fn (zadv tp z x.2)).2) M3 _ hms (hB2.fr f3) d3 gf.1.1 o3 ((h5.tr f2).tr f3) ?_ hv9 e8
               rw [ev]
               exact zopr_r _ _ _)
set_option maxRecDepth 20000 in
set_option maxHeartbeats 2000000 in
theorem kX10_both5 {f z : Int} {tp nm : Int → Int} (hT : ztp tp z) (hN : ∀ j : Int, 0 ≤ j → j ≤ 5 → -2147483648 ≤ nm j ∧ nm j ≤ 2147483647) {fn : zσ → zρ} (hf : zgd z fn) (hK1 : zMf g yX10_not5 xX10_not5 f tp z nm 5 4 fn) : zMf g yX10_both5 xX10_both5 f tp z nm 5 (4 + 1) (zAnd tp z fn) := by
  intro M s hB hd hz h25
  refine zK_of (ls0 := [zr 58, (3, 0), (3, 0)]) (by decide) rfl (by decide) rfl (Nat.le_of_ble_eq_true rfl) ?_
  refine zV_aload_n (pc := 0) (i := 0) dX10_both5_0 rfl rfl ?_
  refine zV_ivs (pc := 1) (ci := 10) dX10_both5_1 klX10_223 mX10_not5 ⟨by decide, rfl⟩ rfl ⟨Nat.zero_le _, Nat.zero_le _⟩ (hK1 M s hB hd hz h25) (zOb_of rfl) rfl rfl (Nat.le_of_ble_eq_true rfl) ?_
  rintro w9 N9 M1 ⟨rfl, d1, o1, f1, v, rfl, r1, v1⟩
  refine zV_istore_n (pc := 4) (i := 1) dX10_both5_4 rfl rfl ?_
  try dsimp only [List.set_cons_succ, List.set_cons_zero]
  have gf := hf s hz
  exact kX10_both5L hT hN hf hK1 160 v (fn s) M1 _ (by
    by_cases q : (fun t : Int => t = 10) (fn s).2.tk
    · have l := gf.2.1 ⟨by omega, by omega⟩
      have l2 := hz.1
      exact Or.inl (by show z - (fn s).2.at < 160; have := hT.1; omega)
    · exact Or.inr q) (hB.fr f1) d1 gf.1.1 o1 f1 r1 (fun y => (v1 y).up (Nat.le_succ _)) rfl
set_option maxRecDepth 20000 in
set_option maxHeartbeats 2000000 in
theorem kX10_either5L {f z : Int} {tp nm : Int → Int} (hT : ztp tp z) (hN : ∀ j : Int, 0 ≤ j → j ≤ 5 → -2147483648 ≤ nm j ∧ nm j ≤ 2147483647) {fn : zσ → zρ} (hf : zgd z fn) (hK1 : zMf g yX10_both5 xX10_both5 f tp z nm 5 5 fn) {V : zρ} {M0 : zM} : ∀ (k : Nat) (v : Int) (x : zρ) (M1 : zM) (w2 : zv), (z - x.2.at < k ∨ ¬ (fun t : Int => t = 9) x.2.tk) → zMB M1 f tp z nm → zMd tp M1 x.2 → zσo z x.2 → M1 58 25 = 5 → zFr zNG M0 M1 → (-2147483648 ≤ v ∧ v ≤ 2147483647) → (x.2.ft = -1 → zvl nm (5 + 1) x.1 v) → zlo tp z (fun t => t = 9) (fun t => (-11 : Int)) fn k x = V → zV g xX10_either5 (zMQ tp 5 (5 + 1) nm V M0) 5 [zr 58, zi v, w2] [] 75 M1 0 0 := by
  intro k
  induction k with
  | zero =>
    intro v x M1 w2 h0 h1 h2 h3 h4 h5 h6 h7 h8
    have hlvT : (fun t : Int => t = 9) x.2.tk → zlive x.2 := fun q => ⟨by omega, by omega⟩
    refine zV_aload_n (pc := 5) (i := 0) dX10_either5_5 rfl rfl ?_
    refine zV_bipush (pc := 6) dX10_either5_6 (by decide) ?_
    refine zV_bipush (pc := 8) dX10_either5_8 (by decide) ?_
    refine zV_iconst (pc := 10) dX10_either5_10 ?_
    refine zV_iconst (pc := 11) dX10_either5_11 ?_
    refine zV_iconst (pc := 12) dX10_either5_12 ?_
    refine zV_iconst (pc := 13) dX10_either5_13 ?_
    refine zV_iconst (pc := 14) dX10_either5_14 ?_
    refine zV_iconst (pc := 15) dX10_either5_15 ?_
    refine zV_ivp (pc := 16) (ci := 10) dX10_either5_16 klX10_179 mX10_isWord ⟨by decide, rfl⟩ rfl ⟨Nat.zero_le _, Nat.zero_le _⟩ (kX10_w_or h1.1 hT h2 h3) (zOb_of rfl) rfl rfl (Nat.le_of_ble_eq_true rfl) ?_
    refine zV_if_eqb (pc := 19) (tgt := 48) dX10_either5_19 (by decide) (fun c_19 => ?_) (fun c_19 => ?_)
    · refine zV_iload_n (pc := 48) (i := 1) dX10_either5_48 rfl rfl ?_
      refine zV_iret (pc := 49) dX10_either5_49 trivial ⟨Nat.zero_le _, Nat.zero_le _⟩ ?_
      have e8 := (zlo_f (tp := tp) (z := z) (q := fun t => t = 9) (stp := fun t => (-11 : Int)) (f := fn) (k := 0) (x := x) c_19).symm.trans h8
      rw [← e8]
      exact ⟨rfl, h2, h4, h5, v, rfl, h6, h7⟩
    · exfalso
      exact h0.elim (fun y => by have := h3.1; have y : z - x.2.at < 0 := y; omega) (fun y => y c_19)
  | succ k ih =>
    intro v x M1 w2 h0 h1 h2 h3 h4 h5 h6 h7 h8
    have hlvT : (fun t : Int => t = 9) x.2.tk → zlive x.2 := fun q => ⟨by omega, by omega⟩
    refine zV_aload_n (pc := 5) (i := 0) dX10_either5_5 rfl rfl ?_
    refine zV_bipush (pc := 6) dX10_either5_6 (by decide) ?_
    refine zV_bipush (pc := 8) dX10_either5_8 (by decide) ?_
    refine zV_iconst (pc := 10) dX10_either5_10 ?_
    refine zV_iconst (pc := 11) dX10_either5_11 ?_
    refine zV_iconst (pc := 12) dX10_either5_12 ?_
    refine zV_iconst (pc := 13) dX10_either5_13 ?_
    refine zV_iconst (pc := 14) dX10_either5_14 ?_
    refine zV_iconst (pc := 15) dX10_either5_15 ?_
    refine zV_ivp (pc := 16) (ci := 10) dX10_either5_16 klX10_179 mX10_isWord ⟨by decide, rfl⟩ rfl ⟨Nat.zero_le _, Nat.zero_le _⟩ (kX10_w_or h1.1 hT h2 h3) (zOb_of rfl) rfl rfl (Nat.le_of_ble_eq_true rfl) ?_
    refine zV_if_eqb (pc := 19) (tgt := 48) dX10_either5_19 (by decide) (fun c_19 => ?_) (fun c_19 => ?_)
    · refine zV_iload_n (pc := 48) (i := 1) dX10_either5_48 rfl rfl ?_
      refine zV_iret (pc := 49) dX10_either5_49 trivial ⟨Nat.zero_le _, Nat.zero_le _⟩ ?_
      have e8 := (zlo_f (tp := tp) (z := z) (q := fun t => t = 9) (stp := fun t => (-11 : Int)) (f := fn) (k := k + 1) (x := x) c_19).symm.trans h8
      rw [← e8]
      exact ⟨rfl, h2, h4, h5, v, rfl, h6, h7⟩
    · have hlv := hlvT c_19
      refine zV_aload_n (pc := 22) (i := 0) dX10_either5_22 rfl rfl ?_
      refine zV_ivn (pc := 23) (ci := 10) dX10_either5_23 klX10_176 mX10_next ⟨by decide, rfl⟩ rfl ⟨Nat.zero_le _, Nat.zero_le _⟩ (kX10_next h1.1 hT (s := x.2) (by have := h3.1; omega) (h2.here h3 hlv) (h3.live hlv) (h2.ok (h3.live hlv))) (zOb_of rfl) rfl rfl (Nat.le_of_ble_eq_true rfl) (fun M2 q2 => ?_)
      have f2 : zFr zNG M1 M2 := q2.2.mono (fun a j y => zNF_G y)
      have hB2 := h1.fr f2
      have ga := (zgx_ad hT h3 hlv).1
      have gf := hf (zadv tp z x.2) ga.1
      refine zV_aload_n (pc := 26) (i := 0) dX10_either5_26 rfl rfl ?_
      refine zV_ivs (pc := 27) (ci := 10) dX10_either5_27 klX10_226 mX10_both5 ⟨by decide, rfl⟩ rfl ⟨Nat.zero_le _, Nat.zero_le _⟩ (hK1 M2 (zadv tp z x.2) hB2 q2.1 ga.1 ((q2.2 _ _ (by unfold zNF; omega)).trans h4)) (zOb_of rfl) rfl rfl (Nat.le_of_ble_eq_true rfl) ?_
      rintro w9 N9 M3 ⟨rfl, d3, o3, f3, u, rfl, r3, v3⟩
      have e8 := (zlo_t (q := fun t => t = 9) (stp := fun t => (-11 : Int)) (f := fn) (k := k) c_19).symm.trans h8
      refine zV_istore_n (pc := 30) (i := 2) dX10_either5_30 rfl rfl ?_
      try dsimp only [List.set_cons_succ, List.set_cons_zero]
      refine zV_iload_n (pc := 31) (i := 1) dX10_either5_31 rfl rfl ?_
      refine zV_if_ne (pc := 32) (tgt := 39) dX10_either5_32 (by decide) (by omega) (fun c_32 => ?_) (fun c_32 => ?_)
      · refine zV_iconst (pc := 39) dX10_either5_39 ?_
        refine zV_goto (pc := 40) (tgt := 44) dX10_either5_40 (by decide) ?_
        refine zV_istore_n (pc := 44) (i := 1) dX10_either5_44 rfl rfl ?_
        try dsimp only [List.set_cons_succ, List.set_cons_zero]
        refine zV_goto (pc := 45) (tgt := 5) dX10_either5_45 (by decide) ?_
        have hz9 : (fn (zadv tp z x.2)).2.ft = -1 → x.2.ft = -1 := fun _ => h3.live hlv
        have hms : z - (fn (zadv tp z x.2)).2.at < k ∨ ¬ (fun t : Int => t = 9) (fn (zadv tp z x.2)).2.tk := by
          by_cases q : (fun t : Int => t = 9) (fn (zadv tp z x.2)).2.tk
          · have l := gf.2.1 ⟨by omega, by omega⟩
            have l2 := ga.2.2.1
            exact Or.inl (by show z - (fn (zadv tp z x.2)).2.at < k; omega)
          · exact Or.inr q
        first
          | (have ev : (1 : Int) = zopr (-11) v u := ((zopr_11).trans (zb_t (by omega))).symm
             have eo : (fun t : Int => (-11 : Int)) x.2.tk = -11 := by first | rfl | exact if_pos (by omega) | exact if_neg (by omega)
             have hv9 : (fn (zadv tp z x.2)).2.ft = -1 → zvl nm (5 + 1) (x.1 ++ (fn (zadv tp z x.2)).1 ++ [(fun t : Int => (-11 : Int)) x.2.tk]) (zopr (-11) v u) := fun y => by rw [eo]; exact zvl_2u (h7 (hz9 y)) (v3 y) (by decide)
             rw [← ev] at hv9
             refine ih _ (x.1 ++ (fn (zadv tp z x.2)).1 ++ [(fun t : Int => (-11 : Int)) x.2.tk], (fn (zadv tp z x.2)).2) M3 _ hms (hB2.fr f3) d3 gf.1.1 o3 ((h5.tr f2).tr f3) ?_ hv9 e8
             rw [ev]
             exact zopr_r _ _ _)
          | (have ev : (0 : Int) = zopr (-11) v u := ((zopr_11).trans (zb_f (by omega))).symm
             have eo : (fun t : Int => (-11 : Int)) x.2.tk = -11 := by first | rfl | exact if_pos (by omega) | exact if_neg (by omega)
             have hv9 : (fn (zadv tp z x.2)).2.ft = -1 → zvl nm (5 + 1) (x.1 ++ (fn (zadv tp z x.2)).1 ++ [(fun t : Int => (-11 : Int)) x.2.tk]) (zopr (-11) v u) := fun y => by rw [eo]; exact zvl_2u (h7 (hz9 y)) (v3 y) (by decide)
             rw [← ev] at hv9
             refine ih _ (x.1 ++ (fn (zadv tp z x.2)).1 ++ [(fun t : Int => (-11 : Int)) x.2.tk], (fn (zadv tp z x.2)).2) M3 _ hms (hB2.fr f3) d3 gf.1.1 o3 ((h5.tr f2).tr f3) ?_ hv9 e8
             rw [ev]
             exact zopr_r _ _ _)
      · refine zV_iload_n (pc := 35) (i := 2) dX10_either5_35 rfl rfl ?_
        refine zV_if_eq (pc := 36) (tgt := 43) dX10_either5_36 (by decide) (by omega) (fun c_36 => ?_) (fun c_36 => ?_)
        · refine zV_iconst (pc := 43) dX10_either5_43 ?_
          refine zV_istore_n (pc := 44) (i := 1) dX10_either5_44 rfl rfl ?_
          try dsimp only [List.set_cons_succ, List.set_cons_zero]
          refine zV_goto (pc := 45) (tgt := 5) dX10_either5_45 (by decide) ?_
          have hz9 : (fn (zadv tp z x.2)).2.ft = -1 → x.2.ft = -1 := fun _ => h3.live hlv
          have hms : z - (fn (zadv tp z x.2)).2.at < k ∨ ¬ (fun t : Int => t = 9) (fn (zadv tp z x.2)).2.tk := by
            by_cases q : (fun t : Int => t = 9) (fn (zadv tp z x.2)).2.tk
            · have l := gf.2.1 ⟨by omega, by omega⟩
              have l2 := ga.2.2.1
              exact Or.inl (by show z - (fn (zadv tp z x.2)).2.at < k; omega)
            · exact Or.inr q
          first
            | (have ev : (1 : Int) = zopr (-11) v u := ((zopr_11).trans (zb_t (by omega))).symm
               have eo : (fun t : Int => (-11 : Int)) x.2.tk = -11 := by first | rfl | exact if_pos (by omega) | exact if_neg (by omega)
               have hv9 : (fn (zadv tp z x.2)).2.ft = -1 → zvl nm (5 + 1) (x.1 ++ (fn (zadv tp z x.2)).1 ++ [(fun t : Int => (-11 : Int)) x.2.tk]) (zopr (-11) v u) := fun y => by rw [eo]; exact zvl_2u (h7 (hz9 y)) (v3 y) (by decide)
               rw [← ev] at hv9
               refine ih _ (x.1 ++ (fn (zadv tp z x.2)).1 ++ [(fun t : Int => (-11 : Int)) x.2.tk], (fn (zadv tp z x.2)).2) M3 _ hms (hB2.fr f3) d3 gf.1.1 o3 ((h5.tr f2).tr f3) ?_ hv9 e8
               rw [ev]
               exact zopr_r _ _ _)
            | (have ev : (0 : Int) = zopr (-11) v u := ((zopr_11).trans (zb_f (by omega))).symm
               have eo : (fun t : Int => (-11 : Int)) x.2.tk = -11 := by first | rfl | exact if_pos (by omega) | exact if_neg (by omega)
               have hv9 : (fn (zadv tp z x.2)).2.ft = -1 → zvl nm (5 + 1) (x.1 ++ (fn (zadv tp z x.2)).1 ++ [(fun t : Int => (-11 : Int)) x.2.tk]) (zopr (-11) v u) := fun y => by rw [eo]; exact zvl_2u (h7 (hz9 y)) (v3 y) (by decide)
               rw [← ev] at hv9
               refine ih _ (x.1 ++ (fn (zadv tp z x.2)).1 ++ [(fun t : Int => (-11 : Int)) x.2.tk], (fn (zadv tp z x.2)).2) M3 _ hms (hB2.fr f3) d3 gf.1.1 o3 ((h5.tr f2).tr f3) ?_ hv9 e8
               rw [ev]
               exact zopr_r _ _ _)
        · refine zV_iconst (pc := 39) dX10_either5_39 ?_
          refine zV_goto (pc := 40) (tgt := 44) dX10_either5_40 (by decide) ?_
          refine zV_istore_n (pc := 44) (i := 1) dX10_either5_44 rfl rfl ?_
          try dsimp only [List.set_cons_succ, List.set_cons_zero]
          refine zV_goto (pc := 45) (tgt := 5) dX10_either5_45 (by decide) ?_
          have hz9 : (fn (zadv tp z x.2)).2.ft = -1 → x.2.ft = -1 := fun _ => h3.live hlv
          have hms : z - (fn (zadv tp z x.2)).2.at < k ∨ ¬ (fun t : Int => t = 9) (fn (zadv tp z x.2)).2.tk := by
            by_cases q : (fun t : Int => t = 9) (fn (zadv tp z x.2)).2.tk
            · have l := gf.2.1 ⟨by omega, by omega⟩
              have l2 := ga.2.2.1
              exact Or.inl (by show z - (fn (zadv tp z x.2)).2.at < k; omega)
            · exact Or.inr q
          first
            | (have ev : (1 : Int) = zopr (-11) v u := ((zopr_11).trans (zb_t (by omega))).symm
               have eo : (fun t : Int => (-11 : Int)) x.2.tk = -11 := by first | rfl | exact if_pos (by omega) | exact if_neg (by omega)
               have hv9 : (fn (zadv tp z x.2)).2.ft = -1 → zvl nm (5 + 1) (x.1 ++ (fn (zadv tp z x.2)).1 ++ [(fun t : Int => (-11 : Int)) x.2.tk]) (zopr (-11) v u) := fun y => by rw [eo]; exact zvl_2u (h7 (hz9 y)) (v3 y) (by decide)
               rw [← ev] at hv9
               refine ih _ (x.1 ++ (fn (zadv tp z x.2)).1 ++ [(fun t : Int => (-11 : Int)) x.2.tk], (fn (zadv tp z x.2)).2) M3 _ hms (hB2.fr f3) d3 gf.1.1 o3 ((h5.tr f2).tr f3) ?_ hv9 e8
               rw [ev]
               exact zopr_r _ _ _)
            | (have ev : (0 : Int) = zopr (-11) v u := ((zopr_11).trans (zb_f (by omega))).symm
               have eo : (fun t : Int => (-11 : Int)) x.2.tk = -11 := by first | rfl | exact if_pos (by omega) | exact if_neg (by omega)
               have hv9 : (fn (zadv tp z x.2)).2.ft = -1 → zvl nm (5 + 1) (x.1 ++ (fn (zadv tp z x.2)).1 ++ [(fun t : Int => (-11 : Int)) x.2.tk]) (zopr (-11) v u) := fun y => by rw [eo]; exact zvl_2u (h7 (hz9 y)) (v3 y) (by decide)
               rw [← ev] at hv9
               refine ih _ (x.1 ++ (fn (zadv tp z x.2)).1 ++ [(fun t : Int => (-11 : Int)) x.2.tk], (fn (zadv tp z x.2)).2) M3 _ hms (hB2.fr f3) d3 gf.1.1 o3 ((h5.tr f2).tr f3) ?_ hv9 e8
               rw [ev]
               exact zopr_r _ _ _)
set_option maxRecDepth 20000 in
set_option maxHeartbeats 2000000 in
theorem kX10_either5 {f z : Int} {tp nm : Int → Int} (hT : ztp tp z) (hN : ∀ j : Int, 0 ≤ j → j ≤ 5 → -2147483648 ≤ nm j ∧ nm j ≤ 2147483647) {fn : zσ → zρ} (hf : zgd z fn) (hK1 : zMf g yX10_both5 xX10_both5 f tp z nm 5 5 fn) : zMf g yX10_either5 xX10_either5 f tp z nm 5 (5 + 1) (zOr tp z fn) := by
  intro M s hB hd hz h25
  refine zK_of (ls0 := [zr 58, (3, 0), (3, 0)]) (by decide) rfl (by decide) rfl (Nat.le_of_ble_eq_true rfl) ?_
  refine zV_aload_n (pc := 0) (i := 0) dX10_either5_0 rfl rfl ?_
  refine zV_ivs (pc := 1) (ci := 10) dX10_either5_1 klX10_226 mX10_both5 ⟨by decide, rfl⟩ rfl ⟨Nat.zero_le _, Nat.zero_le _⟩ (hK1 M s hB hd hz h25) (zOb_of rfl) rfl rfl (Nat.le_of_ble_eq_true rfl) ?_
  rintro w9 N9 M1 ⟨rfl, d1, o1, f1, v, rfl, r1, v1⟩
  refine zV_istore_n (pc := 4) (i := 1) dX10_either5_4 rfl rfl ?_
  try dsimp only [List.set_cons_succ, List.set_cons_zero]
  have gf := hf s hz
  exact kX10_either5L hT hN hf hK1 160 v (fn s) M1 _ (by
    by_cases q : (fun t : Int => t = 9) (fn s).2.tk
    · have l := gf.2.1 ⟨by omega, by omega⟩
      have l2 := hz.1
      exact Or.inl (by show z - (fn s).2.at < 160; have := hT.1; omega)
    · exact Or.inr q) (hB.fr f1) d1 gf.1.1 o1 f1 r1 (fun y => (v1 y).up (Nat.le_succ _)) rfl
end
