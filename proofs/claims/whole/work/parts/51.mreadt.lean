/-! THE MODEL: read, says, text (printed by wip/whole/p51.py) -/
def zNR (a j : Int) : Prop := a = 58 ∧ 19 ≤ j ∧ j ≤ 27
theorem zNG_R {a j : Int} (h : zNG a j) : zNR a j := by unfold zNG at h; unfold zNR; omega
theorem zNR_st : ∀ q ∈ zstL, ¬ zNR q.1 q.2.1 := by
  unfold zNR
  decide
noncomputable def zvk (tp : Int → Int) (z : Int) (nm : Int → Int) (wh : Int) : Int := if wh = 0 then zvv tp z nm 0 else if wh = 1 then zvv tp z nm 1 else zvv tp z nm 2
def zRQ (tp : Int → Int) (z : Int) (nm : Int → Int) (wh : Int) (M : zM) : zP := fun w N' M1 => N' = 75 ∧ zFr zNR M M1 ∧ M1 58 26 = zb (zpF tp z ≠ -1) ∧ (zpF tp z ≠ -1 → M1 58 27 = zpF tp z) ∧ ∃ v : Int, w = some (zi v) ∧ (-2147483648 ≤ v ∧ v ≤ 2147483647) ∧ (zpF tp z = -1 → v = zvk tp z nm wh)
section
variable {g : zG} {N : Nat} {M : zM}
set_option maxRecDepth 20000 in
set_option maxHeartbeats 2000000 in
theorem kX10_rd3 {f z : Int} {tp nm : Int → Int} (hT : ztp tp z) (hN : ∀ j : Int, 0 ≤ j → j ≤ 5 → -2147483648 ≤ nm j ∧ nm j ≤ 2147483647) {t wh : Int} (hw : -2147483648 ≤ wh ∧ wh ≤ 2147483647) {M0 : zM} {M1 : zM} {p q r : Int} {w5 : zv} (hd : zMd tp M1 (zp2 tp z).2) (ho : zσo z (zp2 tp z).2) (f0 : zFr zNR M0 M1) (hp : (-2147483648 ≤ p ∧ p ≤ 2147483647)) (hq : (-2147483648 ≤ q ∧ q ≤ 2147483647)) (hr : (-2147483648 ≤ r ∧ r ≤ 2147483647)) (hv : zpF tp z = -1 → p = zvv tp z nm 0 ∧ q = zvv tp z nm 1 ∧ r = zvv tp z nm 2) : zV g xX10_read (zRQ tp z nm wh M0) 127 [zr 58, zi t, zi wh, zi p, zi q, w5] [zi r] 75 M1 0 0 := by
  by_cases e : (zp2 tp z).2.ft = -1
  · have ht := (hd.2.2 e).2
    have hw2 := zwt_r (tp := tp) (s := (zp2 tp z).2.sa) (e := (zp2 tp z).2.at) 12 (Nat.le_refl _)
    unfold zMt at ht
    have h22 : 0 ≤ M1 58 22 ∧ M1 58 22 ≤ 4 := by omega
    refine zV_istore (pc := 127) dX10_read_127 rfl ?_
    try dsimp only [List.set_cons_succ, List.set_cons_zero]
    refine zV_aload_n (pc := 129) (i := 0) dX10_read_129 rfl rfl ?_
    refine zV_get (pc := 130) (j := 26) dX10_read_130 flX10_160 (zOb_of rfl) rfl (hd.ok e) ?_
    refine zV_if_ne (pc := 133) (tgt := 147) dX10_read_133 (by decide) (by decide) (fun y => absurd rfl y) (fun _ => ?_)
    refine zV_aload_n (pc := 136) (i := 0) dX10_read_136 rfl rfl ?_
    refine zV_get (pc := 137) (j := 22) dX10_read_137 flX10_143 (zOb_of rfl) rfl rfl ?_
    refine zV_if_eq (pc := 140) (tgt := 147) dX10_read_140 (by decide) (by omega) (fun c_140 => ?_) (fun c_140 => ?_)
    · refine zV_iload_n (pc := 147) (i := 2) dX10_read_147 rfl rfl ?_
      refine zV_if_ne (pc := 148) (tgt := 155) dX10_read_148 (by decide) (by omega) (fun c_148 => ?_) (fun c_148 => ?_)
      · refine zV_iload_n (pc := 155) (i := 2) dX10_read_155 rfl rfl ?_
        refine zV_iconst (pc := 156) dX10_read_156 ?_
        refine zV_icmp_ne (pc := 157) (tgt := 165) dX10_read_157 (by decide) (by omega) (fun c_157 => ?_) (fun c_157 => ?_)
        · refine zV_iload (pc := 165) dX10_read_165 rfl ?_
          refine zV_iret (pc := 167) dX10_read_167 trivial ⟨Nat.zero_le _, Nat.zero_le _⟩ ?_
          first
            | (have t0 : (zp2 tp z).2.tk = 0 := by omega
               have eF : zpF tp z = -1 := by unfold zpF znd; rw [if_pos t0]; exact (zadv_o hT (s := (zp2 tp z).2) (by have := ho.1; omega) e).2.2.1
               refine ⟨rfl, f0, (hd.ok e).trans (zb_f (fun y => y eF)).symm, fun y => absurd eF y, _, rfl, by assumption, fun y => ?_⟩
               have hv := hv y
               unfold zvk
               first
                 | (rw [if_pos (by omega)]; exact hv.1)
                 | (rw [if_neg (by omega), if_pos (by omega)]; exact hv.2.1)
                 | (rw [if_neg (by omega), if_neg (by omega)]; exact hv.2.2))
            | (have t0 : (zp2 tp z).2.tk ≠ 0 := by omega
               have eF : zpF tp z = (zfl (zp2 tp z).2).ft := by unfold zpF znd; rw [if_neg t0]
               have nF : zpF tp z ≠ -1 := by rw [eF]; exact zfl_ft ho
               exact ⟨rfl, f0.tr (q4.2.mono (fun a j y => zNG_R (zNH_G y))), (q4.1.bad (zfl_ft ho)).trans (zb_t nF).symm, fun _ => (q4.1.2.1 (zfl_ft ho)).trans eF.symm, _, rfl, by assumption, fun y => absurd y nF⟩)
        · refine zV_iload (pc := 160) dX10_read_160 rfl ?_
          refine zV_goto (pc := 162) (tgt := 167) dX10_read_162 (by decide) ?_
          refine zV_iret (pc := 167) dX10_read_167 trivial ⟨Nat.zero_le _, Nat.zero_le _⟩ ?_
          first
            | (have t0 : (zp2 tp z).2.tk = 0 := by omega
               have eF : zpF tp z = -1 := by unfold zpF znd; rw [if_pos t0]; exact (zadv_o hT (s := (zp2 tp z).2) (by have := ho.1; omega) e).2.2.1
               refine ⟨rfl, f0, (hd.ok e).trans (zb_f (fun y => y eF)).symm, fun y => absurd eF y, _, rfl, by assumption, fun y => ?_⟩
               have hv := hv y
               unfold zvk
               first
                 | (rw [if_pos (by omega)]; exact hv.1)
                 | (rw [if_neg (by omega), if_pos (by omega)]; exact hv.2.1)
                 | (rw [if_neg (by omega), if_neg (by omega)]; exact hv.2.2))
            | (have t0 : (zp2 tp z).2.tk ≠ 0 := by omega
               have eF : zpF tp z = (zfl (zp2 tp z).2).ft := by unfold zpF znd; rw [if_neg t0]
               have nF : zpF tp z ≠ -1 := by rw [eF]; exact zfl_ft ho
               exact ⟨rfl, f0.tr (q4.2.mono (fun a j y => zNG_R (zNH_G y))), (q4.1.bad (zfl_ft ho)).trans (zb_t nF).symm, fun _ => (q4.1.2.1 (zfl_ft ho)).trans eF.symm, _, rfl, by assumption, fun y => absurd y nF⟩)
      · refine zV_iload_n (pc := 151) (i := 3) dX10_read_151 rfl rfl ?_
        refine zV_goto (pc := 152) (tgt := 167) dX10_read_152 (by decide) ?_
        refine zV_iret (pc := 167) dX10_read_167 trivial ⟨Nat.zero_le _, Nat.zero_le _⟩ ?_
        first
          | (have t0 : (zp2 tp z).2.tk = 0 := by omega
             have eF : zpF tp z = -1 := by unfold zpF znd; rw [if_pos t0]; exact (zadv_o hT (s := (zp2 tp z).2) (by have := ho.1; omega) e).2.2.1
             refine ⟨rfl, f0, (hd.ok e).trans (zb_f (fun y => y eF)).symm, fun y => absurd eF y, _, rfl, by assumption, fun y => ?_⟩
             have hv := hv y
             unfold zvk
             first
               | (rw [if_pos (by omega)]; exact hv.1)
               | (rw [if_neg (by omega), if_pos (by omega)]; exact hv.2.1)
               | (rw [if_neg (by omega), if_neg (by omega)]; exact hv.2.2))
          | (have t0 : (zp2 tp z).2.tk ≠ 0 := by omega
             have eF : zpF tp z = (zfl (zp2 tp z).2).ft := by unfold zpF znd; rw [if_neg t0]
             have nF : zpF tp z ≠ -1 := by rw [eF]; exact zfl_ft ho
             exact ⟨rfl, f0.tr (q4.2.mono (fun a j y => zNG_R (zNH_G y))), (q4.1.bad (zfl_ft ho)).trans (zb_t nF).symm, fun _ => (q4.1.2.1 (zfl_ft ho)).trans eF.symm, _, rfl, by assumption, fun y => absurd y nF⟩)
    · refine zV_aload_n (pc := 143) (i := 0) dX10_read_143 rfl rfl ?_
      refine zV_ivn (pc := 144) (ci := 10) dX10_read_144 klX10_173 mX10_fail ⟨by decide, rfl⟩ rfl ⟨Nat.zero_le _, Nat.zero_le _⟩ (kX10_fail hd ho) (zOb_of rfl) rfl rfl (Nat.le_of_ble_eq_true rfl) (fun M4 q4 => ?_)
      refine zV_iload_n (pc := 147) (i := 2) dX10_read_147 rfl rfl ?_
      refine zV_if_ne (pc := 148) (tgt := 155) dX10_read_148 (by decide) (by omega) (fun c_148 => ?_) (fun c_148 => ?_)
      · refine zV_iload_n (pc := 155) (i := 2) dX10_read_155 rfl rfl ?_
        refine zV_iconst (pc := 156) dX10_read_156 ?_
        refine zV_icmp_ne (pc := 157) (tgt := 165) dX10_read_157 (by decide) (by omega) (fun c_157 => ?_) (fun c_157 => ?_)
        · refine zV_iload (pc := 165) dX10_read_165 rfl ?_
          refine zV_iret (pc := 167) dX10_read_167 trivial ⟨Nat.zero_le _, Nat.zero_le _⟩ ?_
          first
            | (have t0 : (zp2 tp z).2.tk = 0 := by omega
               have eF : zpF tp z = -1 := by unfold zpF znd; rw [if_pos t0]; exact (zadv_o hT (s := (zp2 tp z).2) (by have := ho.1; omega) e).2.2.1
               refine ⟨rfl, f0, (hd.ok e).trans (zb_f (fun y => y eF)).symm, fun y => absurd eF y, _, rfl, by assumption, fun y => ?_⟩
               have hv := hv y
               unfold zvk
               first
                 | (rw [if_pos (by omega)]; exact hv.1)
                 | (rw [if_neg (by omega), if_pos (by omega)]; exact hv.2.1)
                 | (rw [if_neg (by omega), if_neg (by omega)]; exact hv.2.2))
            | (have t0 : (zp2 tp z).2.tk ≠ 0 := by omega
               have eF : zpF tp z = (zfl (zp2 tp z).2).ft := by unfold zpF znd; rw [if_neg t0]
               have nF : zpF tp z ≠ -1 := by rw [eF]; exact zfl_ft ho
               exact ⟨rfl, f0.tr (q4.2.mono (fun a j y => zNG_R (zNH_G y))), (q4.1.bad (zfl_ft ho)).trans (zb_t nF).symm, fun _ => (q4.1.2.1 (zfl_ft ho)).trans eF.symm, _, rfl, by assumption, fun y => absurd y nF⟩)
        · refine zV_iload (pc := 160) dX10_read_160 rfl ?_
          refine zV_goto (pc := 162) (tgt := 167) dX10_read_162 (by decide) ?_
          refine zV_iret (pc := 167) dX10_read_167 trivial ⟨Nat.zero_le _, Nat.zero_le _⟩ ?_
          first
            | (have t0 : (zp2 tp z).2.tk = 0 := by omega
               have eF : zpF tp z = -1 := by unfold zpF znd; rw [if_pos t0]; exact (zadv_o hT (s := (zp2 tp z).2) (by have := ho.1; omega) e).2.2.1
               refine ⟨rfl, f0, (hd.ok e).trans (zb_f (fun y => y eF)).symm, fun y => absurd eF y, _, rfl, by assumption, fun y => ?_⟩
               have hv := hv y
               unfold zvk
               first
                 | (rw [if_pos (by omega)]; exact hv.1)
                 | (rw [if_neg (by omega), if_pos (by omega)]; exact hv.2.1)
                 | (rw [if_neg (by omega), if_neg (by omega)]; exact hv.2.2))
            | (have t0 : (zp2 tp z).2.tk ≠ 0 := by omega
               have eF : zpF tp z = (zfl (zp2 tp z).2).ft := by unfold zpF znd; rw [if_neg t0]
               have nF : zpF tp z ≠ -1 := by rw [eF]; exact zfl_ft ho
               exact ⟨rfl, f0.tr (q4.2.mono (fun a j y => zNG_R (zNH_G y))), (q4.1.bad (zfl_ft ho)).trans (zb_t nF).symm, fun _ => (q4.1.2.1 (zfl_ft ho)).trans eF.symm, _, rfl, by assumption, fun y => absurd y nF⟩)
      · refine zV_iload_n (pc := 151) (i := 3) dX10_read_151 rfl rfl ?_
        refine zV_goto (pc := 152) (tgt := 167) dX10_read_152 (by decide) ?_
        refine zV_iret (pc := 167) dX10_read_167 trivial ⟨Nat.zero_le _, Nat.zero_le _⟩ ?_
        first
          | (have t0 : (zp2 tp z).2.tk = 0 := by omega
             have eF : zpF tp z = -1 := by unfold zpF znd; rw [if_pos t0]; exact (zadv_o hT (s := (zp2 tp z).2) (by have := ho.1; omega) e).2.2.1
             refine ⟨rfl, f0, (hd.ok e).trans (zb_f (fun y => y eF)).symm, fun y => absurd eF y, _, rfl, by assumption, fun y => ?_⟩
             have hv := hv y
             unfold zvk
             first
               | (rw [if_pos (by omega)]; exact hv.1)
               | (rw [if_neg (by omega), if_pos (by omega)]; exact hv.2.1)
               | (rw [if_neg (by omega), if_neg (by omega)]; exact hv.2.2))
          | (have t0 : (zp2 tp z).2.tk ≠ 0 := by omega
             have eF : zpF tp z = (zfl (zp2 tp z).2).ft := by unfold zpF znd; rw [if_neg t0]
             have nF : zpF tp z ≠ -1 := by rw [eF]; exact zfl_ft ho
             exact ⟨rfl, f0.tr (q4.2.mono (fun a j y => zNG_R (zNH_G y))), (q4.1.bad (zfl_ft ho)).trans (zb_t nF).symm, fun _ => (q4.1.2.1 (zfl_ft ho)).trans eF.symm, _, rfl, by assumption, fun y => absurd y nF⟩)
  · have t1 := ho.2.2.2.1 e
    refine zV_istore (pc := 127) dX10_read_127 rfl ?_
    try dsimp only [List.set_cons_succ, List.set_cons_zero]
    refine zV_aload_n (pc := 129) (i := 0) dX10_read_129 rfl rfl ?_
    refine zV_get (pc := 130) (j := 26) dX10_read_130 flX10_160 (zOb_of rfl) rfl (hd.bad e) ?_
    refine zV_if_ne (pc := 133) (tgt := 147) dX10_read_133 (by decide) (by decide) (fun _ => ?_) (fun y => absurd y (by decide))
    refine zV_iload_n (pc := 147) (i := 2) dX10_read_147 rfl rfl ?_
    refine zV_if_ne (pc := 148) (tgt := 155) dX10_read_148 (by decide) (by omega) (fun c_148 => ?_) (fun c_148 => ?_)
    · refine zV_iload_n (pc := 155) (i := 2) dX10_read_155 rfl rfl ?_
      refine zV_iconst (pc := 156) dX10_read_156 ?_
      refine zV_icmp_ne (pc := 157) (tgt := 165) dX10_read_157 (by decide) (by omega) (fun c_157 => ?_) (fun c_157 => ?_)
      · refine zV_iload (pc := 165) dX10_read_165 rfl ?_
        refine zV_iret (pc := 167) dX10_read_167 trivial ⟨Nat.zero_le _, Nat.zero_le _⟩ ?_
        have eF : zpF tp z = (zp2 tp z).2.ft := by unfold zpF; rw [znd_b t1 e (by decide)]
        have nF : zpF tp z ≠ -1 := by rw [eF]; exact e
        exact ⟨rfl, f0, (hd.bad e).trans (zb_t nF).symm, fun _ => (hd.2.1 e).trans eF.symm, _, rfl, by assumption, fun y => absurd y nF⟩
      · refine zV_iload (pc := 160) dX10_read_160 rfl ?_
        refine zV_goto (pc := 162) (tgt := 167) dX10_read_162 (by decide) ?_
        refine zV_iret (pc := 167) dX10_read_167 trivial ⟨Nat.zero_le _, Nat.zero_le _⟩ ?_
        have eF : zpF tp z = (zp2 tp z).2.ft := by unfold zpF; rw [znd_b t1 e (by decide)]
        have nF : zpF tp z ≠ -1 := by rw [eF]; exact e
        exact ⟨rfl, f0, (hd.bad e).trans (zb_t nF).symm, fun _ => (hd.2.1 e).trans eF.symm, _, rfl, by assumption, fun y => absurd y nF⟩
    · refine zV_iload_n (pc := 151) (i := 3) dX10_read_151 rfl rfl ?_
      refine zV_goto (pc := 152) (tgt := 167) dX10_read_152 (by decide) ?_
      refine zV_iret (pc := 167) dX10_read_167 trivial ⟨Nat.zero_le _, Nat.zero_le _⟩ ?_
      have eF : zpF tp z = (zp2 tp z).2.ft := by unfold zpF; rw [znd_b t1 e (by decide)]
      have nF : zpF tp z ≠ -1 := by rw [eF]; exact e
      exact ⟨rfl, f0, (hd.bad e).trans (zb_t nF).symm, fun _ => (hd.2.1 e).trans eF.symm, _, rfl, by assumption, fun y => absurd y nF⟩
set_option maxRecDepth 20000 in
set_option maxHeartbeats 2000000 in
theorem kX10_rd2 {f z : Int} {tp nm : Int → Int} (hT : ztp tp z) (hN : ∀ j : Int, 0 ≤ j → j ≤ 5 → -2147483648 ≤ nm j ∧ nm j ≤ 2147483647) {t wh : Int} (hw : -2147483648 ≤ wh ∧ wh ≤ 2147483647) {M0 : zM} {M1 : zM} {p q : Int} (hB : zMB M1 f tp z nm) (hd : zMd tp M1 (zp1 tp z).2) (ho : zσo z (zp1 tp z).2) (h25 : M1 58 25 = 0) (f0 : zFr zNR M0 M1) (hp : (-2147483648 ≤ p ∧ p ≤ 2147483647)) (hq : (-2147483648 ≤ q ∧ q ≤ 2147483647)) (hv : zpF tp z = -1 → p = zvv tp z nm 0 ∧ q = zvv tp z nm 1) : zV g xX10_read (zRQ tp z nm wh M0) 93 [zr 58, zi t, zi wh, zi p, (3, 0), (3, 0)] [zi q] 75 M1 0 0 := by
  by_cases e : (zp1 tp z).2.ft = -1
  · skip
    refine zV_istore (pc := 93) dX10_read_93 rfl ?_
    try dsimp only [List.set_cons_succ, List.set_cons_zero]
    refine zV_aload_n (pc := 95) (i := 0) dX10_read_95 rfl rfl ?_
    refine zV_get (pc := 96) (j := 26) dX10_read_96 flX10_160 (zOb_of rfl) rfl (hd.ok e) ?_
    refine zV_if_eq (pc := 99) (tgt := 106) dX10_read_99 (by decide) (by decide) (fun _ => ?_) (fun y => absurd rfl y)
    refine zV_aload_n (pc := 106) (i := 0) dX10_read_106 rfl rfl ?_
    refine zV_aload_n (pc := 107) (i := 0) dX10_read_107 rfl rfl ?_
    refine zV_bipush (pc := 108) dX10_read_108 (by decide) ?_
    refine zV_bipush (pc := 110) dX10_read_110 (by decide) ?_
    refine zV_bipush (pc := 112) dX10_read_112 (by decide) ?_
    refine zV_bipush (pc := 114) dX10_read_114 (by decide) ?_
    refine zV_bipush (pc := 116) dX10_read_116 (by decide) ?_
    refine zV_iconst (pc := 118) dX10_read_118 ?_
    refine zV_iconst (pc := 119) dX10_read_119 ?_
    refine zV_iconst (pc := 120) dX10_read_120 ?_
    refine zV_ivp (pc := 121) (ci := 10) dX10_read_121 klX10_179 mX10_isWord ⟨by decide, rfl⟩ rfl ⟨Nat.zero_le _, Nat.zero_le _⟩ (kX10_w_minds hB.1 hT hd ho) (zOb_of rfl) rfl rfl (Nat.le_of_ble_eq_true rfl) ?_
    refine zV_ivs (pc := 124) (ci := 10) dX10_read_124 klX10_322 mX10_part ⟨by decide, rfl⟩ rfl ⟨Nat.zero_le _, Nat.zero_le _⟩ (kX10_part hT hN hB hd ho h25 (k := 2) (by decide)) (zOb_of rfl) rfl rfl (Nat.le_of_ble_eq_true rfl) ?_
    rintro w8 N8 M2 ⟨rfl, d2, o2, f2, u, rfl, r2, v2⟩
    exact kX10_rd3 (f := 0) hT hN hw d2 (zpt_gd (k := 2) hT (by decide) ho).1.1 (f0.tr (f2.mono (fun a j y => zNG_R y))) hp hq r2 (fun y => ⟨(hv y).1, (hv y).2, (zvl_h (v2 (zpF_1 hT y).2.2.1)).symm⟩)
  · have t1 := ho.2.2.2.1 e
    refine zV_istore (pc := 93) dX10_read_93 rfl ?_
    try dsimp only [List.set_cons_succ, List.set_cons_zero]
    refine zV_aload_n (pc := 95) (i := 0) dX10_read_95 rfl rfl ?_
    refine zV_get (pc := 96) (j := 26) dX10_read_96 flX10_160 (zOb_of rfl) rfl (hd.bad e) ?_
    refine zV_if_eq (pc := 99) (tgt := 106) dX10_read_99 (by decide) (by decide) (fun y => absurd y (by decide)) (fun _ => ?_)
    refine zV_iconst (pc := 102) dX10_read_102 ?_
    refine zV_goto (pc := 103) (tgt := 127) dX10_read_103 (by decide) ?_
    have e9 : (zp2 tp z).2 = (zp1 tp z).2 := by show (zpt tp z 2 (zp1 tp z).2).2 = _; rw [zpt_b t1 e (by decide)]
    have nF : zpF tp z ≠ -1 := fun y => e (zpF_1 hT y).2.1
    exact kX10_rd3 (f := 0) hT hN hw (by rw [e9]; exact hd) (by rw [e9]; exact ho) f0 hp hq (by decide) (fun y => absurd y nF)
set_option maxRecDepth 20000 in
set_option maxHeartbeats 2000000 in
theorem kX10_rd1 {f z : Int} {tp nm : Int → Int} (hT : ztp tp z) (hN : ∀ j : Int, 0 ≤ j → j ≤ 5 → -2147483648 ≤ nm j ∧ nm j ≤ 2147483647) {t wh : Int} (hw : -2147483648 ≤ wh ∧ wh ≤ 2147483647) {M0 : zM} {M1 : zM} {p : Int} (hB : zMB M1 f tp z nm) (hd : zMd tp M1 (zp0 tp z).2) (ho : zσo z (zp0 tp z).2) (h25 : M1 58 25 = 0) (f0 : zFr zNR M0 M1) (hp : (-2147483648 ≤ p ∧ p ≤ 2147483647)) (hv : zpF tp z = -1 → p = zvv tp z nm 0) : zV g xX10_read (zRQ tp z nm wh M0) 59 [zr 58, zi t, zi wh, (3, 0), (3, 0), (3, 0)] [zi p] 75 M1 0 0 := by
  by_cases e : (zp0 tp z).2.ft = -1
  · skip
    refine zV_istore_n (pc := 59) (i := 3) dX10_read_59 rfl rfl ?_
    try dsimp only [List.set_cons_succ, List.set_cons_zero]
    refine zV_aload_n (pc := 60) (i := 0) dX10_read_60 rfl rfl ?_
    refine zV_get (pc := 61) (j := 26) dX10_read_61 flX10_160 (zOb_of rfl) rfl (hd.ok e) ?_
    refine zV_if_eq (pc := 64) (tgt := 71) dX10_read_64 (by decide) (by decide) (fun _ => ?_) (fun y => absurd rfl y)
    refine zV_aload_n (pc := 71) (i := 0) dX10_read_71 rfl rfl ?_
    refine zV_aload_n (pc := 72) (i := 0) dX10_read_72 rfl rfl ?_
    refine zV_bipush (pc := 73) dX10_read_73 (by decide) ?_
    refine zV_bipush (pc := 75) dX10_read_75 (by decide) ?_
    refine zV_bipush (pc := 77) dX10_read_77 (by decide) ?_
    refine zV_bipush (pc := 79) dX10_read_79 (by decide) ?_
    refine zV_bipush (pc := 81) dX10_read_81 (by decide) ?_
    refine zV_bipush (pc := 83) dX10_read_83 (by decide) ?_
    refine zV_iconst (pc := 85) dX10_read_85 ?_
    refine zV_iconst (pc := 86) dX10_read_86 ?_
    refine zV_ivp (pc := 87) (ci := 10) dX10_read_87 klX10_179 mX10_isWord ⟨by decide, rfl⟩ rfl ⟨Nat.zero_le _, Nat.zero_le _⟩ (kX10_w_crowds hB.1 hT hd ho) (zOb_of rfl) rfl rfl (Nat.le_of_ble_eq_true rfl) ?_
    refine zV_ivs (pc := 90) (ci := 10) dX10_read_90 klX10_322 mX10_part ⟨by decide, rfl⟩ rfl ⟨Nat.zero_le _, Nat.zero_le _⟩ (kX10_part hT hN hB hd ho h25 (k := 1) (by decide)) (zOb_of rfl) rfl rfl (Nat.le_of_ble_eq_true rfl) ?_
    rintro w8 N8 M2 ⟨rfl, d2, o2, f2, u, rfl, r2, v2⟩
    exact kX10_rd2 hT hN hw (hB.fr f2) d2 (zpt_gd (k := 1) hT (by decide) ho).1.1 o2 (f0.tr (f2.mono (fun a j y => zNG_R y))) hp r2 (fun y => ⟨hv y, (zvl_h (v2 (zpF_1 hT y).2.1)).symm⟩)
  · have t1 := ho.2.2.2.1 e
    refine zV_istore_n (pc := 59) (i := 3) dX10_read_59 rfl rfl ?_
    try dsimp only [List.set_cons_succ, List.set_cons_zero]
    refine zV_aload_n (pc := 60) (i := 0) dX10_read_60 rfl rfl ?_
    refine zV_get (pc := 61) (j := 26) dX10_read_61 flX10_160 (zOb_of rfl) rfl (hd.bad e) ?_
    refine zV_if_eq (pc := 64) (tgt := 71) dX10_read_64 (by decide) (by decide) (fun y => absurd y (by decide)) (fun _ => ?_)
    refine zV_iconst (pc := 67) dX10_read_67 ?_
    refine zV_goto (pc := 68) (tgt := 93) dX10_read_68 (by decide) ?_
    have e9 : (zp1 tp z).2 = (zp0 tp z).2 := by show (zpt tp z 1 (zp0 tp z).2).2 = _; rw [zpt_b t1 e (by decide)]
    have nF : zpF tp z ≠ -1 := fun y => e (zpF_1 hT y).1
    exact kX10_rd2 hT hN hw hB (by rw [e9]; exact hd) (by rw [e9]; exact ho) h25 f0 hp (by decide) (fun y => absurd y nF)
set_option maxRecDepth 20000 in
set_option maxHeartbeats 2000000 in
theorem kX10_read {t wh z : Int} {tp nm : Int → Int} (hS : zSt M) (ht : 0 ≤ t ∧ t < 6) (hw : -2147483648 ≤ wh ∧ wh ≤ 2147483647) (hz : M 60 t = z) (hT : ztp tp z) (htp : ∀ j : Int, 0 ≤ j → j < z → M 59 (160 * t + j) = tp j) (hN : ∀ j : Int, 0 ≤ j → j ≤ 5 → -2147483648 ≤ nm j ∧ nm j ≤ 2147483647) (hn : ∀ j : Int, 0 ≤ j → j ≤ 5 → M 58 (13 + j) = nm j) : zK g yX10_read xX10_read [zr 58, zi t, zi wh] 75 M (zRQ tp z nm wh M) := by
  refine zK_of (ls0 := [zr 58, zi t, zi wh, (3, 0), (3, 0), (3, 0)]) (by decide) rfl (by decide) rfl (Nat.le_of_ble_eq_true rfl) ?_
  refine zV_aload_n (pc := 0) (i := 0) dX10_read_0 rfl rfl ?_
  refine zV_sipush (pc := 1) dX10_read_1 (by decide) ?_
  refine zV_iload_n (pc := 4) (i := 1) dX10_read_4 rfl rfl ?_
  refine zV_imul (pc := 5) dX10_read_5 ?_
  refine zV_put (pc := 6) (j := 19) dX10_read_6 flX10_130 rfl (zOb_of rfl) rfl trivial ?_
  refine zV_aload_n (pc := 9) (i := 0) dX10_read_9 rfl rfl ?_
  refine zV_aload_n (pc := 10) (i := 0) dX10_read_10 rfl rfl ?_
  refine zV_get (pc := 11) (j := 2) dX10_read_11 flX10_17 (zOb_of rfl) rfl ((zU_j _ _ _ _ (by decide)).trans hS.e58_2) ?_
  refine zV_iload_n (pc := 14) (i := 1) dX10_read_14 rfl rfl ?_
  refine zV_iald (pc := 15) dX10_read_15 (zAr_of rfl : zAr 75 60 0 6) (by omega) ((zU_a _ _ _ _ (by decide)).trans hz) ?_
  refine zV_put (pc := 16) (j := 20) dX10_read_16 flX10_127 rfl (zOb_of rfl) rfl trivial ?_
  refine zV_aload_n (pc := 19) (i := 0) dX10_read_19 rfl rfl ?_
  refine zV_iconst (pc := 20) dX10_read_20 ?_
  refine zV_put (pc := 21) (j := 21) dX10_read_21 flX10_133 rfl (zOb_of rfl) rfl trivial ?_
  refine zV_aload_n (pc := 24) (i := 0) dX10_read_24 rfl rfl ?_
  refine zV_iconst (pc := 25) dX10_read_25 ?_
  refine zV_put (pc := 26) (j := 25) dX10_read_26 flX10_170 rfl (zOb_of rfl) rfl trivial ?_
  refine zV_aload_n (pc := 29) (i := 0) dX10_read_29 rfl rfl ?_
  refine zV_iconst (pc := 30) dX10_read_30 ?_
  refine zV_put (pc := 31) (j := 26) dX10_read_31 flX10_160 rfl (zOb_of rfl) rfl (Or.inl rfl) ?_
  have fB : zFr zNR M (zU (zU (zU (zU (zU M 58 19 (160 * t)) 58 20 z) 58 21 0) 58 25 0) 58 26 0) := (((((zFr.rf.up (a := 58) (j := 19) ⟨rfl, by decide, by decide⟩).up (a := 58) (j := 20) ⟨rfl, by decide, by decide⟩).up (a := 58) (j := 21) ⟨rfl, by decide, by decide⟩).up (a := 58) (j := 25) ⟨rfl, by decide, by decide⟩).up (a := 58) (j := 26) ⟨rfl, by decide, by decide⟩)
  have hB : zMB (zU (zU (zU (zU (zU M 58 19 (160 * t)) 58 20 z) 58 21 0) 58 25 0) 58 26 0) (160 * t) tp z nm := ⟨⟨hS.fr fB zNR_st, (zU_j _ _ _ _ (by decide)).trans ((zU_j _ _ _ _ (by decide)).trans ((zU_j _ _ _ _ (by decide)).trans ((zU_j _ _ _ _ (by decide)).trans (zU_s _ _ _ _)))), (zU_j _ _ _ _ (by decide)).trans ((zU_j _ _ _ _ (by decide)).trans ((zU_j _ _ _ _ (by decide)).trans (zU_s _ _ _ _))), fun j j0 j1 => (fB _ _ (by unfold zNR; omega)).trans (htp j j0 j1), by omega⟩, fun j j0 j1 => (fB _ _ (by unfold zNR; omega)).trans (hn j j0 j1)⟩
  have b25 : (zU (zU (zU (zU (zU M 58 19 (160 * t)) 58 20 z) 58 21 0) 58 25 0) 58 26 0) 58 25 = 0 := (zU_j _ _ _ _ (by decide)).trans (zU_s _ _ _ _)
  refine zV_aload_n (pc := 34) (i := 0) dX10_read_34 rfl rfl ?_
  refine zV_ivn (pc := 35) (ci := 10) dX10_read_35 klX10_176 mX10_next ⟨by decide, rfl⟩ rfl ⟨Nat.zero_le _, Nat.zero_le _⟩ (kX10_next hB.1 hT (s := (0, 0, 0, 0, -1)) ⟨Int.le_refl _, hT.1.1⟩ ((zU_j _ _ _ _ (by decide)).trans ((zU_j _ _ _ _ (by decide)).trans (zU_s _ _ _ _))) rfl (zU_s _ _ _ _)) (zOb_of rfl) rfl rfl (Nat.le_of_ble_eq_true rfl) (fun M1 q1 => ?_)
  have hB1 := hB.fr (q1.2.mono (fun a j y => zNF_G y))
  have ho := zstart hT
  have h25 := (q1.2 _ _ (by unfold zNF; omega)).trans b25
  have f1 := fB.tr (q1.2.mono (fun a j y => zNG_R (zNF_G y)))
  refine zV_aload_n (pc := 38) (i := 0) dX10_read_38 rfl rfl ?_
  refine zV_aload_n (pc := 39) (i := 0) dX10_read_39 rfl rfl ?_
  refine zV_bipush (pc := 40) dX10_read_40 (by decide) ?_
  refine zV_bipush (pc := 42) dX10_read_42 (by decide) ?_
  refine zV_bipush (pc := 44) dX10_read_44 (by decide) ?_
  refine zV_bipush (pc := 46) dX10_read_46 (by decide) ?_
  refine zV_bipush (pc := 48) dX10_read_48 (by decide) ?_
  refine zV_iconst (pc := 50) dX10_read_50 ?_
  refine zV_iconst (pc := 51) dX10_read_51 ?_
  refine zV_iconst (pc := 52) dX10_read_52 ?_
  refine zV_ivp (pc := 53) (ci := 10) dX10_read_53 klX10_179 mX10_isWord ⟨by decide, rfl⟩ rfl ⟨Nat.zero_le _, Nat.zero_le _⟩ (kX10_w_costs hB1.1 hT q1.1 ho) (zOb_of rfl) rfl rfl (Nat.le_of_ble_eq_true rfl) ?_
  refine zV_ivs (pc := 56) (ci := 10) dX10_read_56 klX10_322 mX10_part ⟨by decide, rfl⟩ rfl ⟨Nat.zero_le _, Nat.zero_le _⟩ (kX10_part hT hN hB1 q1.1 ho h25 (k := 0) (by decide)) (zOb_of rfl) rfl rfl (Nat.le_of_ble_eq_true rfl) ?_
  rintro w8 N8 M2 ⟨rfl, d2, o2, f2, u, rfl, r2, v2⟩
  exact kX10_rd1 hT hN hw (hB1.fr f2) d2 (zpt_gd (k := 0) hT (by decide) ho).1.1 o2 (f1.tr (f2.mono (fun a j y => zNG_R y))) r2 (fun y => (zvl_h (v2 (zpF_1 hT y).1)).symm)
end
