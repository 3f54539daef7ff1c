/-! THE MODEL'S READER: all levels, part, read (printed by wip/whole/p50.py) -/
def zbd (f : zσ → zρ) : Prop := ∀ s : zσ, s.tk = 1 → s.ft ≠ -1 → f s = ([], s)
theorem zfl_b {s : zσ} (h : s.tk = 1) (e : s.ft ≠ -1) : zfl s = s := by
  obtain ⟨a, b, c, d, f⟩ := s
  have h : a = 1 := h
  subst h
  show (1, b, c, d, if f = -1 then c else f) = (1, b, c, d, f)
  rw [if_neg e]
theorem zlo_bd {tp : Int → Int} {z : Int} {q : Int → Prop} {stp : Int → Int} {f : zσ → zρ} (hf : zbd f) (hq : ¬ q 1) : zbd (fun s => zlo tp z q stp f 160 (f s)) := fun s h e => by
  show zlo tp z q stp f 160 (f s) = ([], s)
  rw [hf s h e]
  exact zlo_f (by show ¬ q s.tk; rw [h]; exact hq)
theorem zCm2_bd {tp : Int → Int} {z : Int} {f : zσ → zρ} (hf : zbd f) : zbd (zCm2 tp z f) := fun s h e => by
  have a : zbd (zSum tp z (zTerm tp z f)) := zlo_bd (f := zTerm tp z f) (zlo_bd (q := fun t => t = 42) hf (by decide)) (q := fun t => t = 43 ∨ t = 45) (by decide)
  show zCmp tp z (zSum tp z (zTerm tp z f)) s = ([], s)
  unfold zCmp
  rw [a s h e]
  exact zit_f (by show ¬ (s.tk = 60 ∨ s.tk = 61); omega)
theorem zOr2_bd {tp : Int → Int} {z : Int} {f : zσ → zρ} (hf : zbd f) : zbd (zOr2 tp z f) := zlo_bd (f := zAnd tp z f) (zlo_bd (q := fun t => t = 10) hf (by decide)) (q := fun t => t = 9) (by decide)
theorem zlv_bd {tp : Int → Int} {z : Int} : ∀ r : Nat, zbd (zlv tp z r).1 ∧ zbd (zlv tp z r).2 := by
  intro r
  induction r with
  | zero =>
    have a : zbd (zOne0 tp z) := fun s h e => by
      show (if s.tk = 2 then _ else if s.tk = 3 then _ else ([], zfl s)) = ([], s)
      rw [if_neg (by omega), if_neg (by omega), zfl_b h e]
    refine ⟨a, fun s h e => ?_⟩
    show (if s.tk = 11 then _ else zCm2 tp z (zOne0 tp z) s) = ([], s)
    rw [if_neg (by omega)]
    exact zCm2_bd a s h e
  | succ r ih =>
    have a : zbd (zOneS tp z (zlv tp z r).1 (zOr2 tp z (zlv tp z r).2)) := fun s h e => by
      show (if s.tk = 2 then _ else if s.tk = 3 then _ else if s.tk = 45 then _ else if s.tk = 40 then _ else ([], zfl s)) = ([], s)
      rw [if_neg (by omega), if_neg (by omega), if_neg (by omega), if_neg (by omega), zfl_b h e]
    refine ⟨a, fun s h e => ?_⟩
    show (if s.tk = 11 then _ else zCm2 tp z (zOneS tp z (zlv tp z r).1 (zOr2 tp z (zlv tp z r).2)) s) = ([], s)
    rw [if_neg (by omega)]
    exact zCm2_bd a s h e
theorem znd_b {tp : Int → Int} {z k : Int} {s : zσ} (h : s.tk = 1) (e : s.ft ≠ -1) (hk : k ≠ 1) : znd tp z k s = s := by
  unfold znd
  rw [if_neg (by omega), zfl_b h e]
theorem zpt_b {tp : Int → Int} {z k : Int} {s : zσ} (h : s.tk = 1) (e : s.ft ≠ -1) (hk : 0 ≤ k ∧ k ≤ 2) : zpt tp z k s = ([], s) := by
  unfold zpt
  rw [znd_b h e (by omega), zOr2_bd (zlv_bd 5).2 s h e]
  show ([], znd tp z 59 s) = ([], s)
  rw [znd_b h e (by decide)]
theorem zpF_1 {tp : Int → Int} {z : Int} (hT : ztp tp z) (h : zpF tp z = -1) : (zp0 tp z).2.ft = -1 ∧ (zp1 tp z).2.ft = -1 ∧ (zp2 tp z).2.ft = -1 ∧ (zp2 tp z).2.tk = 0 := by
  have a := zp_all hT
  have m1 := (zpt_gd (k := 1) hT (by decide) a.1.1).1.2.1
  have m2 := (zpt_gd (k := 2) hT (by decide) a.1.2.1).1.2.1
  have b : (zp2 tp z).2.tk = 0 := by
    by_cases c : (zp2 tp z).2.tk = 0
    · exact c
    · exfalso
      have e : zpF tp z = (zfl (zp2 tp z).2).ft := by unfold zpF znd; rw [if_neg c]
      rw [e] at h
      exact zfl_ft a.1.2.2 h
  have c2 : (zp2 tp z).2.ft = -1 := by
    by_cases c : (zp2 tp z).2.ft = -1
    · exact c
    · have := a.1.2.2.2.2.2.1 c
      omega
  have c1 : (zp1 tp z).2.ft = -1 := by
    by_cases c : (zp1 tp z).2.ft = -1
    · exact c
    · exact absurd c2 (m2 c)
  have c0 : (zp0 tp z).2.ft = -1 := by
    by_cases c : (zp0 tp z).2.ft = -1
    · exact c
    · exact absurd c1 (m1 c)
  exact ⟨c0, c1, c2, b⟩
/-- what part k of a text says -/
noncomputable def zpk_ (tp : Int → Int) (z k : Int) : zρ := if k = 0 then zp0 tp z else if k = 1 then zp1 tp z else zp2 tp z
noncomputable def zvv (tp : Int → Int) (z : Int) (nm : Int → Int) (k : Int) : Int := (zbr nm (zpk_ tp z k).1 []).headD 0
theorem zvl_h {nm : Int → Int} {L : List Int} {v : Int} (h : zvl nm 31 L v) : (zbr nm L []).headD 0 = v := by
  rw [h [] (by decide)]
  rfl
section
variable {g : zG} {N : Nat} {M : zM}
theorem kX10_L5 {f z : Int} {tp nm : Int → Int} (hT : ztp tp z) (hN : ∀ j : Int, 0 ≤ j → j ≤ 5 → -2147483648 ≤ nm j ∧ nm j ≤ 2147483647) : zMf g yX10_atom5 xX10_atom5 f tp z nm 5 1 (zlv tp z 0).1 ∧ zMf g yX10_not5 xX10_not5 f tp z nm 5 4 (zlv tp z 0).2 ∧ zMf g yX10_either5 xX10_either5 f tp z nm 5 6 (zOr2 tp z (zlv tp z 0).2) := by
  have gl := zlv_gd hT 0
  have a : zMf g yX10_atom5 xX10_atom5 f tp z nm 5 1 (zlv tp z 0).1 := kX10_atom5 hT hN
  have t := kX10_term5 hT hN gl.1 a
  have s := kX10_added5 hT hN (zTerm_gd hT gl.1) t
  have n : zMf g yX10_not5 xX10_not5 f tp z nm 5 4 (zlv tp z 0).2 := kX10_not5 hT hN (zSum_gd hT (zTerm_gd hT gl.1)) s
  have b := kX10_both5 hT hN gl.2 n
  exact ⟨a, n, kX10_either5 hT hN (zAnd_gd hT gl.2) b⟩
theorem kX10_L4 {f z : Int} {tp nm : Int → Int} (hT : ztp tp z) (hN : ∀ j : Int, 0 ≤ j → j ≤ 5 → -2147483648 ≤ nm j ∧ nm j ≤ 2147483647) : zMf g yX10_atom4 xX10_atom4 f tp z nm 4 6 (zlv tp z 1).1 ∧ zMf g yX10_not4 xX10_not4 f tp z nm 4 9 (zlv tp z 1).2 ∧ zMf g yX10_either4 xX10_either4 f tp z nm 4 11 (zOr2 tp z (zlv tp z 1).2) := by
  have gl := zlv_gd hT 1
  have lo := kX10_L5 (g := g) (f := f) hT hN
  have gp := zlv_gd hT 0
  have a : zMf g yX10_atom4 xX10_atom4 f tp z nm 4 6 (zlv tp z 1).1 := kX10_atom4 hT hN gp.1 (zOr2_gd hT gp.2) lo.1 lo.2.2
  have t := kX10_term4 hT hN gl.1 a
  have s := kX10_added4 hT hN (zTerm_gd hT gl.1) t
  have n : zMf g yX10_not4 xX10_not4 f tp z nm 4 9 (zlv tp z 1).2 := kX10_not4 hT hN (zSum_gd hT (zTerm_gd hT gl.1)) s lo.2.1
  have b := kX10_both4 hT hN gl.2 n
  exact ⟨a, n, kX10_either4 hT hN (zAnd_gd hT gl.2) b⟩
theorem kX10_L3 {f z : Int} {tp nm : Int → Int} (hT : ztp tp z) (hN : ∀ j : Int, 0 ≤ j → j ≤ 5 → -2147483648 ≤ nm j ∧ nm j ≤ 2147483647) : zMf g yX10_atom3 xX10_atom3 f tp z nm 3 11 (zlv tp z 2).1 ∧ zMf g yX10_not3 xX10_not3 f tp z nm 3 14 (zlv tp z 2).2 ∧ zMf g yX10_either3 xX10_either3 f tp z nm 3 16 (zOr2 tp z (zlv tp z 2).2) := by
  have gl := zlv_gd hT 2
  have lo := kX10_L4 (g := g) (f := f) hT hN
  have gp := zlv_gd hT 1
  have a : zMf g yX10_atom3 xX10_atom3 f tp z nm 3 11 (zlv tp z 2).1 := kX10_atom3 hT hN gp.1 (zOr2_gd hT gp.2) lo.1 lo.2.2
  have t := kX10_term3 hT hN gl.1 a
  have s := kX10_added3 hT hN (zTerm_gd hT gl.1) t
  have n : zMf g yX10_not3 xX10_not3 f tp z nm 3 14 (zlv tp z 2).2 := kX10_not3 hT hN (zSum_gd hT (zTerm_gd hT gl.1)) s lo.2.1
  have b := kX10_both3 hT hN gl.2 n
  exact ⟨a, n, kX10_either3 hT hN (zAnd_gd hT gl.2) b⟩
theorem kX10_L2 {f z : Int} {tp nm : Int → Int} (hT : ztp tp z) (hN : ∀ j : Int, 0 ≤ j → j ≤ 5 → -2147483648 ≤ nm j ∧ nm j ≤ 2147483647) : zMf g yX10_atom2 xX10_atom2 f tp z nm 2 16 (zlv tp z 3).1 ∧ zMf g yX10_not2 xX10_not2 f tp z nm 2 19 (zlv tp z 3).2 ∧ zMf g yX10_either2 xX10_either2 f tp z nm 2 21 (zOr2 tp z (zlv tp z 3).2) := by
  have gl := zlv_gd hT 3
  have lo := kX10_L3 (g := g) (f := f) hT hN
  have gp := zlv_gd hT 2
  have a : zMf g yX10_atom2 xX10_atom2 f tp z nm 2 16 (zlv tp z 3).1 := kX10_atom2 hT hN gp.1 (zOr2_gd hT gp.2) lo.1 lo.2.2
  have t := kX10_term2 hT hN gl.1 a
  have s := kX10_added2 hT hN (zTerm_gd hT gl.1) t
  have n : zMf g yX10_not2 xX10_not2 f tp z nm 2 19 (zlv tp z 3).2 := kX10_not2 hT hN (zSum_gd hT (zTerm_gd hT gl.1)) s lo.2.1
  have b := kX10_both2 hT hN gl.2 n
  exact ⟨a, n, kX10_either2 hT hN (zAnd_gd hT gl.2) b⟩
theorem kX10_L1 {f z : Int} {tp nm : Int → Int} (hT : ztp tp z) (hN : ∀ j : Int, 0 ≤ j → j ≤ 5 → -2147483648 ≤ nm j ∧ nm j ≤ 2147483647) : zMf g yX10_atom1 xX10_atom1 f tp z nm 1 21 (zlv tp z 4).1 ∧ zMf g yX10_not1 xX10_not1 f tp z nm 1 24 (zlv tp z 4).2 ∧ zMf g yX10_either1 xX10_either1 f tp z nm 1 26 (zOr2 tp z (zlv tp z 4).2) := by
  have gl := zlv_gd hT 4
  have lo := kX10_L2 (g := g) (f := f) hT hN
  have gp := zlv_gd hT 3
  have a : zMf g yX10_atom1 xX10_atom1 f tp z nm 1 21 (zlv tp z 4).1 := kX10_atom1 hT hN gp.1 (zOr2_gd hT gp.2) lo.1 lo.2.2
  have t := kX10_term1 hT hN gl.1 a
  have s := kX10_added1 hT hN (zTerm_gd hT gl.1) t
  have n : zMf g yX10_not1 xX10_not1 f tp z nm 1 24 (zlv tp z 4).2 := kX10_not1 hT hN (zSum_gd hT (zTerm_gd hT gl.1)) s lo.2.1
  have b := kX10_both1 hT hN gl.2 n
  exact ⟨a, n, kX10_either1 hT hN (zAnd_gd hT gl.2) b⟩
theorem kX10_L0 {f z : Int} {tp nm : Int → Int} (hT : ztp tp z) (hN : ∀ j : Int, 0 ≤ j → j ≤ 5 → -2147483648 ≤ nm j ∧ nm j ≤ 2147483647) : zMf g yX10_atom0 xX10_atom0 f tp z nm 0 26 (zlv tp z 5).1 ∧ zMf g yX10_not0 xX10_not0 f tp z nm 0 29 (zlv tp z 5).2 ∧ zMf g yX10_either0 xX10_either0 f tp z nm 0 31 (zOr2 tp z (zlv tp z 5).2) := by
  have gl := zlv_gd hT 5
  have lo := kX10_L1 (g := g) (f := f) hT hN
  have gp := zlv_gd hT 4
  have a : zMf g yX10_atom0 xX10_atom0 f tp z nm 0 26 (zlv tp z 5).1 := kX10_atom0 hT hN gp.1 (zOr2_gd hT gp.2) lo.1 lo.2.2
  have t := kX10_term0 hT hN gl.1 a
  have s := kX10_added0 hT hN (zTerm_gd hT gl.1) t
  have n : zMf g yX10_not0 xX10_not0 f tp z nm 0 29 (zlv tp z 5).2 := kX10_not0 hT hN (zSum_gd hT (zTerm_gd hT gl.1)) s lo.2.1
  have b := kX10_both0 hT hN gl.2 n
  exact ⟨a, n, kX10_either0 hT hN (zAnd_gd hT gl.2) b⟩
set_option maxRecDepth 20000 in
set_option maxHeartbeats 2000000 in
theorem kX10_pt2 {f z : Int} {tp nm : Int → Int} (hT : ztp tp z) (hN : ∀ j : Int, 0 ≤ j → j ≤ 5 → -2147483648 ≤ nm j ∧ nm j ≤ 2147483647) {s1 : zσ} {M0 M1 : zM} {b : Int} (hB : zMB M1 f tp z nm) (hd : zMd tp M1 s1) (ho : zσo z s1) (h25 : M1 58 25 = 0) (f0 : zFr zNG M0 M1) {r : zρ} (hr : r = ((zOr2 tp z (zlv tp z 5).2 s1).1, znd tp z 59 (zOr2 tp z (zlv tp z 5).2 s1).2)) : zV g xX10_part (zMQ tp 0 31 nm r M0) 19 [zr 58, zi b, (3, 0)] [] 75 M1 0 0 := by
  subst hr
  by_cases e : s1.ft = -1
  · skip
    refine zV_aload_n (pc := 19) (i := 0) dX10_part_19 rfl rfl ?_
    refine zV_get (pc := 20) (j := 26) dX10_part_20 flX10_160 (zOb_of rfl) rfl (hd.ok e) ?_
    refine zV_if_eq (pc := 23) (tgt := 30) dX10_part_23 (by decide) (by decide) (fun _ => ?_) (fun y => absurd rfl y)
    refine zV_aload_n (pc := 30) (i := 0) dX10_part_30 rfl rfl ?_
    refine zV_ivs (pc := 31) (ci := 10) dX10_part_31 klX10_319 mX10_either0 ⟨by decide, rfl⟩ rfl ⟨Nat.zero_le _, Nat.zero_le _⟩ ((kX10_L0 hT hN).2.2 M1 s1 hB hd ho h25) (zOb_of rfl) rfl rfl (Nat.le_of_ble_eq_true rfl) ?_
    rintro w8 N8 M2 ⟨rfl, d2, o2, f2, u, rfl, r2, v2⟩
    have gb := zOr2_gd hT (zlv_gd hT 5).2 s1 ho
    refine zV_istore_n (pc := 34) (i := 2) dX10_part_34 rfl rfl ?_
    try dsimp only [List.set_cons_succ, List.set_cons_zero]
    refine zV_aload_n (pc := 35) (i := 0) dX10_part_35 rfl rfl ?_
    refine zV_bipush (pc := 36) dX10_part_36 (by decide) ?_
    refine zV_ivp (pc := 38) (ci := 10) dX10_part_38 klX10_201 mX10_isSign ⟨by decide, rfl⟩ rfl ⟨Nat.zero_le _, Nat.zero_le _⟩ (kX10_isSign d2 gb.1.1 (by decide)) (zOb_of rfl) rfl rfl (Nat.le_of_ble_eq_true rfl) ?_
    refine zV_if_neb (pc := 41) (tgt := 48) dX10_part_41 (by decide) (fun c_41 => ?_) (fun c_41 => ?_)
    · have hlv : zlive (zOr2 tp z (zlv tp z 5).2 s1).2 := ⟨by omega, by omega⟩
      have e2 : znd tp z 59 (zOr2 tp z (zlv tp z 5).2 s1).2 = zadv tp z (zOr2 tp z (zlv tp z 5).2 s1).2 := if_pos c_41
      refine zV_aload_n (pc := 48) (i := 0) dX10_part_48 rfl rfl ?_
      refine zV_get (pc := 49) (j := 26) dX10_part_49 flX10_160 (zOb_of rfl) rfl (d2.ok (gb.1.1.live hlv)) ?_
      refine zV_if_ne (pc := 52) (tgt := 59) dX10_part_52 (by decide) (by decide) (fun y => absurd rfl y) (fun _ => ?_)
      refine zV_aload_n (pc := 55) (i := 0) dX10_part_55 rfl rfl ?_
      refine zV_ivn (pc := 56) (ci := 10) dX10_part_56 klX10_176 mX10_next ⟨by decide, rfl⟩ rfl ⟨Nat.zero_le _, Nat.zero_le _⟩ (kX10_next (hB.fr f2).1 hT (s := (zOr2 tp z (zlv tp z 5).2 s1).2) (by have := gb.1.1.1; omega) (d2.here gb.1.1 hlv) (gb.1.1.live hlv) (d2.ok (gb.1.1.live hlv))) (zOb_of rfl) rfl rfl (Nat.le_of_ble_eq_true rfl) (fun M3 q3 => ?_)
      refine zV_iload_n (pc := 59) (i := 2) dX10_part_59 rfl rfl ?_
      refine zV_iret (pc := 60) dX10_part_60 trivial ⟨Nat.zero_le _, Nat.zero_le _⟩ ?_
      rw [e2]
      exact ⟨rfl, q3.1, (q3.2 _ _ (by unfold zNF; omega)).trans o2, (f0.tr f2).tr (q3.2.mono (fun a j y => zNF_G y)), u, rfl, r2, fun _ => v2 (gb.1.1.live hlv)⟩
    · have e2 : znd tp z 59 (zOr2 tp z (zlv tp z 5).2 s1).2 = zfl (zOr2 tp z (zlv tp z 5).2 s1).2 := if_neg c_41
      refine zV_aload_n (pc := 44) (i := 0) dX10_part_44 rfl rfl ?_
      refine zV_ivn (pc := 45) (ci := 10) dX10_part_45 klX10_173 mX10_fail ⟨by decide, rfl⟩ rfl ⟨Nat.zero_le _, Nat.zero_le _⟩ (kX10_fail d2 gb.1.1) (zOb_of rfl) rfl rfl (Nat.le_of_ble_eq_true rfl) (fun M3 q3 => ?_)
      refine zV_aload_n (pc := 48) (i := 0) dX10_part_48 rfl rfl ?_
      refine zV_get (pc := 49) (j := 26) dX10_part_49 flX10_160 (zOb_of rfl) rfl (q3.1.bad (zfl_ft gb.1.1)) ?_
      refine zV_if_ne (pc := 52) (tgt := 59) dX10_part_52 (by decide) (by decide) (fun _ => ?_) (fun y => absurd y (by decide))
      refine zV_iload_n (pc := 59) (i := 2) dX10_part_59 rfl rfl ?_
      refine zV_iret (pc := 60) dX10_part_60 trivial ⟨Nat.zero_le _, Nat.zero_le _⟩ ?_
      rw [e2]
      exact ⟨rfl, q3.1, (q3.2 _ _ (by unfold zNH; omega)).trans o2, (f0.tr f2).tr (q3.2.mono (fun a j y => zNH_G y)), u, rfl, r2, fun y => absurd y (zfl_ft gb.1.1)⟩
  · have t1 := ho.2.2.2.1 e
    refine zV_aload_n (pc := 19) (i := 0) dX10_part_19 rfl rfl ?_
    refine zV_get (pc := 20) (j := 26) dX10_part_20 flX10_160 (zOb_of rfl) rfl (hd.bad e) ?_
    refine zV_if_eq (pc := 23) (tgt := 30) dX10_part_23 (by decide) (by decide) (fun y => absurd y (by decide)) (fun _ => ?_)
    refine zV_iconst (pc := 26) dX10_part_26 ?_
    refine zV_goto (pc := 27) (tgt := 34) dX10_part_27 (by decide) ?_
    refine zV_istore_n (pc := 34) (i := 2) dX10_part_34 rfl rfl ?_
    try dsimp only [List.set_cons_succ, List.set_cons_zero]
    refine zV_aload_n (pc := 35) (i := 0) dX10_part_35 rfl rfl ?_
    refine zV_bipush (pc := 36) dX10_part_36 (by decide) ?_
    refine zV_ivp (pc := 38) (ci := 10) dX10_part_38 klX10_201 mX10_isSign ⟨by decide, rfl⟩ rfl ⟨Nat.zero_le _, Nat.zero_le _⟩ (kX10_isSign hd ho (by decide)) (zOb_of rfl) rfl rfl (Nat.le_of_ble_eq_true rfl) ?_
    refine zV_if_neb (pc := 41) (tgt := 48) dX10_part_41 (by decide) (fun y => absurd y (by omega)) (fun _ => ?_)
    refine zV_aload_n (pc := 44) (i := 0) dX10_part_44 rfl rfl ?_
    refine zV_ivn (pc := 45) (ci := 10) dX10_part_45 klX10_173 mX10_fail ⟨by decide, rfl⟩ rfl ⟨Nat.zero_le _, Nat.zero_le _⟩ (kX10_fail hd ho) (zOb_of rfl) rfl rfl (Nat.le_of_ble_eq_true rfl) (fun M2 q2 => ?_)
    rw [zfl_b t1 e] at q2
    have q2bad := q2.1.bad e
    refine zV_aload_n (pc := 48) (i := 0) dX10_part_48 rfl rfl ?_
    refine zV_get (pc := 49) (j := 26) dX10_part_49 flX10_160 (zOb_of rfl) rfl (q2bad) ?_
    refine zV_if_ne (pc := 52) (tgt := 59) dX10_part_52 (by decide) (by decide) (fun _ => ?_) (fun y => absurd y (by decide))
    refine zV_iload_n (pc := 59) (i := 2) dX10_part_59 rfl rfl ?_
    refine zV_iret (pc := 60) dX10_part_60 trivial ⟨Nat.zero_le _, Nat.zero_le _⟩ ?_
    have e1 := zOr2_bd (tp := tp) (z := z) (zlv_bd (tp := tp) (z := z) 5).2 s1 t1 e
    rw [e1]
    have e2 : znd tp z 59 s1 = s1 := znd_b t1 e (by decide)
    show zMQ tp 0 31 nm ([], znd tp z 59 s1) M0 _ _ _
    rw [e2]
    exact ⟨rfl, q2.1, (q2.2 _ _ (by unfold zNH; omega)).trans h25, f0.tr (q2.2.mono (fun a j y => zNH_G y)), 0, rfl, by decide, fun y => absurd y e⟩
set_option maxRecDepth 20000 in
set_option maxHeartbeats 2000000 in
theorem kX10_part {f z : Int} {tp nm : Int → Int} (hT : ztp tp z) (hN : ∀ j : Int, 0 ≤ j → j ≤ 5 → -2147483648 ≤ nm j ∧ nm j ≤ 2147483647) {s : zσ} (hB : zMB M f tp z nm) (hd : zMd tp M s) (ho : zσo z s) (h25 : M 58 25 = 0) {k : Int} (hk : 0 ≤ k ∧ k ≤ 2) : zK g yX10_part xX10_part [zr 58, zi (zb (s.tk = 6 + k))] 75 M (zMQ tp 0 31 nm (zpt tp z k s) M) := by
  refine zK_of (ls0 := [zr 58, zi (zb (s.tk = 6 + k)), (3, 0)]) (by decide) rfl (by decide) rfl (Nat.le_of_ble_eq_true rfl) ?_
  refine zV_iload_n (pc := 0) (i := 1) dX10_part_0 rfl rfl ?_
  refine zV_if_neb (pc := 1) (tgt := 8) dX10_part_1 (by decide) (fun c_1 => ?_) (fun c_1 => ?_)
  · have hlv : zlive s := ⟨by omega, by omega⟩
    have e2 : znd tp z (6 + k) s = zadv tp z s := if_pos c_1
    refine zV_aload_n (pc := 8) (i := 0) dX10_part_8 rfl rfl ?_
    refine zV_get (pc := 9) (j := 26) dX10_part_9 flX10_160 (zOb_of rfl) rfl (hd.ok (ho.live hlv)) ?_
    refine zV_if_ne (pc := 12) (tgt := 19) dX10_part_12 (by decide) (by decide) (fun y => absurd rfl y) (fun _ => ?_)
    refine zV_aload_n (pc := 15) (i := 0) dX10_part_15 rfl rfl ?_
    refine zV_ivn (pc := 16) (ci := 10) dX10_part_16 klX10_176 mX10_next ⟨by decide, rfl⟩ rfl ⟨Nat.zero_le _, Nat.zero_le _⟩ (kX10_next hB.1 hT (s := s) (by have := ho.1; omega) (hd.here ho hlv) (ho.live hlv) (hd.ok (ho.live hlv))) (zOb_of rfl) rfl rfl (Nat.le_of_ble_eq_true rfl) (fun M1 q1 => ?_)
    exact kX10_pt2 hT hN (hB.fr (q1.2.mono (fun a j y => zNF_G y))) q1.1 (zgx_ad hT ho hlv).1.1 ((q1.2 _ _ (by unfold zNF; omega)).trans h25) (q1.2.mono (fun a j y => zNF_G y)) (by unfold zpt; rw [e2])
  · have e2 : znd tp z (6 + k) s = zfl s := if_neg c_1
    refine zV_aload_n (pc := 4) (i := 0) dX10_part_4 rfl rfl ?_
    refine zV_ivn (pc := 5) (ci := 10) dX10_part_5 klX10_173 mX10_fail ⟨by decide, rfl⟩ rfl ⟨Nat.zero_le _, Nat.zero_le _⟩ (kX10_fail hd ho) (zOb_of rfl) rfl rfl (Nat.le_of_ble_eq_true rfl) (fun M1 q1 => ?_)
    refine zV_aload_n (pc := 8) (i := 0) dX10_part_8 rfl rfl ?_
    refine zV_get (pc := 9) (j := 26) dX10_part_9 flX10_160 (zOb_of rfl) rfl (q1.1.bad (zfl_ft ho)) ?_
    refine zV_if_ne (pc := 12) (tgt := 19) dX10_part_12 (by decide) (by decide) (fun _ => ?_) (fun y => absurd y (by decide))
    exact kX10_pt2 hT hN (hB.fr (q1.2.mono (fun a j y => zNH_G y))) q1.1 (zgx_fl hT.1.2 ho).1.1 ((q1.2 _ _ (by unfold zNH; omega)).trans h25) (q1.2.mono (fun a j y => zNH_G y)) (by unfold zpt; rw [e2])
end
