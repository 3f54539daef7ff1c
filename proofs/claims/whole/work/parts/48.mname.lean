/-! THE MODEL'S READER: words, opens, name (printed by wip/whole/p48.py) -/
/-- the model's reader, with the names told -/
def zMB (M : zM) (f : Int) (tp : Int → Int) (z : Int) (nm : Int → Int) : Prop := zMC M f tp z ∧ ∀ j : Int, 0 ≤ j → j ≤ 5 → M 58 (13 + j) = nm j
theorem zMB.fr {M M1 : zM} {f z : Int} {tp nm : Int → Int} (h : zMB M f tp z nm) (fr : zFr zNG M M1) : zMB M1 f tp z nm :=
  ⟨h.1.fr fr, fun j j0 j1 => (fr _ _ (by unfold zNG; omega)).trans (h.2 j j0 j1)⟩
def zMQ (tp : Int → Int) (o : Int) (h : Nat) (nm : Int → Int) (r : zρ) (M : zM) : zP := fun w N' M1 => N' = 75 ∧ zMd tp M1 r.2 ∧ M1 58 25 = o ∧ zFr zNG M M1 ∧ ∃ v : Int, w = some (zi v) ∧ (-2147483648 ≤ v ∧ v ≤ 2147483647) ∧ (r.2.ft = -1 → zvl nm h r.1 v)
def zMf (g : zG) (y : MethodName) (X : zX) (f : Int) (tp : Int → Int) (z : Int) (nm : Int → Int) (o : Int) (h : Nat) (fn : zσ → zρ) : Prop :=
  ∀ (M : zM) (s : zσ), zMB M f tp z nm → zMd tp M s → zσo z s → M 58 25 = o → zK g y X [zr 58] 75 M (zMQ tp o h nm (fn s) M)
theorem zcd_6 {v : Nat} (h : 6 ≤ v) : zcd v = (v : Int) := if_neg (by omega)
theorem zws_k {s : zσ} {v : Nat} (h : 6 ≤ v) : zws_ s v ↔ s.tk = (v : Int) := by
  unfold zws_
  rw [zcd_6 h]
  exact ⟨fun q => q.1, fun q => ⟨q, fun y => by omega⟩⟩
theorem zws_n {s : zσ} {v : Nat} (h : v < 6) : zws_ s v ↔ (s.tk = 3 ∧ s.vl = v) := by
  unfold zws_ zcd
  rw [if_pos h]
  exact ⟨fun q => ⟨q.1, q.2 h⟩, fun q => ⟨q.1, fun _ => q.2⟩⟩
section
variable {g : zG} {X : zX} {P : zP} {pc : Nat} {ls st : List zv} {N : Nat} {M : zM} {kc ks : Nat}
theorem zV_zw {x : Int} (k : zV g X P pc ls (zi (zw x) :: st) N M kc ks) : zV g X P pc ls (zi x :: st) N M kc ks := by
  intro p e s m args below meth c H locs Q la F hl L R S E
  have e1 : zT g (zi x) = zT g (zi (zw x)) := by rw [zT_i, zT_i, zw_ofw]
  rw [List.map_cons, e1]
  exact k p e s m args below meth c H locs Q la F hl L R S E
end
section
variable {g : zG} {N : Nat} {M : zM}
theorem zlw_day : zlw 0 0 = 100 ∧ zlw 0 1 = 97 ∧ zlw 0 2 = 121 ∧ zlw 0 3 = 0 ∧ zlw 0 4 = 0 ∧ zlw 0 5 = 0 ∧ zlw 0 6 = 0 ∧ zlw 0 7 = 0 := by decide +kernel
theorem kX10_w_day {f z : Int} {tp : Int → Int} (hC : zMC M f tp z) (hT : ztp tp z) {s : zσ} (hd : zMd tp M s) (ho : zσo z s) : zK g yX10_isWord xX10_isWord [zr 58, zi 100, zi 97, zi 121, zi 0, zi 0, zi 0, zi 0, zi 0] 75 M (zPp (zi (zb (s.tk = 3 ∧ s.vl = 0))) 75 M) := by
  have h := kX10_isWord (g := g) hC hT hd ho (v := 0) (by decide)
  obtain ⟨e0, e1, e2, e3, e4, e5, e6, e7⟩ := zlw_day
  rw [e0, e1, e2, e3, e4, e5, e6, e7, zb_c (zws_n (by decide))] at h
  exact h
theorem zlw_thing : zlw 1 0 = 116 ∧ zlw 1 1 = 104 ∧ zlw 1 2 = 105 ∧ zlw 1 3 = 110 ∧ zlw 1 4 = 103 ∧ zlw 1 5 = 0 ∧ zlw 1 6 = 0 ∧ zlw 1 7 = 0 := by decide +kernel
theorem kX10_w_thing {f z : Int} {tp : Int → Int} (hC : zMC M f tp z) (hT : ztp tp z) {s : zσ} (hd : zMd tp M s) (ho : zσo z s) : zK g yX10_isWord xX10_isWord [zr 58, zi 116, zi 104, zi 105, zi 110, zi 103, zi 0, zi 0, zi 0] 75 M (zPp (zi (zb (s.tk = 3 ∧ s.vl = 1))) 75 M) := by
  have h := kX10_isWord (g := g) hC hT hd ho (v := 1) (by decide)
  obtain ⟨e0, e1, e2, e3, e4, e5, e6, e7⟩ := zlw_thing
  rw [e0, e1, e2, e3, e4, e5, e6, e7, zb_c (zws_n (by decide))] at h
  exact h
theorem zlw_many : zlw 2 0 = 109 ∧ zlw 2 1 = 97 ∧ zlw 2 2 = 110 ∧ zlw 2 3 = 121 ∧ zlw 2 4 = 0 ∧ zlw 2 5 = 0 ∧ zlw 2 6 = 0 ∧ zlw 2 7 = 0 := by decide +kernel
theorem kX10_w_many {f z : Int} {tp : Int → Int} (hC : zMC M f tp z) (hT : ztp tp z) {s : zσ} (hd : zMd tp M s) (ho : zσo z s) : zK g yX10_isWord xX10_isWord [zr 58, zi 109, zi 97, zi 110, zi 121, zi 0, zi 0, zi 0, zi 0] 75 M (zPp (zi (zb (s.tk = 3 ∧ s.vl = 2))) 75 M) := by
  have h := kX10_isWord (g := g) hC hT hd ho (v := 2) (by decide)
  obtain ⟨e0, e1, e2, e3, e4, e5, e6, e7⟩ := zlw_many
  rw [e0, e1, e2, e3, e4, e5, e6, e7, zb_c (zws_n (by decide))] at h
  exact h
theorem zlw_period : zlw 3 0 = 112 ∧ zlw 3 1 = 101 ∧ zlw 3 2 = 114 ∧ zlw 3 3 = 105 ∧ zlw 3 4 = 111 ∧ zlw 3 5 = 100 ∧ zlw 3 6 = 0 ∧ zlw 3 7 = 0 := by decide +kernel
theorem kX10_w_period {f z : Int} {tp : Int → Int} (hC : zMC M f tp z) (hT : ztp tp z) {s : zσ} (hd : zMd tp M s) (ho : zσo z s) : zK g yX10_isWord xX10_isWord [zr 58, zi 112, zi 101, zi 114, zi 105, zi 111, zi 100, zi 0, zi 0] 75 M (zPp (zi (zb (s.tk = 3 ∧ s.vl = 3))) 75 M) := by
  have h := kX10_isWord (g := g) hC hT hd ho (v := 3) (by decide)
  obtain ⟨e0, e1, e2, e3, e4, e5, e6, e7⟩ := zlw_period
  rw [e0, e1, e2, e3, e4, e5, e6, e7, zb_c (zws_n (by decide))] at h
  exact h
theorem zlw_rest : zlw 4 0 = 114 ∧ zlw 4 1 = 101 ∧ zlw 4 2 = 115 ∧ zlw 4 3 = 116 ∧ zlw 4 4 = 0 ∧ zlw 4 5 = 0 ∧ zlw 4 6 = 0 ∧ zlw 4 7 = 0 := by decide +kernel
theorem kX10_w_rest {f z : Int} {tp : Int → Int} (hC : zMC M f tp z) (hT : ztp tp z) {s : zσ} (hd : zMd tp M s) (ho : zσo z s) : zK g yX10_isWord xX10_isWord [zr 58, zi 114, zi 101, zi 115, zi 116, zi 0, zi 0, zi 0, zi 0] 75 M (zPp (zi (zb (s.tk = 3 ∧ s.vl = 4))) 75 M) := by
  have h := kX10_isWord (g := g) hC hT hd ho (v := 4) (by decide)
  obtain ⟨e0, e1, e2, e3, e4, e5, e6, e7⟩ := zlw_rest
  rw [e0, e1, e2, e3, e4, e5, e6, e7, zb_c (zws_n (by decide))] at h
  exact h
theorem zlw_number : zlw 5 0 = 110 ∧ zlw 5 1 = 117 ∧ zlw 5 2 = 109 ∧ zlw 5 3 = 98 ∧ zlw 5 4 = 101 ∧ zlw 5 5 = 114 ∧ zlw 5 6 = 0 ∧ zlw 5 7 = 0 := by decide +kernel
theorem kX10_w_number {f z : Int} {tp : Int → Int} (hC : zMC M f tp z) (hT : ztp tp z) {s : zσ} (hd : zMd tp M s) (ho : zσo z s) : zK g yX10_isWord xX10_isWord [zr 58, zi 110, zi 117, zi 109, zi 98, zi 101, zi 114, zi 0, zi 0] 75 M (zPp (zi (zb (s.tk = 3 ∧ s.vl = 5))) 75 M) := by
  have h := kX10_isWord (g := g) hC hT hd ho (v := 5) (by decide)
  obtain ⟨e0, e1, e2, e3, e4, e5, e6, e7⟩ := zlw_number
  rw [e0, e1, e2, e3, e4, e5, e6, e7, zb_c (zws_n (by decide))] at h
  exact h
theorem zlw_costs : zlw 6 0 = 99 ∧ zlw 6 1 = 111 ∧ zlw 6 2 = 115 ∧ zlw 6 3 = 116 ∧ zlw 6 4 = 115 ∧ zlw 6 5 = 0 ∧ zlw 6 6 = 0 ∧ zlw 6 7 = 0 := by decide +kernel
theorem kX10_w_costs {f z : Int} {tp : Int → Int} (hC : zMC M f tp z) (hT : ztp tp z) {s : zσ} (hd : zMd tp M s) (ho : zσo z s) : zK g yX10_isWord xX10_isWord [zr 58, zi 99, zi 111, zi 115, zi 116, zi 115, zi 0, zi 0, zi 0] 75 M (zPp (zi (zb (s.tk = 6))) 75 M) := by
  have h := kX10_isWord (g := g) hC hT hd ho (v := 6) (by decide)
  obtain ⟨e0, e1, e2, e3, e4, e5, e6, e7⟩ := zlw_costs
  rw [e0, e1, e2, e3, e4, e5, e6, e7, zb_c (zws_k (by decide))] at h
  exact h
theorem zlw_crowds : zlw 7 0 = 99 ∧ zlw 7 1 = 114 ∧ zlw 7 2 = 111 ∧ zlw 7 3 = 119 ∧ zlw 7 4 = 100 ∧ zlw 7 5 = 115 ∧ zlw 7 6 = 0 ∧ zlw 7 7 = 0 := by decide +kernel
theorem kX10_w_crowds {f z : Int} {tp : Int → Int} (hC : zMC M f tp z) (hT : ztp tp z) {s : zσ} (hd : zMd tp M s) (ho : zσo z s) : zK g yX10_isWord xX10_isWord [zr 58, zi 99, zi 114, zi 111, zi 119, zi 100, zi 115, zi 0, zi 0] 75 M (zPp (zi (zb (s.tk = 7))) 75 M) := by
  have h := kX10_isWord (g := g) hC hT hd ho (v := 7) (by decide)
  obtain ⟨e0, e1, e2, e3, e4, e5, e6, e7⟩ := zlw_crowds
  rw [e0, e1, e2, e3, e4, e5, e6, e7, zb_c (zws_k (by decide))] at h
  exact h
theorem zlw_minds : zlw 8 0 = 109 ∧ zlw 8 1 = 105 ∧ zlw 8 2 = 110 ∧ zlw 8 3 = 100 ∧ zlw 8 4 = 115 ∧ zlw 8 5 = 0 ∧ zlw 8 6 = 0 ∧ zlw 8 7 = 0 := by decide +kernel
theorem kX10_w_minds {f z : Int} {tp : Int → Int} (hC : zMC M f tp z) (hT : ztp tp z) {s : zσ} (hd : zMd tp M s) (ho : zσo z s) : zK g yX10_isWord xX10_isWord [zr 58, zi 109, zi 105, zi 110, zi 100, zi 115, zi 0, zi 0, zi 0] 75 M (zPp (zi (zb (s.tk = 8))) 75 M) := by
  have h := kX10_isWord (g := g) hC hT hd ho (v := 8) (by decide)
  obtain ⟨e0, e1, e2, e3, e4, e5, e6, e7⟩ := zlw_minds
  rw [e0, e1, e2, e3, e4, e5, e6, e7, zb_c (zws_k (by decide))] at h
  exact h
theorem zlw_or : zlw 9 0 = 111 ∧ zlw 9 1 = 114 ∧ zlw 9 2 = 0 ∧ zlw 9 3 = 0 ∧ zlw 9 4 = 0 ∧ zlw 9 5 = 0 ∧ zlw 9 6 = 0 ∧ zlw 9 7 = 0 := by decide +kernel
theorem kX10_w_or {f z : Int} {tp : Int → Int} (hC : zMC M f tp z) (hT : ztp tp z) {s : zσ} (hd : zMd tp M s) (ho : zσo z s) : zK g yX10_isWord xX10_isWord [zr 58, zi 111, zi 114, zi 0, zi 0, zi 0, zi 0, zi 0, zi 0] 75 M (zPp (zi (zb (s.tk = 9))) 75 M) := by
  have h := kX10_isWord (g := g) hC hT hd ho (v := 9) (by decide)
  obtain ⟨e0, e1, e2, e3, e4, e5, e6, e7⟩ := zlw_or
  rw [e0, e1, e2, e3, e4, e5, e6, e7, zb_c (zws_k (by decide))] at h
  exact h
theorem zlw_and : zlw 10 0 = 97 ∧ zlw 10 1 = 110 ∧ zlw 10 2 = 100 ∧ zlw 10 3 = 0 ∧ zlw 10 4 = 0 ∧ zlw 10 5 = 0 ∧ zlw 10 6 = 0 ∧ zlw 10 7 = 0 := by decide +kernel
theorem kX10_w_and {f z : Int} {tp : Int → Int} (hC : zMC M f tp z) (hT : ztp tp z) {s : zσ} (hd : zMd tp M s) (ho : zσo z s) : zK g yX10_isWord xX10_isWord [zr 58, zi 97, zi 110, zi 100, zi 0, zi 0, zi 0, zi 0, zi 0] 75 M (zPp (zi (zb (s.tk = 10))) 75 M) := by
  have h := kX10_isWord (g := g) hC hT hd ho (v := 10) (by decide)
  obtain ⟨e0, e1, e2, e3, e4, e5, e6, e7⟩ := zlw_and
  rw [e0, e1, e2, e3, e4, e5, e6, e7, zb_c (zws_k (by decide))] at h
  exact h
theorem zlw_not : zlw 11 0 = 110 ∧ zlw 11 1 = 111 ∧ zlw 11 2 = 116 ∧ zlw 11 3 = 0 ∧ zlw 11 4 = 0 ∧ zlw 11 5 = 0 ∧ zlw 11 6 = 0 ∧ zlw 11 7 = 0 := by decide +kernel
theorem kX10_w_not {f z : Int} {tp : Int → Int} (hC : zMC M f tp z) (hT : ztp tp z) {s : zσ} (hd : zMd tp M s) (ho : zσo z s) : zK g yX10_isWord xX10_isWord [zr 58, zi 110, zi 111, zi 116, zi 0, zi 0, zi 0, zi 0, zi 0] 75 M (zPp (zi (zb (s.tk = 11))) 75 M) := by
  have h := kX10_isWord (g := g) hC hT hd ho (v := 11) (by decide)
  obtain ⟨e0, e1, e2, e3, e4, e5, e6, e7⟩ := zlw_not
  rw [e0, e1, e2, e3, e4, e5, e6, e7, zb_c (zws_k (by decide))] at h
  exact h
set_option maxRecDepth 20000 in
set_option maxHeartbeats 2000000 in
theorem kX10_opens {f z : Int} {tp : Int → Int} (hC : zMC M f tp z) (hT : ztp tp z) {s : zσ} (hd : zMd tp M s) (ho : zσo z s) {o : Int} (h25 : M 58 25 = o) (ho5 : 0 ≤ o ∧ o ≤ 5) (hl : zlive s) : zK g yX10_opens xX10_opens [zr 58] 75 M (fun w N' M1 => N' = 75 ∧ ((o = 5 ∧ w = some (zi 0) ∧ zMd tp M1 (zfl s) ∧ zFr zNH M M1) ∨ (o < 5 ∧ w = some (zi 1) ∧ zMd tp M1 (zadv tp z s) ∧ M1 58 25 = o + 1 ∧ zFr zNG M M1))) := by
  refine zK_of (ls0 := [zr 58]) (by decide) rfl (by decide) rfl (Nat.le_of_ble_eq_true rfl) ?_
  refine zV_aload_n (pc := 0) (i := 0) dX10_opens_0 rfl rfl ?_
  refine zV_get (pc := 1) (j := 25) dX10_opens_1 flX10_170 (zOb_of rfl) rfl h25 ?_
  refine zV_iconst (pc := 4) dX10_opens_4 ?_
  refine zV_icmp_ne (pc := 5) (tgt := 14) dX10_opens_5 (by decide) (by omega) (fun c_5 => ?_) (fun c_5 => ?_)
  · refine zV_aload_n (pc := 14) (i := 0) dX10_opens_14 rfl rfl ?_
    refine zV_dup (pc := 15) dX10_opens_15 (by simp) ?_
    refine zV_get (pc := 16) (j := 25) dX10_opens_16 flX10_170 (zOb_of rfl) rfl h25 ?_
    refine zV_iconst (pc := 19) dX10_opens_19 ?_
    refine zV_iadd (pc := 20) dX10_opens_20 ?_
    refine zV_put (pc := 21) (j := 25) dX10_opens_21 flX10_170 rfl (zOb_of rfl) rfl trivial ?_
    have fU : zFr zNG M (zU M 58 25 (o + 1)) := zFr.rf.up ⟨rfl, by decide, by decide⟩
    refine zV_aload_n (pc := 24) (i := 0) dX10_opens_24 rfl rfl ?_
    refine zV_ivn (pc := 25) (ci := 10) dX10_opens_25 klX10_176 mX10_next ⟨by decide, rfl⟩ rfl ⟨Nat.zero_le _, Nat.zero_le _⟩ (kX10_next (hC.fr fU) hT (s := s) (by have := ho.1; omega) ((zU_j _ _ _ _ (by decide)).trans (hd.here ho hl)) (ho.live hl) ((zU_j _ _ _ _ (by decide)).trans (hd.ok (ho.live hl)))) (zOb_of rfl) rfl rfl (Nat.le_of_ble_eq_true rfl) (fun M1 q1 => ?_)
    refine zV_iconst (pc := 28) dX10_opens_28 ?_
    refine zV_iret (pc := 29) dX10_opens_29 (by first | exact zok_b1 | exact zok_b0 | exact zok_b) ⟨Nat.zero_le _, Nat.zero_le _⟩ ?_
    first
      | exact ⟨rfl, Or.inl ⟨c_5, rfl, q1⟩⟩
      | exact ⟨rfl, Or.inr ⟨by omega, rfl, q1.1, (q1.2 _ _ (by unfold zNF; omega)).trans (zU_s _ _ _ _), fU.tr (q1.2.mono (fun a j y => zNF_G y))⟩⟩
  · refine zV_aload_n (pc := 8) (i := 0) dX10_opens_8 rfl rfl ?_
    refine zV_ivn (pc := 9) (ci := 10) dX10_opens_9 klX10_173 mX10_fail ⟨by decide, rfl⟩ rfl ⟨Nat.zero_le _, Nat.zero_le _⟩ (kX10_fail hd ho) (zOb_of rfl) rfl rfl (Nat.le_of_ble_eq_true rfl) (fun M1 q1 => ?_)
    refine zV_iconst (pc := 12) dX10_opens_12 ?_
    refine zV_iret (pc := 13) dX10_opens_13 (by first | exact zok_b1 | exact zok_b0 | exact zok_b) ⟨Nat.zero_le _, Nat.zero_le _⟩ ?_
    first
      | exact ⟨rfl, Or.inl ⟨c_5, rfl, q1⟩⟩
      | exact ⟨rfl, Or.inr ⟨by omega, rfl, q1.1, (q1.2 _ _ (by unfold zNF; omega)).trans (zU_s _ _ _ _), fU.tr (q1.2.mono (fun a j y => zNF_G y))⟩⟩
set_option maxRecDepth 20000 in
set_option maxHeartbeats 2000000 in
theorem kX10_name {f z : Int} {tp nm : Int → Int} (hB : zMB M f tp z nm) (hT : ztp tp z) {s : zσ} (hd : zMd tp M s) (ho : zσo z s) : zK g yX10_name xX10_name [zr 58] 75 M (fun w N' M1 => N' = 75 ∧ ((s.tk = 3 ∧ w = some (zi (nm s.vl)) ∧ M1 = M) ∨ (s.tk ≠ 3 ∧ w = some (zi 0) ∧ zMd tp M1 (zfl s) ∧ zFr zNH M M1))) := by
  refine zK_of (ls0 := [zr 58]) (by decide) rfl (by decide) rfl (Nat.le_of_ble_eq_true rfl) ?_
  refine zV_aload_n (pc := 0) (i := 0) dX10_name_0 rfl rfl ?_
  refine zV_bipush (pc := 1) dX10_name_1 (by decide) ?_
  refine zV_bipush (pc := 3) dX10_name_3 (by decide) ?_
  refine zV_bipush (pc := 5) dX10_name_5 (by decide) ?_
  refine zV_iconst (pc := 7) dX10_name_7 ?_
  refine zV_iconst (pc := 8) dX10_name_8 ?_
  refine zV_iconst (pc := 9) dX10_name_9 ?_
  refine zV_iconst (pc := 10) dX10_name_10 ?_
  refine zV_iconst (pc := 11) dX10_name_11 ?_
  refine zV_ivp (pc := 12) (ci := 10) dX10_name_12 klX10_179 mX10_isWord ⟨by decide, rfl⟩ rfl ⟨Nat.zero_le _, Nat.zero_le _⟩ (kX10_w_day hB.1 hT hd ho) (zOb_of rfl) rfl rfl (Nat.le_of_ble_eq_true rfl) ?_
  refine zV_if_eqb (pc := 15) (tgt := 23) dX10_name_15 (by decide) (fun c_15 => ?_) (fun c_15 => ?_)
  · refine zV_aload_n (pc := 23) (i := 0) dX10_name_23 rfl rfl ?_
    refine zV_bipush (pc := 24) dX10_name_24 (by decide) ?_
    refine zV_bipush (pc := 26) dX10_name_26 (by decide) ?_
    refine zV_bipush (pc := 28) dX10_name_28 (by decide) ?_
    refine zV_bipush (pc := 30) dX10_name_30 (by decide) ?_
    refine zV_bipush (pc := 32) dX10_name_32 (by decide) ?_
    refine zV_iconst (pc := 34) dX10_name_34 ?_
    refine zV_iconst (pc := 35) dX10_name_35 ?_
    refine zV_iconst (pc := 36) dX10_name_36 ?_
    refine zV_ivp (pc := 37) (ci := 10) dX10_name_37 klX10_179 mX10_isWord ⟨by decide, rfl⟩ rfl ⟨Nat.zero_le _, Nat.zero_le _⟩ (kX10_w_thing hB.1 hT hd ho) (zOb_of rfl) rfl rfl (Nat.le_of_ble_eq_true rfl) ?_
    refine zV_if_eqb (pc := 40) (tgt := 48) dX10_name_40 (by decide) (fun c_40 => ?_) (fun c_40 => ?_)
    · refine zV_aload_n (pc := 48) (i := 0) dX10_name_48 rfl rfl ?_
      refine zV_bipush (pc := 49) dX10_name_49 (by decide) ?_
      refine zV_bipush (pc := 51) dX10_name_51 (by decide) ?_
      refine zV_bipush (pc := 53) dX10_name_53 (by decide) ?_
      refine zV_bipush (pc := 55) dX10_name_55 (by decide) ?_
      refine zV_iconst (pc := 57) dX10_name_57 ?_
      refine zV_iconst (pc := 58) dX10_name_58 ?_
      refine zV_iconst (pc := 59) dX10_name_59 ?_
      refine zV_iconst (pc := 60) dX10_name_60 ?_
      refine zV_ivp (pc := 61) (ci := 10) dX10_name_61 klX10_179 mX10_isWord ⟨by decide, rfl⟩ rfl ⟨Nat.zero_le _, Nat.zero_le _⟩ (kX10_w_many hB.1 hT hd ho) (zOb_of rfl) rfl rfl (Nat.le_of_ble_eq_true rfl) ?_
      refine zV_if_eqb (pc := 64) (tgt := 72) dX10_name_64 (by decide) (fun c_64 => ?_) (fun c_64 => ?_)
      · refine zV_aload_n (pc := 72) (i := 0) dX10_name_72 rfl rfl ?_
        refine zV_bipush (pc := 73) dX10_name_73 (by decide) ?_
        refine zV_bipush (pc := 75) dX10_name_75 (by decide) ?_
        refine zV_bipush (pc := 77) dX10_name_77 (by decide) ?_
        refine zV_bipush (pc := 79) dX10_name_79 (by decide) ?_
        refine zV_bipush (pc := 81) dX10_name_81 (by decide) ?_
        refine zV_bipush (pc := 83) dX10_name_83 (by decide) ?_
        refine zV_iconst (pc := 85) dX10_name_85 ?_
        refine zV_iconst (pc := 86) dX10_name_86 ?_
        refine zV_ivp (pc := 87) (ci := 10) dX10_name_87 klX10_179 mX10_isWord ⟨by decide, rfl⟩ rfl ⟨Nat.zero_le _, Nat.zero_le _⟩ (kX10_w_period hB.1 hT hd ho) (zOb_of rfl) rfl rfl (Nat.le_of_ble_eq_true rfl) ?_
        refine zV_if_eqb (pc := 90) (tgt := 98) dX10_name_90 (by decide) (fun c_90 => ?_) (fun c_90 => ?_)
        · refine zV_aload_n (pc := 98) (i := 0) dX10_name_98 rfl rfl ?_
          refine zV_bipush (pc := 99) dX10_name_99 (by decide) ?_
          refine zV_bipush (pc := 101) dX10_name_101 (by decide) ?_
          refine zV_bipush (pc := 103) dX10_name_103 (by decide) ?_
          refine zV_bipush (pc := 105) dX10_name_105 (by decide) ?_
          refine zV_iconst (pc := 107) dX10_name_107 ?_
          refine zV_iconst (pc := 108) dX10_name_108 ?_
          refine zV_iconst (pc := 109) dX10_name_109 ?_
          refine zV_iconst (pc := 110) dX10_name_110 ?_
          refine zV_ivp (pc := 111) (ci := 10) dX10_name_111 klX10_179 mX10_isWord ⟨by decide, rfl⟩ rfl ⟨Nat.zero_le _, Nat.zero_le _⟩ (kX10_w_rest hB.1 hT hd ho) (zOb_of rfl) rfl rfl (Nat.le_of_ble_eq_true rfl) ?_
          refine zV_if_eqb (pc := 114) (tgt := 122) dX10_name_114 (by decide) (fun c_114 => ?_) (fun c_114 => ?_)
          · refine zV_aload_n (pc := 122) (i := 0) dX10_name_122 rfl rfl ?_
            refine zV_bipush (pc := 123) dX10_name_123 (by decide) ?_
            refine zV_bipush (pc := 125) dX10_name_125 (by decide) ?_
            refine zV_bipush (pc := 127) dX10_name_127 (by decide) ?_
            refine zV_bipush (pc := 129) dX10_name_129 (by decide) ?_
            refine zV_bipush (pc := 131) dX10_name_131 (by decide) ?_
            refine zV_bipush (pc := 133) dX10_name_133 (by decide) ?_
            refine zV_iconst (pc := 135) dX10_name_135 ?_
            refine zV_iconst (pc := 136) dX10_name_136 ?_
            refine zV_ivp (pc := 137) (ci := 10) dX10_name_137 klX10_179 mX10_isWord ⟨by decide, rfl⟩ rfl ⟨Nat.zero_le _, Nat.zero_le _⟩ (kX10_w_number hB.1 hT hd ho) (zOb_of rfl) rfl rfl (Nat.le_of_ble_eq_true rfl) ?_
            refine zV_if_eqb (pc := 140) (tgt := 148) dX10_name_140 (by decide) (fun c_140 => ?_) (fun c_140 => ?_)
            · refine zV_aload_n (pc := 148) (i := 0) dX10_name_148 rfl rfl ?_
              refine zV_ivn (pc := 149) (ci := 10) dX10_name_149 klX10_173 mX10_fail ⟨by decide, rfl⟩ rfl ⟨Nat.zero_le _, Nat.zero_le _⟩ (kX10_fail hd ho) (zOb_of rfl) rfl rfl (Nat.le_of_ble_eq_true rfl) (fun M1 q1 => ?_)
              refine zV_iconst (pc := 152) dX10_name_152 ?_
              refine zV_iret (pc := 153) dX10_name_153 trivial ⟨Nat.zero_le _, Nat.zero_le _⟩ ?_
              refine ⟨rfl, Or.inr ⟨fun q => ?_, rfl, q1⟩⟩
              have := ho.2.2.1 q
              rcases (show s.vl = 0 ∨ s.vl = 1 ∨ s.vl = 2 ∨ s.vl = 3 ∨ s.vl = 4 ∨ s.vl = 5 by omega) with e | e | e | e | e | e
              · exact c_15 ⟨q, e⟩
              · exact c_40 ⟨q, e⟩
              · exact c_64 ⟨q, e⟩
              · exact c_90 ⟨q, e⟩
              · exact c_114 ⟨q, e⟩
              · exact c_140 ⟨q, e⟩
            · refine zV_aload_n (pc := 143) (i := 0) dX10_name_143 rfl rfl ?_
              refine zV_get (pc := 144) (j := 18) dX10_name_144 flX10_198 (zOb_of rfl) rfl (hB.2 5 (by decide) (by decide)) ?_
              refine zV_iret (pc := 147) dX10_name_147 trivial ⟨Nat.zero_le _, Nat.zero_le _⟩ ?_
              exact ⟨rfl, Or.inl ⟨c_140.1, by rw [c_140.2], rfl⟩⟩
          · refine zV_aload_n (pc := 117) (i := 0) dX10_name_117 rfl rfl ?_
            refine zV_get (pc := 118) (j := 17) dX10_name_118 flX10_195 (zOb_of rfl) rfl (hB.2 4 (by decide) (by decide)) ?_
            refine zV_iret (pc := 121) dX10_name_121 trivial ⟨Nat.zero_le _, Nat.zero_le _⟩ ?_
            exact ⟨rfl, Or.inl ⟨c_114.1, by rw [c_114.2], rfl⟩⟩
        · refine zV_aload_n (pc := 93) (i := 0) dX10_name_93 rfl rfl ?_
          refine zV_get (pc := 94) (j := 16) dX10_name_94 flX10_192 (zOb_of rfl) rfl (hB.2 3 (by decide) (by decide)) ?_
          refine zV_iret (pc := 97) dX10_name_97 trivial ⟨Nat.zero_le _, Nat.zero_le _⟩ ?_
          exact ⟨rfl, Or.inl ⟨c_90.1, by rw [c_90.2], rfl⟩⟩
      · refine zV_aload_n (pc := 67) (i := 0) dX10_name_67 rfl rfl ?_
        refine zV_get (pc := 68) (j := 15) dX10_name_68 flX10_189 (zOb_of rfl) rfl (hB.2 2 (by decide) (by decide)) ?_
        refine zV_iret (pc := 71) dX10_name_71 trivial ⟨Nat.zero_le _, Nat.zero_le _⟩ ?_
        exact ⟨rfl, Or.inl ⟨c_64.1, by rw [c_64.2], rfl⟩⟩
    · refine zV_aload_n (pc := 43) (i := 0) dX10_name_43 rfl rfl ?_
      refine zV_get (pc := 44) (j := 14) dX10_name_44 flX10_186 (zOb_of rfl) rfl (hB.2 1 (by decide) (by decide)) ?_
      refine zV_iret (pc := 47) dX10_name_47 trivial ⟨Nat.zero_le _, Nat.zero_le _⟩ ?_
      exact ⟨rfl, Or.inl ⟨c_40.1, by rw [c_40.2], rfl⟩⟩
  · refine zV_aload_n (pc := 18) (i := 0) dX10_name_18 rfl rfl ?_
    refine zV_get (pc := 19) (j := 13) dX10_name_19 flX10_183 (zOb_of rfl) rfl (hB.2 0 (by decide) (by decide)) ?_
    refine zV_iret (pc := 22) dX10_name_22 trivial ⟨Nat.zero_le _, Nat.zero_le _⟩ ?_
    exact ⟨rfl, Or.inl ⟨c_15.1, by rw [c_15.2], rfl⟩⟩
end
