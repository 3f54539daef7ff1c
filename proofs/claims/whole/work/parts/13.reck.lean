/-! THE CLASS: the reckoner (printed by wip/whole/p13.py) -/
theorem zV_norm {g : zG} {X : zX} {P : zP} {pc : Nat} {ls st : List zv} {N : Nat} {M : zM} {kc ks : Nat} {x : Int} (k : zV g X P pc ls (zi (zw x) :: st) N M kc ks) : zV g X P pc ls (zi x :: st) N M kc ks := by
  intro p e s m args below meth c H locs Q la F hl L R S E
  have k : W p g.1 e X.rm s m args below meth c H locs kc ks Q (F0 m pc la (.int (Int32.ofInt (zw x)) :: st.map (zT g))) := k p e s m args below meth c H locs Q la F hl L R S E
  rw [zw_ofw] at k
  exact k
theorem zw_r (x : Int) : -2147483648 ≤ zw x ∧ zw x ≤ 2147483647 := by
  unfold zw
  omega
/-- what a step does to two numbers -/
noncomputable def zopr (s a b : Int) : Int := if s = -11 then zb (a ≠ 0 ∨ b ≠ 0) else if s = -12 then zb (a ≠ 0 ∧ b ≠ 0) else if s = -14 then zb (a < b) else if s = -15 then zb (a = b) else if s = -16 then zw (a + b) else if s = -17 then zw (a - b) else zw (a * b)
theorem zopr_11 {a b : Int} : zopr (-11) a b = zb (a ≠ 0 ∨ b ≠ 0) := by simp [zopr]
theorem zopr_12 {a b : Int} : zopr (-12) a b = zb (a ≠ 0 ∧ b ≠ 0) := by simp [zopr]
theorem zopr_14 {a b : Int} : zopr (-14) a b = zb (a < b) := by simp [zopr]
theorem zopr_15 {a b : Int} : zopr (-15) a b = zb (a = b) := by simp [zopr]
theorem zopr_16 {a b : Int} : zopr (-16) a b = zw (a + b) := by simp [zopr]
theorem zopr_17 {a b : Int} : zopr (-17) a b = zw (a - b) := by simp [zopr]
theorem zopr_18 {s a b : Int} (h : s < -17 ∨ s = -13 ∨ -11 < s) : zopr s a b = zw (a * b) := by
  unfold zopr
  rw [if_neg (by omega), if_neg (by omega), if_neg (by omega), if_neg (by omega), if_neg (by omega), if_neg (by omega)]
theorem zopr_r (s a b : Int) : -2147483648 ≤ zopr s a b ∧ zopr s a b ≤ 2147483647 := by
  have h1 := zb_r (a ≠ 0 ∨ b ≠ 0)
  have h2 := zb_r (a ≠ 0 ∧ b ≠ 0)
  have h3 := zb_r (a < b)
  have h4 := zb_r (a = b)
  have h5 := zw_r (a + b)
  have h6 := zw_r (a - b)
  have h7 := zw_r (a * b)
  unfold zopr
  repeat' split
  all_goals omega
noncomputable def zop1 (s v : Int) : Int := if s = -19 then zw (-v) else zb (v = 0)
theorem zop1_r (s v : Int) : -2147483648 ≤ zop1 s v ∧ zop1 s v ≤ 2147483647 := by
  have h1 := zb_r (v = 0)
  have h5 := zw_r (-v)
  unfold zop1
  split <;> omega
noncomputable def zchg (s : Int) : List Int → List Int
  | [] => []
  | v :: r => zop1 s v :: r
noncomputable def zcmb (s : Int) : List Int → List Int
  | b :: a :: r => zopr s a b :: r
  | r => r
/-- a step, on a stack (its top first) -/
noncomputable def zstp (nm : Int → Int) (s : Int) (stk : List Int) : List Int :=
  if 0 ≤ s then (if stk.length < 31 then s :: stk else stk)
  else if -1 - s < 6 then (if stk.length < 31 then nm (-1 - s) :: stk else stk)
  else if s = -13 ∨ s = -19 then zchg s stk
  else zcmb s stk
/-- the class's stack holds stk -/
def zSk (M : zM) (stk : List Int) : Prop := M 53 2 = stk.length ∧ stk.length ≤ 31 ∧ (∀ (j : Nat) (x : Int), stk.reverse[j]? = some x → M 55 j = x) ∧ ∀ x ∈ stk, -2147483648 ≤ x ∧ x ≤ 2147483647
def zRk (a j : Int) : Prop := a = 55 ∨ (a = 53 ∧ j = 2)
theorem zSk.top {M : zM} {v : Int} {r : List Int} (h : zSk M (v :: r)) : M 55 (r.length : Int) = v ∧ -2147483648 ≤ v ∧ v ≤ 2147483647 := by
  refine ⟨h.2.2.1 r.length v ?_, h.2.2.2 v List.mem_cons_self⟩
  rw [List.reverse_cons, List.getElem?_append_right (by rw [List.length_reverse]; exact Nat.le_refl _), List.length_reverse, Nat.sub_self]
  rfl
theorem zSk.tail {M : zM} {v : Int} {r : List Int} (h : zSk M (v :: r)) : ∀ (j : Nat) (x : Int), r.reverse[j]? = some x → M 55 j = x ∧ j < r.length := by
  intro j x hx
  have hj : j < r.reverse.length := (List.getElem?_eq_some_iff.mp hx).1
  refine ⟨h.2.2.1 j x ?_, by rw [List.length_reverse] at hj; exact hj⟩
  rw [List.reverse_cons, List.getElem?_append_left hj]
  exact hx
/-- pushed -/
theorem zSk.push {M : zM} {x : Int} {r : List Int} (h : zSk M r) (hl : r.length < 31) (hx : -2147483648 ≤ x ∧ x ≤ 2147483647) : zSk (zU (zU M 55 r.length x) 53 2 ((r.length : Int) + 1)) (x :: r) := by
  refine ⟨by rw [zU_s]; rfl, hl, fun j y hy => ?_, fun y hy => ?_⟩
  · rw [zU_a _ _ _ _ (by decide)]
    rw [List.reverse_cons] at hy
    by_cases hj : j < r.reverse.length
    · rw [List.getElem?_append_left hj] at hy
      have h3 := h.2.2.1 j y hy
      rw [List.length_reverse] at hj
      rw [zU_j _ _ _ _ (by omega)]
      exact h3
    · rw [List.getElem?_append_right (by omega)] at hy
      rw [List.length_reverse] at hj hy
      have hj2 : j - r.length < [x].length := (List.getElem?_eq_some_iff.mp hy).1
      simp only [List.length_singleton] at hj2
      have e : j = r.length := by omega
      subst e
      rw [Nat.sub_self] at hy
      have hy : x = y := by simpa using hy
      rw [zU_s]
      exact hy
  · rcases List.mem_cons.mp hy with rfl | hy
    · exact hx
    · exact h.2.2.2 y hy
/-- the top is another -/
theorem zSk.chg {M : zM} {v x : Int} {r : List Int} (h : zSk M (v :: r)) (hx : -2147483648 ≤ x ∧ x ≤ 2147483647) : zSk (zU M 55 r.length x) (x :: r) := by
  refine ⟨by rw [zU_a _ _ _ _ (by decide)]; exact h.1, h.2.1, fun j y hy => ?_, fun y hy => ?_⟩
  · rw [List.reverse_cons] at hy
    by_cases hj : j < r.reverse.length
    · rw [List.getElem?_append_left hj] at hy
      have h3 := h.tail j y hy
      rw [zU_j _ _ _ _ (by omega)]
      exact h3.1
    · rw [List.getElem?_append_right (by omega)] at hy
      rw [List.length_reverse] at hj hy
      have hj2 : j - r.length < [x].length := (List.getElem?_eq_some_iff.mp hy).1
      simp only [List.length_singleton] at hj2
      have e : j = r.length := by omega
      subst e
      rw [Nat.sub_self] at hy
      have hy : x = y := by simpa using hy
      rw [zU_s]
      exact hy
  · rcases List.mem_cons.mp hy with rfl | hy
    · exact hx
    · exact h.2.2.2 y (List.mem_cons_of_mem _ hy)
/-- the top is off -/
theorem zSk.pop {M : zM} {v : Int} {r : List Int} (h : zSk M (v :: r)) : zSk (zU M 53 2 (r.length : Int)) r := by
  refine ⟨zU_s _ _ _ _, Nat.le_of_succ_le h.2.1, fun j y hy => ?_, fun y hy => h.2.2.2 y (List.mem_cons_of_mem _ hy)⟩
  rw [zU_a _ _ _ _ (by decide)]
  exact (h.tail j y hy).1
section
variable {g : zG} {N : Nat} {M : zM}
set_option maxRecDepth 20000 in
set_option maxHeartbeats 2000000 in
theorem kX4_combined {s a b : Int} (hs : -2147483648 ≤ s ∧ s ≤ 2147483647) (ha : -2147483648 ≤ a ∧ a ≤ 2147483647) (hb : -2147483648 ≤ b ∧ b ≤ 2147483647) : zK g yX4_combined xX4_combined [zi s, zi a, zi b] N M (zPp (zi (zopr s a b)) N M) := by
  refine zK_of (ls0 := [zi s, zi a, zi b]) (by decide) rfl (by decide) rfl (Nat.le_of_ble_eq_true rfl) ?_
  refine zV_iload_n (pc := 0) (i := 0) dX4_combined_0 rfl rfl ?_
  rcases (show s = -17 ∨ s = -16 ∨ s = -15 ∨ s = -14 ∨ s = -13 ∨ s = -12 ∨ s = -11 ∨ (s < -17 ∨ -11 < s)  by omega) with c_1 | c_1 | c_1 | c_1 | c_1 | c_1 | c_1 | c_1
  · refine zV_tin (pc := 1) (tgt := 98) 0 dX4_combined_1 (by omega) (by decide) (by decide) rfl (by decide) ?_
    refine zV_iload_n (pc := 98) (i := 1) dX4_combined_98 rfl rfl ?_
    refine zV_iload_n (pc := 99) (i := 2) dX4_combined_99 rfl rfl ?_
    refine zV_isub (pc := 100) dX4_combined_100 ?_
    refine zV_norm ?_
    refine zV_iret (pc := 101) dX4_combined_101 trivial ⟨Nat.zero_le _, Nat.zero_le _⟩ ?_
    exact zPe (by rw [c_1, zopr_17])
  · refine zV_tin (pc := 1) (tgt := 94) 1 dX4_combined_1 (by omega) (by decide) (by decide) rfl (by decide) ?_
    refine zV_iload_n (pc := 94) (i := 1) dX4_combined_94 rfl rfl ?_
    refine zV_iload_n (pc := 95) (i := 2) dX4_combined_95 rfl rfl ?_
    refine zV_iadd (pc := 96) dX4_combined_96 ?_
    refine zV_norm ?_
    refine zV_iret (pc := 97) dX4_combined_97 trivial ⟨Nat.zero_le _, Nat.zero_le _⟩ ?_
    exact zPe (by rw [c_1, zopr_16])
  · refine zV_tin (pc := 1) (tgt := 83) 2 dX4_combined_1 (by omega) (by decide) (by decide) rfl (by decide) ?_
    refine zV_iload_n (pc := 83) (i := 1) dX4_combined_83 rfl rfl ?_
    refine zV_iload_n (pc := 84) (i := 2) dX4_combined_84 rfl rfl ?_
    refine zV_icmp_ne (pc := 85) (tgt := 92) dX4_combined_85 (by decide) (by omega) (fun c_85 => ?_) (fun c_85 => ?_)
    · refine zV_iconst (pc := 92) dX4_combined_92 ?_
      refine zV_iret (pc := 93) dX4_combined_93 trivial ⟨Nat.zero_le _, Nat.zero_le _⟩ ?_
      rw [c_1, zopr_15]
      first
        | exact zPt (by omega)
        | exact zPf (by omega)
    · refine zV_iconst (pc := 88) dX4_combined_88 ?_
      refine zV_goto (pc := 89) (tgt := 93) dX4_combined_89 (by decide) ?_
      refine zV_iret (pc := 93) dX4_combined_93 trivial ⟨Nat.zero_le _, Nat.zero_le _⟩ ?_
      rw [c_1, zopr_15]
      first
        | exact zPt (by omega)
        | exact zPf (by omega)
  · refine zV_tin (pc := 1) (tgt := 72) 3 dX4_combined_1 (by omega) (by decide) (by decide) rfl (by decide) ?_
    refine zV_iload_n (pc := 72) (i := 1) dX4_combined_72 rfl rfl ?_
    refine zV_iload_n (pc := 73) (i := 2) dX4_combined_73 rfl rfl ?_
    refine zV_icmp_ge (pc := 74) (tgt := 81) dX4_combined_74 (by decide) (by omega) (fun c_74 => ?_) (fun c_74 => ?_)
    · refine zV_iconst (pc := 81) dX4_combined_81 ?_
      refine zV_iret (pc := 82) dX4_combined_82 trivial ⟨Nat.zero_le _, Nat.zero_le _⟩ ?_
      rw [c_1, zopr_14]
      first
        | exact zPt (by omega)
        | exact zPf (by omega)
    · refine zV_iconst (pc := 77) dX4_combined_77 ?_
      refine zV_goto (pc := 78) (tgt := 82) dX4_combined_78 (by decide) ?_
      refine zV_iret (pc := 82) dX4_combined_82 trivial ⟨Nat.zero_le _, Nat.zero_le _⟩ ?_
      rw [c_1, zopr_14]
      first
        | exact zPt (by omega)
        | exact zPf (by omega)
  · refine zV_tin (pc := 1) (tgt := 102) 4 dX4_combined_1 (by omega) (by decide) (by decide) rfl (by decide) ?_
    refine zV_iload_n (pc := 102) (i := 1) dX4_combined_102 rfl rfl ?_
    refine zV_iload_n (pc := 103) (i := 2) dX4_combined_103 rfl rfl ?_
    refine zV_imul (pc := 104) dX4_combined_104 ?_
    refine zV_norm ?_
    refine zV_iret (pc := 105) dX4_combined_105 trivial ⟨Nat.zero_le _, Nat.zero_le _⟩ ?_
    exact zPe (by rw [zopr_18 (by omega)])
  · refine zV_tin (pc := 1) (tgt := 58) 5 dX4_combined_1 (by omega) (by decide) (by decide) rfl (by decide) ?_
    refine zV_iload_n (pc := 58) (i := 1) dX4_combined_58 rfl rfl ?_
    refine zV_if_eq (pc := 59) (tgt := 70) dX4_combined_59 (by decide) (by omega) (fun c_59 => ?_) (fun c_59 => ?_)
    · refine zV_iconst (pc := 70) dX4_combined_70 ?_
      refine zV_iret (pc := 71) dX4_combined_71 trivial ⟨Nat.zero_le _, Nat.zero_le _⟩ ?_
      rw [c_1, zopr_12]
      first
        | exact zPt (by omega)
        | exact zPf (by omega)
    · refine zV_iload_n (pc := 62) (i := 2) dX4_combined_62 rfl rfl ?_
      refine zV_if_eq (pc := 63) (tgt := 70) dX4_combined_63 (by decide) (by omega) (fun c_63 => ?_) (fun c_63 => ?_)
      · refine zV_iconst (pc := 70) dX4_combined_70 ?_
        refine zV_iret (pc := 71) dX4_combined_71 trivial ⟨Nat.zero_le _, Nat.zero_le _⟩ ?_
        rw [c_1, zopr_12]
        first
          | exact zPt (by omega)
          | exact zPf (by omega)
      · refine zV_iconst (pc := 66) dX4_combined_66 ?_
        refine zV_goto (pc := 67) (tgt := 71) dX4_combined_67 (by decide) ?_
        refine zV_iret (pc := 71) dX4_combined_71 trivial ⟨Nat.zero_le _, Nat.zero_le _⟩ ?_
        rw [c_1, zopr_12]
        first
          | exact zPt (by omega)
          | exact zPf (by omega)
  · refine zV_tin (pc := 1) (tgt := 44) 6 dX4_combined_1 (by omega) (by decide) (by decide) rfl (by decide) ?_
    refine zV_iload_n (pc := 44) (i := 1) dX4_combined_44 rfl rfl ?_
    refine zV_if_ne (pc := 45) (tgt := 52) dX4_combined_45 (by decide) (by omega) (fun c_45 => ?_) (fun c_45 => ?_)
    · refine zV_iconst (pc := 52) dX4_combined_52 ?_
      refine zV_goto (pc := 53) (tgt := 57) dX4_combined_53 (by decide) ?_
      refine zV_iret (pc := 57) dX4_combined_57 trivial ⟨Nat.zero_le _, Nat.zero_le _⟩ ?_
      rw [c_1, zopr_11]
      first
        | exact zPt (by omega)
        | exact zPf (by omega)
    · refine zV_iload_n (pc := 48) (i := 2) dX4_combined_48 rfl rfl ?_
      refine zV_if_eq (pc := 49) (tgt := 56) dX4_combined_49 (by decide) (by omega) (fun c_49 => ?_) (fun c_49 => ?_)
      · refine zV_iconst (pc := 56) dX4_combined_56 ?_
        refine zV_iret (pc := 57) dX4_combined_57 trivial ⟨Nat.zero_le _, Nat.zero_le _⟩ ?_
        rw [c_1, zopr_11]
        first
          | exact zPt (by omega)
          | exact zPf (by omega)
      · refine zV_iconst (pc := 52) dX4_combined_52 ?_
        refine zV_goto (pc := 53) (tgt := 57) dX4_combined_53 (by decide) ?_
        refine zV_iret (pc := 57) dX4_combined_57 trivial ⟨Nat.zero_le _, Nat.zero_le _⟩ ?_
        rw [c_1, zopr_11]
        first
          | exact zPt (by omega)
          | exact zPf (by omega)
  · refine zV_tout (pc := 1) (tgt := 102) dX4_combined_1 (by omega) (by omega) (by decide) ?_
    refine zV_iload_n (pc := 102) (i := 1) dX4_combined_102 rfl rfl ?_
    refine zV_iload_n (pc := 103) (i := 2) dX4_combined_103 rfl rfl ?_
    refine zV_imul (pc := 104) dX4_combined_104 ?_
    refine zV_norm ?_
    refine zV_iret (pc := 105) dX4_combined_105 trivial ⟨Nat.zero_le _, Nat.zero_le _⟩ ?_
    exact zPe (by rw [zopr_18 (by omega)])
set_option maxRecDepth 20000 in
set_option maxHeartbeats 2000000 in
theorem kX4_push (hS : zSt M) {stk : List Int} (hK : zSk M stk) {x : Int} (hx : -2147483648 ≤ x ∧ x ≤ 2147483647) : zK g yX4_push xX4_push [zr 53, zi x] 75 M (zPn 75 (fun M1 => zSk M1 (if stk.length < 31 then x :: stk else stk) ∧ zFr zRk M M1)) := by
  refine zK_of (ls0 := [zr 53, zi x]) (by decide) rfl (by decide) rfl (Nat.le_of_ble_eq_true rfl) ?_
  refine zV_aload_n (pc := 0) (i := 0) dX4_push_0 rfl rfl ?_
  refine zV_get (pc := 1) (j := 2) dX4_push_1 flX4_18 (zOb_of rfl) rfl hK.1 ?_
  refine zV_if_lt (pc := 4) (tgt := 39) dX4_push_4 (by decide) (by have := hK.2.1; omega) (fun c_4 => ?_) (fun c_4 => ?_)
  · refine zV_vret (pc := 39) dX4_push_39 trivial ⟨Nat.zero_le _, Nat.zero_le _⟩ ?_
    first
      | (exfalso; omega)
      | (rw [if_neg (by omega)]; exact ⟨rfl, rfl, hK, zFr.rf⟩)
      | (rw [if_pos (by omega)]; exact ⟨rfl, rfl, hK.push (by omega) hx, zFr.up (zFr.up zFr.rf (Or.inl rfl)) (Or.inr ⟨rfl, rfl⟩)⟩)
  · refine zV_aload_n (pc := 7) (i := 0) dX4_push_7 rfl rfl ?_
    refine zV_get (pc := 8) (j := 2) dX4_push_8 flX4_18 (zOb_of rfl) rfl hK.1 ?_
    refine zV_aload_n (pc := 11) (i := 0) dX4_push_11 rfl rfl ?_
    refine zV_get (pc := 12) (j := 1) dX4_push_12 flX4_15 (zOb_of rfl) rfl hS.e53_1 ?_
    refine zV_alen (pc := 15) dX4_push_15 (zAr_of rfl : zAr 75 55 0 31) ?_
    refine zV_icmp_ge (pc := 16) (tgt := 39) dX4_push_16 (by decide) (by have := hK.2.1; omega) (fun c_16 => ?_) (fun c_16 => ?_)
    · refine zV_vret (pc := 39) dX4_push_39 trivial ⟨Nat.zero_le _, Nat.zero_le _⟩ ?_
      first
        | (exfalso; omega)
        | (rw [if_neg (by omega)]; exact ⟨rfl, rfl, hK, zFr.rf⟩)
        | (rw [if_pos (by omega)]; exact ⟨rfl, rfl, hK.push (by omega) hx, zFr.up (zFr.up zFr.rf (Or.inl rfl)) (Or.inr ⟨rfl, rfl⟩)⟩)
    · refine zV_aload_n (pc := 19) (i := 0) dX4_push_19 rfl rfl ?_
      refine zV_get (pc := 20) (j := 1) dX4_push_20 flX4_15 (zOb_of rfl) rfl hS.e53_1 ?_
      refine zV_aload_n (pc := 23) (i := 0) dX4_push_23 rfl rfl ?_
      refine zV_get (pc := 24) (j := 2) dX4_push_24 flX4_18 (zOb_of rfl) rfl hK.1 ?_
      refine zV_iload_n (pc := 27) (i := 1) dX4_push_27 rfl rfl ?_
      refine zV_iast (pc := 28) dX4_push_28 (zAr_of rfl : zAr 75 55 0 31) (by omega) ?_
      refine zV_aload_n (pc := 29) (i := 0) dX4_push_29 rfl rfl ?_
      refine zV_dup (pc := 30) dX4_push_30 (by simp) ?_
      refine zV_get (pc := 31) (j := 2) dX4_push_31 flX4_18 (zOb_of rfl) rfl ((zU_a _ _ _ _ (by decide)).trans hK.1) ?_
      refine zV_iconst (pc := 34) dX4_push_34 ?_
      refine zV_iadd (pc := 35) dX4_push_35 ?_
      refine zV_put (pc := 36) (j := 2) dX4_push_36 flX4_18 rfl (zOb_of rfl) rfl trivial ?_
      refine zV_vret (pc := 39) dX4_push_39 trivial ⟨Nat.zero_le _, Nat.zero_le _⟩ ?_
      first
        | (exfalso; omega)
        | (rw [if_neg (by omega)]; exact ⟨rfl, rfl, hK, zFr.rf⟩)
        | (rw [if_pos (by omega)]; exact ⟨rfl, rfl, hK.push (by omega) hx, zFr.up (zFr.up zFr.rf (Or.inl rfl)) (Or.inr ⟨rfl, rfl⟩)⟩)
set_option maxRecDepth 20000 in
set_option maxHeartbeats 2000000 in
theorem kX4_change (hS : zSt M) {stk : List Int} (hK : zSk M stk) {s : Int} (hs : -2147483648 ≤ s ∧ s ≤ 2147483647) : zK g yX4_change xX4_change [zr 53, zi s] 75 M (zPn 75 (fun M1 => zSk M1 (zchg s stk) ∧ zFr zRk M M1)) := by
  refine zK_of (by decide) rfl (by decide) rfl (Nat.le_of_ble_eq_true rfl) ?_
  have hl := hK.2.1
  cases stk with
  | nil =>
    have h0 : M 53 2 = 0 := hK.1
    refine zV_aload_n (pc := 0) (i := 0) dX4_change_0 rfl rfl ?_
    refine zV_get (pc := 1) (j := 2) dX4_change_1 flX4_18 (zOb_of rfl) rfl h0 ?_
    refine zV_iconst (pc := 4) dX4_change_4 ?_
    refine zV_isub (pc := 5) dX4_change_5 ?_
    refine zV_istore_n (pc := 6) (i := 2) dX4_change_6 rfl rfl ?_
    try dsimp only [List.set_cons_succ, List.set_cons_zero]
    refine zV_iload_n (pc := 7) (i := 2) dX4_change_7 rfl rfl ?_
    refine zV_if_lt (pc := 8) (tgt := 57) dX4_change_8 (by decide) (by omega) (fun c_8 => ?_) (fun c_8 => absurd (by omega) c_8)
    refine zV_vret (pc := 57) dX4_change_57 trivial ⟨Nat.zero_le _, Nat.zero_le _⟩ ?_
    exact ⟨rfl, rfl, hK, zFr.rf⟩
  | cons v r =>
    have h0 : M 53 2 = (r.length : Int) + 1 := hK.1
    have ht := hK.top
    have hl : r.length + 1 ≤ 31 := hl
    have e0 : (r.length : Int) + 1 - 1 = r.length := by omega
    refine zV_aload_n (pc := 0) (i := 0) dX4_change_0 rfl rfl ?_
    refine zV_get (pc := 1) (j := 2) dX4_change_1 flX4_18 (zOb_of rfl) rfl h0 ?_
    refine zV_iconst (pc := 4) dX4_change_4 ?_
    refine zV_isub (pc := 5) dX4_change_5 ?_
    refine zV_istore_n (pc := 6) (i := 2) dX4_change_6 rfl rfl ?_
    try dsimp only [List.set_cons_succ, List.set_cons_zero]
    refine zV_iload_n (pc := 7) (i := 2) dX4_change_7 rfl rfl ?_
    refine zV_if_lt (pc := 8) (tgt := 57) dX4_change_8 (by decide) (by omega) (fun c_8 => absurd c_8 (by omega)) (fun c_8 => ?_)
    refine zV_iload_n (pc := 11) (i := 2) dX4_change_11 rfl rfl ?_
    refine zV_aload_n (pc := 12) (i := 0) dX4_change_12 rfl rfl ?_
    refine zV_get (pc := 13) (j := 1) dX4_change_13 flX4_15 (zOb_of rfl) rfl hS.e53_1 ?_
    refine zV_alen (pc := 16) dX4_change_16 (zAr_of rfl : zAr 75 55 0 31) ?_
    refine zV_icmp_ge (pc := 17) (tgt := 57) dX4_change_17 (by decide) (by omega) (fun c_17 => absurd c_17 (by omega)) (fun c_17 => ?_)
    refine zV_aload_n (pc := 20) (i := 0) dX4_change_20 rfl rfl ?_
    refine zV_get (pc := 21) (j := 1) dX4_change_21 flX4_15 (zOb_of rfl) rfl hS.e53_1 ?_
    refine zV_iload_n (pc := 24) (i := 2) dX4_change_24 rfl rfl ?_
    refine zV_iald (pc := 25) dX4_change_25 (zAr_of rfl : zAr 75 55 0 31) (by omega) ((congrArg (M 55) e0).trans ht.1) ?_
    refine zV_istore_n (pc := 26) (i := 3) dX4_change_26 rfl rfl ?_
    try dsimp only [List.set_cons_succ, List.set_cons_zero]
    refine zV_iload_n (pc := 27) (i := 3) dX4_change_27 rfl rfl ?_
    refine zV_if_ne (pc := 28) (tgt := 35) dX4_change_28 (by decide) (by omega) (fun c_28 => ?_) (fun c_28 => ?_)
    · refine zV_iconst (pc := 35) dX4_change_35 ?_
      refine zV_istore (pc := 36) dX4_change_36 rfl ?_
      try dsimp only [List.set_cons_succ, List.set_cons_zero]
      refine zV_aload_n (pc := 38) (i := 0) dX4_change_38 rfl rfl ?_
      refine zV_get (pc := 39) (j := 1) dX4_change_39 flX4_15 (zOb_of rfl) rfl hS.e53_1 ?_
      refine zV_iload_n (pc := 42) (i := 2) dX4_change_42 rfl rfl ?_
      refine zV_iload_n (pc := 43) (i := 1) dX4_change_43 rfl rfl ?_
      refine zV_bipush (pc := 44) dX4_change_44 (by decide) ?_
      refine zV_icmp_ne (pc := 46) (tgt := 54) dX4_change_46 (by decide) (by omega) (fun c_46 => ?_) (fun c_46 => ?_)
      · refine zV_iload (pc := 54) dX4_change_54 rfl ?_
        refine zV_iast (pc := 56) dX4_change_56 (zAr_of rfl : zAr 75 55 0 31) (by omega) ?_
        refine zV_vret (pc := 57) dX4_change_57 trivial ⟨Nat.zero_le _, Nat.zero_le _⟩ ?_
        refine ⟨rfl, rfl, ?_, zFr.up zFr.rf (Or.inl rfl)⟩
        rw [e0]
        first
          | (have e1 : zop1 s v = zw (-v) := if_pos (by omega); show zSk _ (zop1 s v :: r); rw [e1]; exact hK.chg (zw_r _))
          | (have e1 : zop1 s v = zb (v = 0) := if_neg (by omega); show zSk _ (zop1 s v :: r); rw [e1]; first | (rw [zb_t (by omega)]; exact hK.chg (by omega)) | (rw [zb_f (by omega)]; exact hK.chg (by omega)))
      · refine zV_iload_n (pc := 49) (i := 3) dX4_change_49 rfl rfl ?_
        refine zV_ineg (pc := 50) dX4_change_50 ?_
        refine zV_norm ?_
        refine zV_goto (pc := 51) (tgt := 56) dX4_change_51 (by decide) ?_
        refine zV_iast (pc := 56) dX4_change_56 (zAr_of rfl : zAr 75 55 0 31) (by omega) ?_
        refine zV_vret (pc := 57) dX4_change_57 trivial ⟨Nat.zero_le _, Nat.zero_le _⟩ ?_
        refine ⟨rfl, rfl, ?_, zFr.up zFr.rf (Or.inl rfl)⟩
        rw [e0]
        first
          | (have e1 : zop1 s v = zw (-v) := if_pos (by omega); show zSk _ (zop1 s v :: r); rw [e1]; exact hK.chg (zw_r _))
          | (have e1 : zop1 s v = zb (v = 0) := if_neg (by omega); show zSk _ (zop1 s v :: r); rw [e1]; first | (rw [zb_t (by omega)]; exact hK.chg (by omega)) | (rw [zb_f (by omega)]; exact hK.chg (by omega)))
    · refine zV_iconst (pc := 31) dX4_change_31 ?_
      refine zV_goto (pc := 32) (tgt := 36) dX4_change_32 (by decide) ?_
      refine zV_istore (pc := 36) dX4_change_36 rfl ?_
      try dsimp only [List.set_cons_succ, List.set_cons_zero]
      refine zV_aload_n (pc := 38) (i := 0) dX4_change_38 rfl rfl ?_
      refine zV_get (pc := 39) (j := 1) dX4_change_39 flX4_15 (zOb_of rfl) rfl hS.e53_1 ?_
      refine zV_iload_n (pc := 42) (i := 2) dX4_change_42 rfl rfl ?_
      refine zV_iload_n (pc := 43) (i := 1) dX4_change_43 rfl rfl ?_
      refine zV_bipush (pc := 44) dX4_change_44 (by decide) ?_
      refine zV_icmp_ne (pc := 46) (tgt := 54) dX4_change_46 (by decide) (by omega) (fun c_46 => ?_) (fun c_46 => ?_)
      · refine zV_iload (pc := 54) dX4_change_54 rfl ?_
        refine zV_iast (pc := 56) dX4_change_56 (zAr_of rfl : zAr 75 55 0 31) (by omega) ?_
        refine zV_vret (pc := 57) dX4_change_57 trivial ⟨Nat.zero_le _, Nat.zero_le _⟩ ?_
        refine ⟨rfl, rfl, ?_, zFr.up zFr.rf (Or.inl rfl)⟩
        rw [e0]
        first
          | (have e1 : zop1 s v = zw (-v) := if_pos (by omega); show zSk _ (zop1 s v :: r); rw [e1]; exact hK.chg (zw_r _))
          | (have e1 : zop1 s v = zb (v = 0) := if_neg (by omega); show zSk _ (zop1 s v :: r); rw [e1]; first | (rw [zb_t (by omega)]; exact hK.chg (by omega)) | (rw [zb_f (by omega)]; exact hK.chg (by omega)))
      · refine zV_iload_n (pc := 49) (i := 3) dX4_change_49 rfl rfl ?_
        refine zV_ineg (pc := 50) dX4_change_50 ?_
        refine zV_norm ?_
        refine zV_goto (pc := 51) (tgt := 56) dX4_change_51 (by decide) ?_
        refine zV_iast (pc := 56) dX4_change_56 (zAr_of rfl : zAr 75 55 0 31) (by omega) ?_
        refine zV_vret (pc := 57) dX4_change_57 trivial ⟨Nat.zero_le _, Nat.zero_le _⟩ ?_
        refine ⟨rfl, rfl, ?_, zFr.up zFr.rf (Or.inl rfl)⟩
        rw [e0]
        first
          | (have e1 : zop1 s v = zw (-v) := if_pos (by omega); show zSk _ (zop1 s v :: r); rw [e1]; exact hK.chg (zw_r _))
          | (have e1 : zop1 s v = zb (v = 0) := if_neg (by omega); show zSk _ (zop1 s v :: r); rw [e1]; first | (rw [zb_t (by omega)]; exact hK.chg (by omega)) | (rw [zb_f (by omega)]; exact hK.chg (by omega)))
set_option maxRecDepth 20000 in
set_option maxHeartbeats 2000000 in
theorem kX4_combine (hS : zSt M) {stk : List Int} (hK : zSk M stk) {s : Int} (hs : -2147483648 ≤ s ∧ s ≤ 2147483647) : zK g yX4_combine xX4_combine [zr 53, zi s] 75 M (zPn 75 (fun M1 => zSk M1 (zcmb s stk) ∧ zFr zRk M M1)) := by
  refine zK_of (by decide) rfl (by decide) rfl (Nat.le_of_ble_eq_true rfl) ?_
  have hl := hK.2.1
  match stk, hK, hl with
  | [], hK, hl =>
    have h0 : M 53 2 = 0 := hK.1
    refine zV_aload_n (pc := 0) (i := 0) dX4_combine_0 rfl rfl ?_
    refine zV_get (pc := 1) (j := 2) dX4_combine_1 flX4_18 (zOb_of rfl) rfl h0 ?_
    refine zV_iconst (pc := 4) dX4_combine_4 ?_
    refine zV_isub (pc := 5) dX4_combine_5 ?_
    refine zV_istore_n (pc := 6) (i := 2) dX4_combine_6 rfl rfl ?_
    try dsimp only [List.set_cons_succ, List.set_cons_zero]
    refine zV_iload_n (pc := 7) (i := 2) dX4_combine_7 rfl rfl ?_
    refine zV_if_lt (pc := 8) (tgt := 56) dX4_combine_8 (by decide) (by omega) (fun c_8 => ?_) (fun c_8 => absurd (by omega) c_8)
    refine zV_vret (pc := 56) dX4_combine_56 trivial ⟨Nat.zero_le _, Nat.zero_le _⟩ ?_
    exact ⟨rfl, rfl, hK, zFr.rf⟩
  | [v], hK, hl =>
    have h0 : M 53 2 = 1 := hK.1
    refine zV_aload_n (pc := 0) (i := 0) dX4_combine_0 rfl rfl ?_
    refine zV_get (pc := 1) (j := 2) dX4_combine_1 flX4_18 (zOb_of rfl) rfl h0 ?_
    refine zV_iconst (pc := 4) dX4_combine_4 ?_
    refine zV_isub (pc := 5) dX4_combine_5 ?_
    refine zV_istore_n (pc := 6) (i := 2) dX4_combine_6 rfl rfl ?_
    try dsimp only [List.set_cons_succ, List.set_cons_zero]
    refine zV_iload_n (pc := 7) (i := 2) dX4_combine_7 rfl rfl ?_
    refine zV_if_lt (pc := 8) (tgt := 56) dX4_combine_8 (by decide) (by omega) (fun c_8 => ?_) (fun c_8 => absurd (by omega) c_8)
    refine zV_vret (pc := 56) dX4_combine_56 trivial ⟨Nat.zero_le _, Nat.zero_le _⟩ ?_
    exact ⟨rfl, rfl, hK, zFr.rf⟩
  | b :: a :: r, hK, hl =>
    have h0 : M 53 2 = (r.length : Int) + 1 + 1 := hK.1
    have ht := hK.top
    have hl : r.length + 1 + 1 ≤ 31 := hl
    have e0 : (r.length : Int) + 1 + 1 - 2 = r.length := by omega
    have e1 : (((a :: r).length : Nat) : Int) = (r.length : Int) + 1 := rfl
    have hp := hK.pop
    have ha := hp.top
    rw [zU_a _ _ _ _ (by decide)] at ha
    rw [e1] at ht
    have hq := (hp.chg (x := zopr s a b) (zopr_r s a b)).pop
    refine zV_aload_n (pc := 0) (i := 0) dX4_combine_0 rfl rfl ?_
    refine zV_get (pc := 1) (j := 2) dX4_combine_1 flX4_18 (zOb_of rfl) rfl h0 ?_
    refine zV_iconst (pc := 4) dX4_combine_4 ?_
    refine zV_isub (pc := 5) dX4_combine_5 ?_
    refine zV_istore_n (pc := 6) (i := 2) dX4_combine_6 rfl rfl ?_
    try dsimp only [List.set_cons_succ, List.set_cons_zero]
    refine zV_iload_n (pc := 7) (i := 2) dX4_combine_7 rfl rfl ?_
    refine zV_if_lt (pc := 8) (tgt := 56) dX4_combine_8 (by decide) (by omega) (fun c_8 => absurd c_8 (by omega)) (fun c_8 => ?_)
    refine zV_iload_n (pc := 11) (i := 2) dX4_combine_11 rfl rfl ?_
    refine zV_iconst (pc := 12) dX4_combine_12 ?_
    refine zV_iadd (pc := 13) dX4_combine_13 ?_
    refine zV_aload_n (pc := 14) (i := 0) dX4_combine_14 rfl rfl ?_
    refine zV_get (pc := 15) (j := 1) dX4_combine_15 flX4_15 (zOb_of rfl) rfl hS.e53_1 ?_
    refine zV_alen (pc := 18) dX4_combine_18 (zAr_of rfl : zAr 75 55 0 31) ?_
    refine zV_icmp_ge (pc := 19) (tgt := 56) dX4_combine_19 (by decide) (by omega) (fun c_19 => absurd c_19 (by omega)) (fun c_19 => ?_)
    refine zV_aload_n (pc := 22) (i := 0) dX4_combine_22 rfl rfl ?_
    refine zV_get (pc := 23) (j := 1) dX4_combine_23 flX4_15 (zOb_of rfl) rfl hS.e53_1 ?_
    refine zV_iload_n (pc := 26) (i := 2) dX4_combine_26 rfl rfl ?_
    refine zV_iload_n (pc := 27) (i := 1) dX4_combine_27 rfl rfl ?_
    refine zV_aload_n (pc := 28) (i := 0) dX4_combine_28 rfl rfl ?_
    refine zV_get (pc := 29) (j := 1) dX4_combine_29 flX4_15 (zOb_of rfl) rfl hS.e53_1 ?_
    refine zV_iload_n (pc := 32) (i := 2) dX4_combine_32 rfl rfl ?_
    refine zV_iald (pc := 33) dX4_combine_33 (zAr_of rfl : zAr 75 55 0 31) (by omega) ((congrArg (M 55) e0).trans ha.1) ?_
    refine zV_aload_n (pc := 34) (i := 0) dX4_combine_34 rfl rfl ?_
    refine zV_get (pc := 35) (j := 1) dX4_combine_35 flX4_15 (zOb_of rfl) rfl hS.e53_1 ?_
    refine zV_iload_n (pc := 38) (i := 2) dX4_combine_38 rfl rfl ?_
    refine zV_iconst (pc := 39) dX4_combine_39 ?_
    refine zV_iadd (pc := 40) dX4_combine_40 ?_
    refine zV_iald (pc := 41) dX4_combine_41 (zAr_of rfl : zAr 75 55 0 31) (by omega) ((congrArg (M 55) (by omega : _ = (r.length : Int) + 1)).trans ht.1) ?_
    refine zV_isp (pc := 42) dX4_combine_42 klX4_56 mX4_combined rfl ⟨Nat.zero_le _, Nat.zero_le _⟩ (kX4_combined hs ha.2 ht.2) rfl rfl (Nat.le_of_ble_eq_true rfl) ?_
    refine zV_iast (pc := 45) dX4_combine_45 (zAr_of rfl : zAr 75 55 0 31) (by omega) ?_
    refine zV_aload_n (pc := 46) (i := 0) dX4_combine_46 rfl rfl ?_
    refine zV_dup (pc := 47) dX4_combine_47 (by simp) ?_
    refine zV_get (pc := 48) (j := 2) dX4_combine_48 flX4_18 (zOb_of rfl) rfl ((zU_a _ _ _ _ (by decide)).trans h0) ?_
    refine zV_iconst (pc := 51) dX4_combine_51 ?_
    refine zV_isub (pc := 52) dX4_combine_52 ?_
    refine zV_put (pc := 53) (j := 2) dX4_combine_53 flX4_18 rfl (zOb_of rfl) rfl trivial ?_
    refine zV_vret (pc := 56) dX4_combine_56 trivial ⟨Nat.zero_le _, Nat.zero_le _⟩ ?_
    refine ⟨rfl, rfl, ?_, zFr.up (zFr.up zFr.rf (Or.inl rfl)) (Or.inr ⟨rfl, rfl⟩)⟩
    refine ⟨?_, by show r.length + 1 ≤ 31; omega, ?_, ?_⟩
    · rw [zU_s]; show _ = ((r.length + 1 : Nat) : Int); omega
    · intro j x hx
      have h9 := (hp.chg (x := zopr s a b) (zopr_r s a b)).2.2.1 j x hx
      rw [zU_a _ _ _ _ (by decide), e0]
      by_cases hj : (j : Int) = r.length
      · rw [hj, zU_s] at h9 ⊢; exact h9
      · rw [zU_j _ _ _ _ hj, zU_a _ _ _ _ (by decide)] at h9; rw [zU_j _ _ _ _ hj]; exact h9
    · intro x hx
      rcases List.mem_cons.mp hx with rfl | hx
      · exact zopr_r s a b
      · exact hK.2.2.2 x (List.mem_cons_of_mem _ (List.mem_cons_of_mem _ hx))
end
