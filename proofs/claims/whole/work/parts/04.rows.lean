/-! A ROW AN INSTRUCTION over the small machine: what touches no memory -/
section
variable {g : zG} {X : zX} {P : zP} {pc : Nat} {ls st : List zv} {N : Nat} {M : zM} {kc ks : Nat}
theorem z3 {t : Nat} {x : Int} (h : t < 3 := by omega) : ((t, x) : zv).1 < 3 := h
/-- an int, as the machine has it -/
def zw (z : Int) : Int := (z + 2147483648) % 4294967296 - 2147483648
theorem zw_id {z : Int} (h : -2147483648 ≤ z ∧ z ≤ 2147483647) : zw z = z := by
  unfold zw
  omega
theorem zw_eq (z : Int) : (Int32.ofInt z).toInt = zw z := by
  rw [Int32.toInt_ofInt]
  unfold zw
  rw [Int.bmod_def]
  show (if z % (4294967296 : Int) < (4294967296 + 1) / 2 then z % 4294967296 else z % 4294967296 - 4294967296) = _
  split <;> omega
def zW (z : Int) : Int := (z + 9223372036854775808) % 18446744073709551616 - 9223372036854775808
theorem zW_id {z : Int} (h : -9223372036854775808 ≤ z ∧ z ≤ 9223372036854775807) : zW z = z := by
  unfold zW
  omega
theorem zW_eq (z : Int) : (Int64.ofInt z).toInt = zW z := by
  rw [Int64.toInt_ofInt]
  unfold zW
  rw [Int.bmod_def]
  show (if z % (18446744073709551616 : Int) < (18446744073709551616 + 1) / 2 then z % 18446744073709551616 else z % 18446744073709551616 - 18446744073709551616) = _
  split <;> omega
theorem zw_lt {a b : Int} : Int32.ofInt a < Int32.ofInt b ↔ zw a < zw b := by rw [Int32.lt_iff_toInt_lt, zw_eq, zw_eq]
theorem zw_le {a b : Int} : Int32.ofInt a ≤ Int32.ofInt b ↔ zw a ≤ zw b := by rw [Int32.le_iff_toInt_le, zw_eq, zw_eq]
theorem zw_ee {a b : Int} : Int32.ofInt a = Int32.ofInt b ↔ zw a = zw b := by rw [← Int32.toInt_inj, zw_eq, zw_eq]
theorem zw_ofw (z : Int) : Int32.ofInt (zw z) = Int32.ofInt z := by rw [← zw_eq, Int32.ofInt_toInt]
theorem zW_ofw (z : Int) : Int64.ofInt (zW z) = Int64.ofInt z := by rw [← zW_eq, Int64.ofInt_toInt]
theorem zw_b8 {n : Int} (h : -128 ≤ n ∧ n ≤ 127) : (Int8.ofInt n).toInt32 = Int32.ofInt n := by
  apply Int32.toInt_inj.1
  rw [Int8.toInt_toInt32, zw_eq, zw_id (by omega), Int8.toInt_ofInt_of_le (by omega) (by omega)]
theorem zw_b16 {n : Int} (h : -32768 ≤ n ∧ n ≤ 32767) : (Int16.ofInt n).toInt32 = Int32.ofInt n := by
  apply Int32.toInt_inj.1
  rw [Int16.toInt_toInt32, zw_eq, zw_id (by omega), Int16.toInt_ofInt_of_le (by omega) (by omega)]
/-- may slot i take a value of one slot? of two? -/
def zs1 (ls : List zv) (i : Nat) : Bool := match i with
  | 0 => decide (0 < ls.length)
  | j + 1 => decide (j + 1 < ls.length) && !((ls.getD j (3, 0)).1 == 1)
def zs2 (ls : List zv) (i : Nat) : Bool := zs1 ls i && decide (i + 1 < ls.length)
theorem zs1_lt {i : Nat} (h : zs1 ls i = true) : i < ls.length := by
  cases i with
  | zero => simpa [zs1] using h
  | succ j =>
    simp only [zs1, Bool.and_eq_true, decide_eq_true_eq] at h
    exact h.1
theorem zs1_no {i : Nat} (h : zs1 ls i = true) : ∀ u, 0 < i → ls[i - 1]? = some u → u.1 ≠ 1 := by
  intro u h0 hu
  cases i with
  | zero => omega
  | succ j =>
    simp only [zs1, Bool.and_eq_true, Bool.not_eq_true', beq_eq_false_iff_ne] at h
    have h2 := h.2
    rw [show j + 1 - 1 = j by omega] at hu
    rw [List.getD_eq_getElem?_getD, hu] at h2
    exact h2
theorem zV_iconst {n : Int} (hd : decode X.cc pc = .ok (.iconst n, 1)) (k : zV g X P (pc + 1) ls (zi n :: st) N M kc ks) : zV g X P pc ls (st) N M kc ks := by
  intro p e s m args below meth c H locs Q la F hl L R S E
  have k := k p e s m args below meth c H locs Q la F hl L R S E
  exact lv_iconst (v := Int32.ofInt n) F.1 F.2.1 hd rfl k
theorem zV_bipush {n : Int} (hd : decode X.cc pc = .ok (.bipush n, 2)) (hn : -128 ≤ n ∧ n ≤ 127) (k : zV g X P (pc + 2) ls (zi n :: st) N M kc ks) : zV g X P pc ls (st) N M kc ks := by
  intro p e s m args below meth c H locs Q la F hl L R S E
  have k := k p e s m args below meth c H locs Q la F hl L R S E
  exact lv_bipush (v := Int32.ofInt n) F.1 F.2.1 hd (zw_b8 hn) k
theorem zV_sipush {n : Int} (hd : decode X.cc pc = .ok (.sipush n, 3)) (hn : -32768 ≤ n ∧ n ≤ 32767) (k : zV g X P (pc + 3) ls (zi n :: st) N M kc ks) : zV g X P pc ls (st) N M kc ks := by
  intro p e s m args below meth c H locs Q la F hl L R S E
  have k := k p e s m args below meth c H locs Q la F hl L R S E
  exact lv_sipush (v := Int32.ofInt n) F.1 F.2.1 hd (zw_b16 hn) k
theorem zV_lconst0  (hd : decode X.cc pc = .ok (.lconst 0, 1)) (k : zV g X P (pc + 1) ls (zl 0 :: st) N M kc ks) : zV g X P pc ls (st) N M kc ks := by
  intro p e s m args below meth c H locs Q la F hl L R S E
  have k := k p e s m args below meth c H locs Q la F hl L R S E
  exact lv_lconst (v := Int64.ofInt 0) F.1 F.2.1 hd rfl k
theorem zV_lconst1  (hd : decode X.cc pc = .ok (.lconst 1, 1)) (k : zV g X P (pc + 1) ls (zl 1 :: st) N M kc ks) : zV g X P pc ls (st) N M kc ks := by
  intro p e s m args below meth c H locs Q la F hl L R S E
  have k := k p e s m args below meth c H locs Q la F hl L R S E
  exact lv_lconst (v := Int64.ofInt 1) F.1 F.2.1 hd rfl k
theorem zV_ldc {index : Nat} {n : Int} (hd : decode X.cc pc = .ok (.ldc index, 2)) (hc : Cond.constant X.own index (Int32.ofInt n) ∈ zTb) (k : zV g X P (pc + 2) ls (zi n :: st) N M kc ks) : zV g X P pc ls (st) N M kc ks := by
  intro p e s m args below meth c H locs Q la F hl L R S E
  have k := k p e s m args below meth c H locs Q la F hl L R S E
  exact lv_ldc F.1 F.2.1 F.2.2.2.1 (F.2.2.2.2.1 _ hc) hd k
theorem zV_ldc2 {index : Nat} {n : Int} (hd : decode X.cc pc = .ok (.ldc2_w index, 3)) (hc : Cond.constantLong X.own index (Int64.ofInt n) ∈ zTb) (k : zV g X P (pc + 3) ls (zl n :: st) N M kc ks) : zV g X P pc ls (st) N M kc ks := by
  intro p e s m args below meth c H locs Q la F hl L R S E
  have k := k p e s m args below meth c H locs Q la F hl L R S E
  exact lv_ldc2 F.1 F.2.1 F.2.2.2.1 (F.2.2.2.2.1 _ hc) hd k
theorem zV_iload_n {j : Fin 4} {i : Nat} {x : Int} (hd : decode X.cc pc = .ok (.iload_n j, 1)) (hi : (j : Nat) = i) (h : ls[i]? = some (zi x)) (k : zV g X P (pc + 1) ls (zi x :: st) N M kc ks) : zV g X P pc ls (st) N M kc ks := by
  intro p e s m args below meth c H locs Q la F hl L R S E
  have k := k p e s m args below meth c H locs Q la F hl L R S E
  exact lv_iload_n F.1 F.2.1 hd hi (L.at h z3) k
theorem zV_iload {j : Nat} {x : Int} (hd : decode X.cc pc = .ok (.iload j, 2)) (h : ls[j]? = some (zi x)) (k : zV g X P (pc + 2) ls (zi x :: st) N M kc ks) : zV g X P pc ls (st) N M kc ks := by
  intro p e s m args below meth c H locs Q la F hl L R S E
  have k := k p e s m args below meth c H locs Q la F hl L R S E
  exact lv_iload F.1 F.2.1 hd (L.at h z3) k
theorem zV_lload_n {j : Fin 4} {i : Nat} {x : Int} (hd : decode X.cc pc = .ok (.lload_n j, 1)) (hi : (j : Nat) = i) (h : ls[i]? = some (zl x)) (k : zV g X P (pc + 1) ls (zl x :: st) N M kc ks) : zV g X P pc ls (st) N M kc ks := by
  intro p e s m args below meth c H locs Q la F hl L R S E
  have k := k p e s m args below meth c H locs Q la F hl L R S E
  exact lv_lload_n F.1 F.2.1 hd hi (L.at h z3) k
theorem zV_lload {j : Nat} {x : Int} (hd : decode X.cc pc = .ok (.lload j, 2)) (h : ls[j]? = some (zl x)) (k : zV g X P (pc + 2) ls (zl x :: st) N M kc ks) : zV g X P pc ls (st) N M kc ks := by
  intro p e s m args below meth c H locs Q la F hl L R S E
  have k := k p e s m args below meth c H locs Q la F hl L R S E
  exact lv_lload F.1 F.2.1 hd (L.at h z3) k
theorem zV_aload_n {j : Fin 4} {i : Nat} {x : Int} (hd : decode X.cc pc = .ok (.aload_n j, 1)) (hi : (j : Nat) = i) (h : ls[i]? = some (zr x)) (k : zV g X P (pc + 1) ls (zr x :: st) N M kc ks) : zV g X P pc ls (st) N M kc ks := by
  intro p e s m args below meth c H locs Q la F hl L R S E
  have k := k p e s m args below meth c H locs Q la F hl L R S E
  have h9 := L.at h z3
  by_cases h0 : x < 0
  · have e0 : zT g (zr x) = .null := if_pos h0
    have k : W p g.1 e X.rm s m args below meth c H locs kc ks Q (F0 m (pc + 1) la (zT g (zr x) :: st.map (zT g))) := k
    rw [e0] at k h9
    exact lv_aload_nN F.1 F.2.1 hd hi h9 k
  · have e0 : zT g (zr x) = .ref (zAd g x) := zT_r g (by omega)
    have k : W p g.1 e X.rm s m args below meth c H locs kc ks Q (F0 m (pc + 1) la (zT g (zr x) :: st.map (zT g))) := k
    rw [e0] at k h9
    exact lv_aload_n F.1 F.2.1 hd hi h9 k
theorem zV_aload {j : Nat} {x : Int} (hd : decode X.cc pc = .ok (.aload j, 2)) (h : ls[j]? = some (zr x)) (k : zV g X P (pc + 2) ls (zr x :: st) N M kc ks) : zV g X P pc ls (st) N M kc ks := by
  intro p e s m args below meth c H locs Q la F hl L R S E
  have k := k p e s m args below meth c H locs Q la F hl L R S E
  have h9 := L.at h z3
  by_cases h0 : x < 0
  · have e0 : zT g (zr x) = .null := if_pos h0
    have k : W p g.1 e X.rm s m args below meth c H locs kc ks Q (F0 m (pc + 2) la (zT g (zr x) :: st.map (zT g))) := k
    rw [e0] at k h9
    exact lv_aloadN F.1 F.2.1 hd h9 k
  · have e0 : zT g (zr x) = .ref (zAd g x) := zT_r g (by omega)
    have k : W p g.1 e X.rm s m args below meth c H locs kc ks Q (F0 m (pc + 2) la (zT g (zr x) :: st.map (zT g))) := k
    rw [e0] at k h9
    exact lv_aload F.1 F.2.1 hd h9 k
theorem zV_istore_n {j : Fin 4} {i : Nat} {x : Int} (hd : decode X.cc pc = .ok (.istore_n j, 1)) (hi : (j : Nat) = i) (h : zs1 ls i = true) (k : zV g X P (pc + 1) (ls.set i (zi x)) (st) N M kc ks) : zV g X P pc ls (zi x :: st) N M kc ks := by
  intro p e s m args below meth c H locs Q la F hl L R S E
  exact lv_istore_n F.1 F.2.1 hd hi L (zs1_lt h) rfl (fun la' h' => k p e s m args below meth c H locs Q la' F (by rw [List.length_set]; exact hl) (zL.set1 (v := zi x) (zs1_no h) rfl h') R S E)
theorem zV_istore {j : Nat} {x : Int} (hd : decode X.cc pc = .ok (.istore j, 2)) (h : zs1 ls j = true) (k : zV g X P (pc + 2) (ls.set j (zi x)) (st) N M kc ks) : zV g X P pc ls (zi x :: st) N M kc ks := by
  intro p e s m args below meth c H locs Q la F hl L R S E
  exact lv_istore F.1 F.2.1 hd L (zs1_lt h) rfl (fun la' h' => k p e s m args below meth c H locs Q la' F (by rw [List.length_set]; exact hl) (zL.set1 (v := zi x) (zs1_no h) rfl h') R S E)
theorem zV_lstore_n {j : Fin 4} {i : Nat} {x : Int} (hd : decode X.cc pc = .ok (.lstore_n j, 1)) (hi : (j : Nat) = i) (h : zs2 ls i = true) (k : zV g X P (pc + 1) ((ls.set i (zl x)).set (i + 1) (3, 0)) (st) N M kc ks) : zV g X P pc ls (zl x :: st) N M kc ks := by
  have h1 : zs1 ls i = true := by
    simp only [zs2, Bool.and_eq_true] at h
    exact h.1
  have h2 : i + 1 < ls.length := by
    simp only [zs2, Bool.and_eq_true, decide_eq_true_eq] at h
    exact h.2
  intro p e s m args below meth c H locs Q la F hl L R S E
  exact lv_lstore_n F.1 F.2.1 hd hi L h2 rfl (fun la' h' => k p e s m args below meth c H locs Q la' F (by rw [List.length_set, List.length_set]; exact hl) (zL.set2 (v := zl x) (w := (3, 0)) rfl (zs1_no h1) rfl h') R S E)
theorem zV_lstore {j : Nat} {x : Int} (hd : decode X.cc pc = .ok (.lstore j, 2)) (h : zs2 ls j = true) (k : zV g X P (pc + 2) ((ls.set j (zl x)).set (j + 1) (3, 0)) (st) N M kc ks) : zV g X P pc ls (zl x :: st) N M kc ks := by
  have h1 : zs1 ls j = true := by
    simp only [zs2, Bool.and_eq_true] at h
    exact h.1
  have h2 : j + 1 < ls.length := by
    simp only [zs2, Bool.and_eq_true, decide_eq_true_eq] at h
    exact h.2
  intro p e s m args below meth c H locs Q la F hl L R S E
  exact lv_lstore F.1 F.2.1 hd L h2 rfl (fun la' h' => k p e s m args below meth c H locs Q la' F (by rw [List.length_set, List.length_set]; exact hl) (zL.set2 (v := zl x) (w := (3, 0)) rfl (zs1_no h1) rfl h') R S E)
theorem zV_astore_n {j : Fin 4} {i : Nat} {x : Int} (hd : decode X.cc pc = .ok (.astore_n j, 1)) (hi : (j : Nat) = i) (h : zs1 ls i = true) (k : zV g X P (pc + 1) (ls.set i (zr x)) (st) N M kc ks) : zV g X P pc ls (zr x :: st) N M kc ks := by
  intro p e s m args below meth c H locs Q la F hl L R S E
  by_cases h0 : x < 0
  · have e0 : zT g (zr x) = .null := if_pos h0
    show W p g.1 e X.rm s m args below meth c H locs kc ks Q (F0 m pc la (zT g (zr x) :: st.map (zT g)))
    rw [e0]
    exact lv_astore_nN F.1 F.2.1 hd hi L (zs1_lt h) rfl (fun la' h' => k p e s m args below meth c H locs Q la' F (by rw [List.length_set]; exact hl) (zL.set1 (v := zr x) (zs1_no h) rfl (by rw [e0]; exact h')) R S E)
  · have e0 : zT g (zr x) = .ref (zAd g x) := zT_r g (by omega)
    show W p g.1 e X.rm s m args below meth c H locs kc ks Q (F0 m pc la (zT g (zr x) :: st.map (zT g)))
    rw [e0]
    exact lv_astore_n F.1 F.2.1 hd hi L (zs1_lt h) rfl (fun la' h' => k p e s m args below meth c H locs Q la' F (by rw [List.length_set]; exact hl) (zL.set1 (v := zr x) (zs1_no h) rfl (by rw [e0]; exact h')) R S E)
theorem zV_astore {j : Nat} {x : Int} (hd : decode X.cc pc = .ok (.astore j, 2)) (h : zs1 ls j = true) (k : zV g X P (pc + 2) (ls.set j (zr x)) (st) N M kc ks) : zV g X P pc ls (zr x :: st) N M kc ks := by
  intro p e s m args below meth c H locs Q la F hl L R S E
  by_cases h0 : x < 0
  · have e0 : zT g (zr x) = .null := if_pos h0
    show W p g.1 e X.rm s m args below meth c H locs kc ks Q (F0 m pc la (zT g (zr x) :: st.map (zT g)))
    rw [e0]
    exact lv_astoreN F.1 F.2.1 hd L (zs1_lt h) rfl (fun la' h' => k p e s m args below meth c H locs Q la' F (by rw [List.length_set]; exact hl) (zL.set1 (v := zr x) (zs1_no h) rfl (by rw [e0]; exact h')) R S E)
  · have e0 : zT g (zr x) = .ref (zAd g x) := zT_r g (by omega)
    show W p g.1 e X.rm s m args below meth c H locs kc ks Q (F0 m pc la (zT g (zr x) :: st.map (zT g)))
    rw [e0]
    exact lv_astore F.1 F.2.1 hd L (zs1_lt h) rfl (fun la' h' => k p e s m args below meth c H locs Q la' F (by rw [List.length_set]; exact hl) (zL.set1 (v := zr x) (zs1_no h) rfl (by rw [e0]; exact h')) R S E)
theorem zV_iinc {j : Nat} {x n : Int} (hd : decode X.cc pc = .ok (.iinc j n, 3)) (h : zs1 ls j = true) (hx : ls[j]? = some (zi x)) (k : zV g X P (pc + 3) (ls.set j (zi (x + n))) (st) N M kc ks) : zV g X P pc ls (st) N M kc ks := by
  intro p e s m args below meth c H locs Q la F hl L R S E
  obtain ⟨q, hq⟩ := List.getElem?_of_mem (zas_mem.mpr ⟨zi x, hx, z3, rfl⟩ : (j, zT g (zi x)) ∈ zas g ls)
  exact lv_iinc (v := Int32.ofInt (x + n)) F.1 F.2.1 hd L hq (by rw [Int32.ofInt_add]) (zs1_lt h) rfl (fun la' h' => k p e s m args below meth c H locs Q la' F (by rw [List.length_set]; exact hl) (zL.set1 (v := zi (x + n)) (zs1_no h) rfl h') R S E)
theorem zV_iadd {x y : Int} (hd : decode X.cc pc = .ok (.iadd, 1)) (k : zV g X P (pc + 1) ls (zi (x + y) :: st) N M kc ks) : zV g X P pc ls (zi y :: zi x :: st) N M kc ks := by
  intro p e s m args below meth c H locs Q la F hl L R S E
  have k : W p g.1 e X.rm s m args below meth c H locs kc ks Q (F0 m (pc + 1) la (.int (Int32.ofInt (x + y)) :: st.map (zT g))) := k p e s m args below meth c H locs Q la F hl L R S E
  rw [Int32.ofInt_add] at k
  exact lv_iadd F.1 F.2.1 hd k
theorem zV_isub {x y : Int} (hd : decode X.cc pc = .ok (.isub, 1)) (k : zV g X P (pc + 1) ls (zi (x - y) :: st) N M kc ks) : zV g X P pc ls (zi y :: zi x :: st) N M kc ks := by
  intro p e s m args below meth c H locs Q la F hl L R S E
  have k : W p g.1 e X.rm s m args below meth c H locs kc ks Q (F0 m (pc + 1) la (.int (Int32.ofInt (x - y)) :: st.map (zT g))) := k p e s m args below meth c H locs Q la F hl L R S E
  rw [Int32.ofInt_sub] at k
  exact lv_isub F.1 F.2.1 hd k
theorem zV_imul {x y : Int} (hd : decode X.cc pc = .ok (.imul, 1)) (k : zV g X P (pc + 1) ls (zi (x * y) :: st) N M kc ks) : zV g X P pc ls (zi y :: zi x :: st) N M kc ks := by
  intro p e s m args below meth c H locs Q la F hl L R S E
  have k : W p g.1 e X.rm s m args below meth c H locs kc ks Q (F0 m (pc + 1) la (.int (Int32.ofInt (x * y)) :: st.map (zT g))) := k p e s m args below meth c H locs Q la F hl L R S E
  rw [Int32.ofInt_mul] at k
  exact lv_imul F.1 F.2.1 hd k
theorem zV_ladd {x y : Int} (hd : decode X.cc pc = .ok (.ladd, 1)) (k : zV g X P (pc + 1) ls (zl (x + y) :: st) N M kc ks) : zV g X P pc ls (zl y :: zl x :: st) N M kc ks := by
  intro p e s m args below meth c H locs Q la F hl L R S E
  have k : W p g.1 e X.rm s m args below meth c H locs kc ks Q (F0 m (pc + 1) la (.long (Int64.ofInt (x + y)) :: st.map (zT g))) := k p e s m args below meth c H locs Q la F hl L R S E
  rw [Int64.ofInt_add] at k
  exact lv_ladd F.1 F.2.1 hd k
theorem zV_lsub {x y : Int} (hd : decode X.cc pc = .ok (.lsub, 1)) (k : zV g X P (pc + 1) ls (zl (x - y) :: st) N M kc ks) : zV g X P pc ls (zl y :: zl x :: st) N M kc ks := by
  intro p e s m args below meth c H locs Q la F hl L R S E
  have k : W p g.1 e X.rm s m args below meth c H locs kc ks Q (F0 m (pc + 1) la (.long (Int64.ofInt (x - y)) :: st.map (zT g))) := k p e s m args below meth c H locs Q la F hl L R S E
  rw [Int64.ofInt_sub] at k
  exact lv_lsub F.1 F.2.1 hd k
theorem zV_lmul {x y : Int} (hd : decode X.cc pc = .ok (.lmul, 1)) (k : zV g X P (pc + 1) ls (zl (x * y) :: st) N M kc ks) : zV g X P pc ls (zl y :: zl x :: st) N M kc ks := by
  intro p e s m args below meth c H locs Q la F hl L R S E
  have k : W p g.1 e X.rm s m args below meth c H locs kc ks Q (F0 m (pc + 1) la (.long (Int64.ofInt (x * y)) :: st.map (zT g))) := k p e s m args below meth c H locs Q la F hl L R S E
  rw [Int64.ofInt_mul] at k
  exact lv_lmul F.1 F.2.1 hd k
theorem zV_ineg {x : Int} (hd : decode X.cc pc = .ok (.ineg, 1)) (k : zV g X P (pc + 1) ls (zi (-x) :: st) N M kc ks) : zV g X P pc ls (zi x :: st) N M kc ks := by
  intro p e s m args below meth c H locs Q la F hl L R S E
  have k : W p g.1 e X.rm s m args below meth c H locs kc ks Q (F0 m (pc + 1) la (.int (Int32.ofInt (-x)) :: st.map (zT g))) := k p e s m args below meth c H locs Q la F hl L R S E
  rw [Int32.ofInt_neg] at k
  exact lv_ineg F.1 F.2.1 hd k
theorem zV_iand {x y z : Int} (hd : decode X.cc pc = .ok (.iand, 1)) (hz : Int32.ofInt x &&& Int32.ofInt y = Int32.ofInt z) (k : zV g X P (pc + 1) ls (zi z :: st) N M kc ks) : zV g X P pc ls (zi y :: zi x :: st) N M kc ks := by
  intro p e s m args below meth c H locs Q la F hl L R S E
  have k : W p g.1 e X.rm s m args below meth c H locs kc ks Q (F0 m (pc + 1) la (.int (Int32.ofInt z) :: st.map (zT g))) := k p e s m args below meth c H locs Q la F hl L R S E
  rw [← hz] at k
  exact lv_iand F.1 F.2.1 hd k
theorem zV_ior {x y z : Int} (hd : decode X.cc pc = .ok (.ior, 1)) (hz : Int32.ofInt x ||| Int32.ofInt y = Int32.ofInt z) (k : zV g X P (pc + 1) ls (zi z :: st) N M kc ks) : zV g X P pc ls (zi y :: zi x :: st) N M kc ks := by
  intro p e s m args below meth c H locs Q la F hl L R S E
  have k : W p g.1 e X.rm s m args below meth c H locs kc ks Q (F0 m (pc + 1) la (.int (Int32.ofInt z) :: st.map (zT g))) := k p e s m args below meth c H locs Q la F hl L R S E
  rw [← hz] at k
  exact lv_ior F.1 F.2.1 hd k
theorem zV_ixor {x y z : Int} (hd : decode X.cc pc = .ok (.ixor, 1)) (hz : Int32.ofInt x ^^^ Int32.ofInt y = Int32.ofInt z) (k : zV g X P (pc + 1) ls (zi z :: st) N M kc ks) : zV g X P pc ls (zi y :: zi x :: st) N M kc ks := by
  intro p e s m args below meth c H locs Q la F hl L R S E
  have k : W p g.1 e X.rm s m args below meth c H locs kc ks Q (F0 m (pc + 1) la (.int (Int32.ofInt z) :: st.map (zT g))) := k p e s m args below meth c H locs Q la F hl L R S E
  rw [← hz] at k
  exact lv_ixor F.1 F.2.1 hd k
theorem zV_ishl {x y z : Int} (hd : decode X.cc pc = .ok (.ishl, 1)) (hz : Int32.ofInt x <<< (Int32.ofInt y &&& 31) = Int32.ofInt z) (k : zV g X P (pc + 1) ls (zi z :: st) N M kc ks) : zV g X P pc ls (zi y :: zi x :: st) N M kc ks := by
  intro p e s m args below meth c H locs Q la F hl L R S E
  have k : W p g.1 e X.rm s m args below meth c H locs kc ks Q (F0 m (pc + 1) la (.int (Int32.ofInt z) :: st.map (zT g))) := k p e s m args below meth c H locs Q la F hl L R S E
  rw [← hz] at k
  exact lv_ishl F.1 F.2.1 hd k
theorem zV_ishr {x y z : Int} (hd : decode X.cc pc = .ok (.ishr, 1)) (hz : Int32.ofInt x >>> (Int32.ofInt y &&& 31) = Int32.ofInt z) (k : zV g X P (pc + 1) ls (zi z :: st) N M kc ks) : zV g X P pc ls (zi y :: zi x :: st) N M kc ks := by
  intro p e s m args below meth c H locs Q la F hl L R S E
  have k : W p g.1 e X.rm s m args below meth c H locs kc ks Q (F0 m (pc + 1) la (.int (Int32.ofInt z) :: st.map (zT g))) := k p e s m args below meth c H locs Q la F hl L R S E
  rw [← hz] at k
  exact lv_ishr F.1 F.2.1 hd k
theorem zV_iushr {x y z : Int} (hd : decode X.cc pc = .ok (.iushr, 1)) (hz : ((Int32.ofInt x).toUInt32 >>> ((Int32.ofInt y).toUInt32 &&& Int32.toUInt32 31)).toInt32 = Int32.ofInt z) (k : zV g X P (pc + 1) ls (zi z :: st) N M kc ks) : zV g X P pc ls (zi y :: zi x :: st) N M kc ks := by
  intro p e s m args below meth c H locs Q la F hl L R S E
  exact lv_iushr F.1 F.2.1 hd hz (k p e s m args below meth c H locs Q la F hl L R S E)
theorem zV_lor {x y z : Int} (hd : decode X.cc pc = .ok (.lor, 1)) (hz : Int64.ofInt x ||| Int64.ofInt y = Int64.ofInt z) (k : zV g X P (pc + 1) ls (zl z :: st) N M kc ks) : zV g X P pc ls (zl y :: zl x :: st) N M kc ks := by
  intro p e s m args below meth c H locs Q la F hl L R S E
  have k : W p g.1 e X.rm s m args below meth c H locs kc ks Q (F0 m (pc + 1) la (.long (Int64.ofInt z) :: st.map (zT g))) := k p e s m args below meth c H locs Q la F hl L R S E
  rw [← hz] at k
  exact lv_lor F.1 F.2.1 hd k
theorem zV_lshl {x y z : Int} (hd : decode X.cc pc = .ok (.lshl, 1)) (hz : Int64.ofInt x <<< ((Int32.ofInt y).toInt64 &&& 63) = Int64.ofInt z) (k : zV g X P (pc + 1) ls (zl z :: st) N M kc ks) : zV g X P pc ls (zi y :: zl x :: st) N M kc ks := by
  intro p e s m args below meth c H locs Q la F hl L R S E
  exact lv_lshl F.1 F.2.1 hd hz (k p e s m args below meth c H locs Q la F hl L R S E)
theorem zV_i2b {x z : Int} (hd : decode X.cc pc = .ok (.i2b, 1)) (hz : (Int32.ofInt x).toInt8.toInt32 = Int32.ofInt z) (k : zV g X P (pc + 1) ls (zi z :: st) N M kc ks) : zV g X P pc ls (zi x :: st) N M kc ks := by
  intro p e s m args below meth c H locs Q la F hl L R S E
  exact lv_i2b F.1 F.2.1 hd hz (k p e s m args below meth c H locs Q la F hl L R S E)
theorem zV_i2s {x z : Int} (hd : decode X.cc pc = .ok (.i2s, 1)) (hz : (Int32.ofInt x).toInt16.toInt32 = Int32.ofInt z) (k : zV g X P (pc + 1) ls (zi z :: st) N M kc ks) : zV g X P pc ls (zi x :: st) N M kc ks := by
  intro p e s m args below meth c H locs Q la F hl L R S E
  exact lv_i2s F.1 F.2.1 hd hz (k p e s m args below meth c H locs Q la F hl L R S E)
theorem zV_i2c {x z : Int} (hd : decode X.cc pc = .ok (.i2c, 1)) (hz : ((Int32.ofInt x).toUInt32 % 65536).toInt32 = Int32.ofInt z) (k : zV g X P (pc + 1) ls (zi z :: st) N M kc ks) : zV g X P pc ls (zi x :: st) N M kc ks := by
  intro p e s m args below meth c H locs Q la F hl L R S E
  exact lv_i2c F.1 F.2.1 hd hz (k p e s m args below meth c H locs Q la F hl L R S E)
theorem zV_i2l {x : Int} (hd : decode X.cc pc = .ok (.i2l, 1)) (hr : -2147483648 ≤ x ∧ x ≤ 2147483647) (k : zV g X P (pc + 1) ls (zl x :: st) N M kc ks) : zV g X P pc ls (zi x :: st) N M kc ks := by
  intro p e s m args below meth c H locs Q la F hl L R S E
  exact lv_i2l (v := Int64.ofInt x) F.1 F.2.1 hd (by apply Int64.toInt_inj.1; rw [Int32.toInt_toInt64, zw_eq, zW_eq, zw_id hr, zW_id (by omega)]) (k p e s m args below meth c H locs Q la F hl L R S E)
theorem zV_l2i {x : Int} (hd : decode X.cc pc = .ok (.l2i, 1)) (hr : -2147483648 ≤ x ∧ x ≤ 2147483647) (k : zV g X P (pc + 1) ls (zi x :: st) N M kc ks) : zV g X P pc ls (zl x :: st) N M kc ks := by
  intro p e s m args below meth c H locs Q la F hl L R S E
  exact lv_l2i (v := Int32.ofInt x) F.1 F.2.1 hd (by rw [← Int32.ofInt_int64ToInt, zW_eq, zW_id (z := x) (by omega)]) (k p e s m args below meth c H locs Q la F hl L R S E)
theorem zV_pop {v : zv} (hd : decode X.cc pc = .ok (.pop, 1)) (hv : v.1 ≠ 1) (k : zV g X P (pc + 1) ls (st) N M kc ks) : zV g X P pc ls (v :: st) N M kc ks := by
  intro p e s m args below meth c H locs Q la F hl L R S E
  exact lv_pop F.1 F.2.1 hd (zT_cat g v hv) (k p e s m args below meth c H locs Q la F hl L R S E)
theorem zV_dup {v : zv} (hd : decode X.cc pc = .ok (.dup, 1)) (hv : v.1 ≠ 1) (k : zV g X P (pc + 1) ls (v :: v :: st) N M kc ks) : zV g X P pc ls (v :: st) N M kc ks := by
  intro p e s m args below meth c H locs Q la F hl L R S E
  exact lv_dup F.1 F.2.1 hd (zT_cat g v hv) (k p e s m args below meth c H locs Q la F hl L R S E)
theorem zV_goto {off : Int} {tgt : Nat} (hd : decode X.cc pc = .ok (.goto off, 3)) (ht : (pc : Int) + off = (tgt : Int)) (k : zV g X P tgt ls (st) N M kc ks) : zV g X P pc ls (st) N M kc ks := by
  intro p e s m args below meth c H locs Q la F hl L R S E
  exact lv_goto F.1 F.2.1 hd ht (k p e s m args below meth c H locs Q la F hl L R S E)
theorem zw_ne {y : Int} (hy : 0 < y ∧ y ≤ 2147483647) : ¬ Int32.ofInt y = 0 := by
  rw [show (0 : Int32) = Int32.ofInt 0 from rfl, zw_ee, zw_id (by omega), zw_id (by omega)]
  omega
theorem zw_div {x y : Int} (hx : -2147483648 ≤ x ∧ x ≤ 2147483647) (hy : 0 < y ∧ y ≤ 2147483647) : Int32.ofInt x / Int32.ofInt y = Int32.ofInt (x.tdiv y) := by
  apply Int32.toInt_inj.1
  rw [Int32.toInt_div_of_ne_right _ _ (by rw [show (-1 : Int32) = Int32.ofInt (-1) from rfl, Ne, zw_ee, zw_id (by omega), zw_id (by omega)]; omega), zw_eq, zw_eq, zw_eq, zw_id hx, zw_id (by omega), zw_id]
  have h1 : (x.tdiv y).natAbs ≤ x.natAbs := by rw [Int.natAbs_tdiv]; exact Nat.div_le_self _ _
  by_cases h0 : 0 ≤ x
  · have := Int.tdiv_nonneg h0 (by omega : 0 ≤ y)
    omega
  · have h2 := Int.tdiv_nonneg (a := -x) (b := y) (by omega) (by omega)
    rw [Int.neg_tdiv] at h2
    omega
theorem zW_ne {y : Int} (hy : 0 < y ∧ y ≤ 9223372036854775807) : ¬ Int64.ofInt y = 0 := by
  rw [show (0 : Int64) = Int64.ofInt 0 from rfl, ← Int64.toInt_inj, zW_eq, zW_eq, zW_id (by omega), zW_id (by omega)]
  omega
theorem zW_div {x y : Int} (hx : -9223372036854775808 ≤ x ∧ x ≤ 9223372036854775807) (hy : 0 < y ∧ y ≤ 9223372036854775807) : Int64.ofInt x / Int64.ofInt y = Int64.ofInt (x.tdiv y) := by
  apply Int64.toInt_inj.1
  rw [Int64.toInt_div_of_ne_right _ _ (by rw [show (-1 : Int64) = Int64.ofInt (-1) from rfl, Ne, ← Int64.toInt_inj, zW_eq, zW_eq, zW_id (by omega), zW_id (by omega)]; omega), zW_eq, zW_eq, zW_eq, zW_id hx, zW_id (by omega), zW_id]
  have h1 : (x.tdiv y).natAbs ≤ x.natAbs := by rw [Int.natAbs_tdiv]; exact Nat.div_le_self _ _
  by_cases h0 : 0 ≤ x
  · have := Int.tdiv_nonneg h0 (by omega : 0 ≤ y)
    omega
  · have h2 := Int.tdiv_nonneg (a := -x) (b := y) (by omega) (by omega)
    rw [Int.neg_tdiv] at h2
    omega
theorem zV_idiv {x y : Int} (hd : decode X.cc pc = .ok (.idiv, 1)) (hx : -2147483648 ≤ x ∧ x ≤ 2147483647) (hy : 0 < y ∧ y ≤ 2147483647) (k : zV g X P (pc + 1) ls (zi (x.tdiv y) :: st) N M kc ks) : zV g X P pc ls (zi y :: zi x :: st) N M kc ks := by
  intro p e s m args below meth c H locs Q la F hl L R S E
  have k : W p g.1 e X.rm s m args below meth c H locs kc ks Q (F0 m (pc + 1) la (.int (Int32.ofInt (x.tdiv y)) :: st.map (zT g))) := k p e s m args below meth c H locs Q la F hl L R S E
  rw [← zw_div hx hy] at k
  exact lv_idiv F.1 F.2.1 hd (zw_ne hy) k
theorem zV_irem {x y : Int} (hd : decode X.cc pc = .ok (.irem, 1)) (hx : -2147483648 ≤ x ∧ x ≤ 2147483647) (hy : 0 < y ∧ y ≤ 2147483647) (k : zV g X P (pc + 1) ls (zi (x.tmod y) :: st) N M kc ks) : zV g X P pc ls (zi y :: zi x :: st) N M kc ks := by
  intro p e s m args below meth c H locs Q la F hl L R S E
  have k : W p g.1 e X.rm s m args below meth c H locs kc ks Q (F0 m (pc + 1) la (.int (Int32.ofInt (x.tmod y)) :: st.map (zT g))) := k p e s m args below meth c H locs Q la F hl L R S E
  rw [show x.tmod y = x - x.tdiv y * y by rw [Int.tmod_def, Int.mul_comm], Int32.ofInt_sub, Int32.ofInt_mul, ← zw_div hx hy] at k
  exact lv_irem F.1 F.2.1 hd (zw_ne hy) k
theorem zV_idivN {x y : Int} (hd : decode X.cc pc = .ok (.idiv, 1)) (hx : 0 ≤ x ∧ x ≤ 2147483647) (hy : 0 < y ∧ y ≤ 2147483647) (k : zV g X P (pc + 1) ls (zi (x / y) :: st) N M kc ks) : zV g X P pc ls (zi y :: zi x :: st) N M kc ks :=
  zV_idiv hd (by omega) hy (by rw [Int.tdiv_eq_ediv_of_nonneg hx.1]; exact k)
theorem zV_iremN {x y : Int} (hd : decode X.cc pc = .ok (.irem, 1)) (hx : 0 ≤ x ∧ x ≤ 2147483647) (hy : 0 < y ∧ y ≤ 2147483647) (k : zV g X P (pc + 1) ls (zi (x % y) :: st) N M kc ks) : zV g X P pc ls (zi y :: zi x :: st) N M kc ks :=
  zV_irem hd (by omega) hy (by rw [Int.tmod_eq_emod_of_nonneg hx.1]; exact k)
theorem zV_ldiv {x y : Int} (hd : decode X.cc pc = .ok (.ldiv, 1)) (hx : -9223372036854775808 ≤ x ∧ x ≤ 9223372036854775807) (hy : 0 < y ∧ y ≤ 9223372036854775807) (k : zV g X P (pc + 1) ls (zl (x.tdiv y) :: st) N M kc ks) : zV g X P pc ls (zl y :: zl x :: st) N M kc ks := by
  intro p e s m args below meth c H locs Q la F hl L R S E
  have k : W p g.1 e X.rm s m args below meth c H locs kc ks Q (F0 m (pc + 1) la (.long (Int64.ofInt (x.tdiv y)) :: st.map (zT g))) := k p e s m args below meth c H locs Q la F hl L R S E
  rw [← zW_div hx hy] at k
  exact lv_ldiv F.1 F.2.1 hd (zW_ne hy) k
theorem zV_lrem {x y : Int} (hd : decode X.cc pc = .ok (.lrem, 1)) (hx : -9223372036854775808 ≤ x ∧ x ≤ 9223372036854775807) (hy : 0 < y ∧ y ≤ 9223372036854775807) (k : zV g X P (pc + 1) ls (zl (x.tmod y) :: st) N M kc ks) : zV g X P pc ls (zl y :: zl x :: st) N M kc ks := by
  intro p e s m args below meth c H locs Q la F hl L R S E
  have k : W p g.1 e X.rm s m args below meth c H locs kc ks Q (F0 m (pc + 1) la (.long (Int64.ofInt (x.tmod y)) :: st.map (zT g))) := k p e s m args below meth c H locs Q la F hl L R S E
  rw [show x.tmod y = x - x.tdiv y * y by rw [Int.tmod_def, Int.mul_comm], Int64.ofInt_sub, Int64.ofInt_mul, ← zW_div hx hy] at k
  exact lv_lrem F.1 F.2.1 hd (zW_ne hy) k
theorem zV_ldivN {x y : Int} (hd : decode X.cc pc = .ok (.ldiv, 1)) (hx : 0 ≤ x ∧ x ≤ 9223372036854775807) (hy : 0 < y ∧ y ≤ 9223372036854775807) (k : zV g X P (pc + 1) ls (zl (x / y) :: st) N M kc ks) : zV g X P pc ls (zl y :: zl x :: st) N M kc ks :=
  zV_ldiv hd (by omega) hy (by rw [Int.tdiv_eq_ediv_of_nonneg hx.1]; exact k)
theorem zV_lremN {x y : Int} (hd : decode X.cc pc = .ok (.lrem, 1)) (hx : 0 ≤ x ∧ x ≤ 9223372036854775807) (hy : 0 < y ∧ y ≤ 9223372036854775807) (k : zV g X P (pc + 1) ls (zl (x % y) :: st) N M kc ks) : zV g X P pc ls (zl y :: zl x :: st) N M kc ks :=
  zV_lrem hd (by omega) hy (by rw [Int.tmod_eq_emod_of_nonneg hx.1]; exact k)
theorem zV_icmp_eqW {x y off : Int} {tgt : Nat} (hd : decode X.cc pc = .ok (.if_icmp .eq off, 3)) (ht : (pc : Int) + off = (tgt : Int)) (kt : zw x = zw y → zV g X P tgt ls (st) N M kc ks) (kf : ¬ (zw x = zw y) → zV g X P (pc + 3) ls (st) N M kc ks) : zV g X P pc ls (zi y :: zi x :: st) N M kc ks := by
  intro p e s m args below meth c H locs Q la F hl L R S E
  exact lv_icmp_eq F.1 F.2.1 hd ht (fun h => kt (zw_ee.mp h) p e s m args below meth c H locs Q la F hl L R S E) (fun h => kf (fun q => h (zw_ee.mpr q)) p e s m args below meth c H locs Q la F hl L R S E)
theorem zV_icmp_eq {x y off : Int} {tgt : Nat} (hd : decode X.cc pc = .ok (.if_icmp .eq off, 3)) (ht : (pc : Int) + off = (tgt : Int)) (hr : (-2147483648 ≤ x ∧ x ≤ 2147483647) ∧ -2147483648 ≤ y ∧ y ≤ 2147483647) (kt : x = y → zV g X P tgt ls (st) N M kc ks) (kf : ¬ (x = y) → zV g X P (pc + 3) ls (st) N M kc ks) : zV g X P pc ls (zi y :: zi x :: st) N M kc ks :=
  zV_icmp_eqW hd ht (fun h => kt (by rw [zw_id hr.1, zw_id hr.2] at h; exact h)) (fun h => kf (by rw [zw_id hr.1, zw_id hr.2] at h; exact h))
theorem zV_if_eqW {x off : Int} {tgt : Nat} (hd : decode X.cc pc = .ok (.ifCond .eq off, 3)) (ht : (pc : Int) + off = (tgt : Int)) (kt : zw x = zw 0 → zV g X P tgt ls (st) N M kc ks) (kf : ¬ (zw x = zw 0) → zV g X P (pc + 3) ls (st) N M kc ks) : zV g X P pc ls (zi x :: st) N M kc ks := by
  intro p e s m args below meth c H locs Q la F hl L R S E
  exact lv_if_eq (x := Int32.ofInt x) F.1 F.2.1 hd ht (fun h => kt (zw_ee.mp h) p e s m args below meth c H locs Q la F hl L R S E) (fun h => kf (fun q => h (zw_ee.mpr q)) p e s m args below meth c H locs Q la F hl L R S E)
theorem zV_if_eq {x off : Int} {tgt : Nat} (hd : decode X.cc pc = .ok (.ifCond .eq off, 3)) (ht : (pc : Int) + off = (tgt : Int)) (hr : -2147483648 ≤ x ∧ x ≤ 2147483647) (kt : x = 0 → zV g X P tgt ls (st) N M kc ks) (kf : ¬ (x = 0) → zV g X P (pc + 3) ls (st) N M kc ks) : zV g X P pc ls (zi x :: st) N M kc ks :=
  zV_if_eqW hd ht (fun h => kt (by rw [zw_id hr, zw_id (z := 0) (by omega)] at h; exact h)) (fun h => kf (by rw [zw_id hr, zw_id (z := 0) (by omega)] at h; exact h))
theorem zV_icmp_neW {x y off : Int} {tgt : Nat} (hd : decode X.cc pc = .ok (.if_icmp .ne off, 3)) (ht : (pc : Int) + off = (tgt : Int)) (kt : ¬ zw x = zw y → zV g X P tgt ls (st) N M kc ks) (kf : zw x = zw y → zV g X P (pc + 3) ls (st) N M kc ks) : zV g X P pc ls (zi y :: zi x :: st) N M kc ks := by
  intro p e s m args below meth c H locs Q la F hl L R S E
  exact lv_icmp_ne F.1 F.2.1 hd ht (fun h => kt (fun q => h (zw_ee.mpr q)) p e s m args below meth c H locs Q la F hl L R S E) (fun h => kf (zw_ee.mp h) p e s m args below meth c H locs Q la F hl L R S E)
theorem zV_icmp_ne {x y off : Int} {tgt : Nat} (hd : decode X.cc pc = .ok (.if_icmp .ne off, 3)) (ht : (pc : Int) + off = (tgt : Int)) (hr : (-2147483648 ≤ x ∧ x ≤ 2147483647) ∧ -2147483648 ≤ y ∧ y ≤ 2147483647) (kt : ¬ x = y → zV g X P tgt ls (st) N M kc ks) (kf : x = y → zV g X P (pc + 3) ls (st) N M kc ks) : zV g X P pc ls (zi y :: zi x :: st) N M kc ks :=
  zV_icmp_neW hd ht (fun h => kt (by rw [zw_id hr.1, zw_id hr.2] at h; exact h)) (fun h => kf (by rw [zw_id hr.1, zw_id hr.2] at h; exact h))
theorem zV_if_neW {x off : Int} {tgt : Nat} (hd : decode X.cc pc = .ok (.ifCond .ne off, 3)) (ht : (pc : Int) + off = (tgt : Int)) (kt : ¬ zw x = zw 0 → zV g X P tgt ls (st) N M kc ks) (kf : zw x = zw 0 → zV g X P (pc + 3) ls (st) N M kc ks) : zV g X P pc ls (zi x :: st) N M kc ks := by
  intro p e s m args below meth c H locs Q la F hl L R S E
  exact lv_if_ne (x := Int32.ofInt x) F.1 F.2.1 hd ht (fun h => kt (fun q => h (zw_ee.mpr q)) p e s m args below meth c H locs Q la F hl L R S E) (fun h => kf (zw_ee.mp h) p e s m args below meth c H locs Q la F hl L R S E)
theorem zV_if_ne {x off : Int} {tgt : Nat} (hd : decode X.cc pc = .ok (.ifCond .ne off, 3)) (ht : (pc : Int) + off = (tgt : Int)) (hr : -2147483648 ≤ x ∧ x ≤ 2147483647) (kt : ¬ x = 0 → zV g X P tgt ls (st) N M kc ks) (kf : x = 0 → zV g X P (pc + 3) ls (st) N M kc ks) : zV g X P pc ls (zi x :: st) N M kc ks :=
  zV_if_neW hd ht (fun h => kt (by rw [zw_id hr, zw_id (z := 0) (by omega)] at h; exact h)) (fun h => kf (by rw [zw_id hr, zw_id (z := 0) (by omega)] at h; exact h))
theorem zV_icmp_ltW {x y off : Int} {tgt : Nat} (hd : decode X.cc pc = .ok (.if_icmp .lt off, 3)) (ht : (pc : Int) + off = (tgt : Int)) (kt : zw x < zw y → zV g X P tgt ls (st) N M kc ks) (kf : ¬ (zw x < zw y) → zV g X P (pc + 3) ls (st) N M kc ks) : zV g X P pc ls (zi y :: zi x :: st) N M kc ks := by
  intro p e s m args below meth c H locs Q la F hl L R S E
  exact lv_icmp_lt F.1 F.2.1 hd ht (fun h => kt (zw_lt.mp h) p e s m args below meth c H locs Q la F hl L R S E) (fun h => kf (fun q => h (zw_lt.mpr q)) p e s m args below meth c H locs Q la F hl L R S E)
theorem zV_icmp_lt {x y off : Int} {tgt : Nat} (hd : decode X.cc pc = .ok (.if_icmp .lt off, 3)) (ht : (pc : Int) + off = (tgt : Int)) (hr : (-2147483648 ≤ x ∧ x ≤ 2147483647) ∧ -2147483648 ≤ y ∧ y ≤ 2147483647) (kt : x < y → zV g X P tgt ls (st) N M kc ks) (kf : ¬ (x < y) → zV g X P (pc + 3) ls (st) N M kc ks) : zV g X P pc ls (zi y :: zi x :: st) N M kc ks :=
  zV_icmp_ltW hd ht (fun h => kt (by rw [zw_id hr.1, zw_id hr.2] at h; exact h)) (fun h => kf (by rw [zw_id hr.1, zw_id hr.2] at h; exact h))
theorem zV_if_ltW {x off : Int} {tgt : Nat} (hd : decode X.cc pc = .ok (.ifCond .lt off, 3)) (ht : (pc : Int) + off = (tgt : Int)) (kt : zw x < zw 0 → zV g X P tgt ls (st) N M kc ks) (kf : ¬ (zw x < zw 0) → zV g X P (pc + 3) ls (st) N M kc ks) : zV g X P pc ls (zi x :: st) N M kc ks := by
  intro p e s m args below meth c H locs Q la F hl L R S E
  exact lv_if_lt (x := Int32.ofInt x) F.1 F.2.1 hd ht (fun h => kt (zw_lt.mp h) p e s m args below meth c H locs Q la F hl L R S E) (fun h => kf (fun q => h (zw_lt.mpr q)) p e s m args below meth c H locs Q la F hl L R S E)
theorem zV_if_lt {x off : Int} {tgt : Nat} (hd : decode X.cc pc = .ok (.ifCond .lt off, 3)) (ht : (pc : Int) + off = (tgt : Int)) (hr : -2147483648 ≤ x ∧ x ≤ 2147483647) (kt : x < 0 → zV g X P tgt ls (st) N M kc ks) (kf : ¬ (x < 0) → zV g X P (pc + 3) ls (st) N M kc ks) : zV g X P pc ls (zi x :: st) N M kc ks :=
  zV_if_ltW hd ht (fun h => kt (by rw [zw_id hr, zw_id (z := 0) (by omega)] at h; exact h)) (fun h => kf (by rw [zw_id hr, zw_id (z := 0) (by omega)] at h; exact h))
theorem zV_icmp_geW {x y off : Int} {tgt : Nat} (hd : decode X.cc pc = .ok (.if_icmp .ge off, 3)) (ht : (pc : Int) + off = (tgt : Int)) (kt : zw y ≤ zw x → zV g X P tgt ls (st) N M kc ks) (kf : ¬ (zw y ≤ zw x) → zV g X P (pc + 3) ls (st) N M kc ks) : zV g X P pc ls (zi y :: zi x :: st) N M kc ks := by
  intro p e s m args below meth c H locs Q la F hl L R S E
  exact lv_icmp_ge F.1 F.2.1 hd ht (fun h => kt (zw_le.mp h) p e s m args below meth c H locs Q la F hl L R S E) (fun h => kf (fun q => h (zw_le.mpr q)) p e s m args below meth c H locs Q la F hl L R S E)
theorem zV_icmp_ge {x y off : Int} {tgt : Nat} (hd : decode X.cc pc = .ok (.if_icmp .ge off, 3)) (ht : (pc : Int) + off = (tgt : Int)) (hr : (-2147483648 ≤ x ∧ x ≤ 2147483647) ∧ -2147483648 ≤ y ∧ y ≤ 2147483647) (kt : y ≤ x → zV g X P tgt ls (st) N M kc ks) (kf : ¬ (y ≤ x) → zV g X P (pc + 3) ls (st) N M kc ks) : zV g X P pc ls (zi y :: zi x :: st) N M kc ks :=
  zV_icmp_geW hd ht (fun h => kt (by rw [zw_id hr.1, zw_id hr.2] at h; exact h)) (fun h => kf (by rw [zw_id hr.1, zw_id hr.2] at h; exact h))
theorem zV_if_geW {x off : Int} {tgt : Nat} (hd : decode X.cc pc = .ok (.ifCond .ge off, 3)) (ht : (pc : Int) + off = (tgt : Int)) (kt : zw 0 ≤ zw x → zV g X P tgt ls (st) N M kc ks) (kf : ¬ (zw 0 ≤ zw x) → zV g X P (pc + 3) ls (st) N M kc ks) : zV g X P pc ls (zi x :: st) N M kc ks := by
  intro p e s m args below meth c H locs Q la F hl L R S E
  exact lv_if_ge (x := Int32.ofInt x) F.1 F.2.1 hd ht (fun h => kt (zw_le.mp h) p e s m args below meth c H locs Q la F hl L R S E) (fun h => kf (fun q => h (zw_le.mpr q)) p e s m args below meth c H locs Q la F hl L R S E)
theorem zV_if_ge {x off : Int} {tgt : Nat} (hd : decode X.cc pc = .ok (.ifCond .ge off, 3)) (ht : (pc : Int) + off = (tgt : Int)) (hr : -2147483648 ≤ x ∧ x ≤ 2147483647) (kt : 0 ≤ x → zV g X P tgt ls (st) N M kc ks) (kf : ¬ (0 ≤ x) → zV g X P (pc + 3) ls (st) N M kc ks) : zV g X P pc ls (zi x :: st) N M kc ks :=
  zV_if_geW hd ht (fun h => kt (by rw [zw_id hr, zw_id (z := 0) (by omega)] at h; exact h)) (fun h => kf (by rw [zw_id hr, zw_id (z := 0) (by omega)] at h; exact h))
theorem zV_icmp_gtW {x y off : Int} {tgt : Nat} (hd : decode X.cc pc = .ok (.if_icmp .gt off, 3)) (ht : (pc : Int) + off = (tgt : Int)) (kt : zw y < zw x → zV g X P tgt ls (st) N M kc ks) (kf : ¬ (zw y < zw x) → zV g X P (pc + 3) ls (st) N M kc ks) : zV g X P pc ls (zi y :: zi x :: st) N M kc ks := by
  intro p e s m args below meth c H locs Q la F hl L R S E
  exact lv_icmp_gt F.1 F.2.1 hd ht (fun h => kt (zw_lt.mp h) p e s m args below meth c H locs Q la F hl L R S E) (fun h => kf (fun q => h (zw_lt.mpr q)) p e s m args below meth c H locs Q la F hl L R S E)
theorem zV_icmp_gt {x y off : Int} {tgt : Nat} (hd : decode X.cc pc = .ok (.if_icmp .gt off, 3)) (ht : (pc : Int) + off = (tgt : Int)) (hr : (-2147483648 ≤ x ∧ x ≤ 2147483647) ∧ -2147483648 ≤ y ∧ y ≤ 2147483647) (kt : y < x → zV g X P tgt ls (st) N M kc ks) (kf : ¬ (y < x) → zV g X P (pc + 3) ls (st) N M kc ks) : zV g X P pc ls (zi y :: zi x :: st) N M kc ks :=
  zV_icmp_gtW hd ht (fun h => kt (by rw [zw_id hr.1, zw_id hr.2] at h; exact h)) (fun h => kf (by rw [zw_id hr.1, zw_id hr.2] at h; exact h))
theorem zV_if_gtW {x off : Int} {tgt : Nat} (hd : decode X.cc pc = .ok (.ifCond .gt off, 3)) (ht : (pc : Int) + off = (tgt : Int)) (kt : zw 0 < zw x → zV g X P tgt ls (st) N M kc ks) (kf : ¬ (zw 0 < zw x) → zV g X P (pc + 3) ls (st) N M kc ks) : zV g X P pc ls (zi x :: st) N M kc ks := by
  intro p e s m args below meth c H locs Q la F hl L R S E
  exact lv_if_gt (x := Int32.ofInt x) F.1 F.2.1 hd ht (fun h => kt (zw_lt.mp h) p e s m args below meth c H locs Q la F hl L R S E) (fun h => kf (fun q => h (zw_lt.mpr q)) p e s m args below meth c H locs Q la F hl L R S E)
theorem zV_if_gt {x off : Int} {tgt : Nat} (hd : decode X.cc pc = .ok (.ifCond .gt off, 3)) (ht : (pc : Int) + off = (tgt : Int)) (hr : -2147483648 ≤ x ∧ x ≤ 2147483647) (kt : 0 < x → zV g X P tgt ls (st) N M kc ks) (kf : ¬ (0 < x) → zV g X P (pc + 3) ls (st) N M kc ks) : zV g X P pc ls (zi x :: st) N M kc ks :=
  zV_if_gtW hd ht (fun h => kt (by rw [zw_id hr, zw_id (z := 0) (by omega)] at h; exact h)) (fun h => kf (by rw [zw_id hr, zw_id (z := 0) (by omega)] at h; exact h))
theorem zV_icmp_leW {x y off : Int} {tgt : Nat} (hd : decode X.cc pc = .ok (.if_icmp .le off, 3)) (ht : (pc : Int) + off = (tgt : Int)) (kt : zw x ≤ zw y → zV g X P tgt ls (st) N M kc ks) (kf : ¬ (zw x ≤ zw y) → zV g X P (pc + 3) ls (st) N M kc ks) : zV g X P pc ls (zi y :: zi x :: st) N M kc ks := by
  intro p e s m args below meth c H locs Q la F hl L R S E
  exact lv_icmp_le F.1 F.2.1 hd ht (fun h => kt (zw_le.mp h) p e s m args below meth c H locs Q la F hl L R S E) (fun h => kf (fun q => h (zw_le.mpr q)) p e s m args below meth c H locs Q la F hl L R S E)
theorem zV_icmp_le {x y off : Int} {tgt : Nat} (hd : decode X.cc pc = .ok (.if_icmp .le off, 3)) (ht : (pc : Int) + off = (tgt : Int)) (hr : (-2147483648 ≤ x ∧ x ≤ 2147483647) ∧ -2147483648 ≤ y ∧ y ≤ 2147483647) (kt : x ≤ y → zV g X P tgt ls (st) N M kc ks) (kf : ¬ (x ≤ y) → zV g X P (pc + 3) ls (st) N M kc ks) : zV g X P pc ls (zi y :: zi x :: st) N M kc ks :=
  zV_icmp_leW hd ht (fun h => kt (by rw [zw_id hr.1, zw_id hr.2] at h; exact h)) (fun h => kf (by rw [zw_id hr.1, zw_id hr.2] at h; exact h))
theorem zV_if_leW {x off : Int} {tgt : Nat} (hd : decode X.cc pc = .ok (.ifCond .le off, 3)) (ht : (pc : Int) + off = (tgt : Int)) (kt : zw x ≤ zw 0 → zV g X P tgt ls (st) N M kc ks) (kf : ¬ (zw x ≤ zw 0) → zV g X P (pc + 3) ls (st) N M kc ks) : zV g X P pc ls (zi x :: st) N M kc ks := by
  intro p e s m args below meth c H locs Q la F hl L R S E
  exact lv_if_le (x := Int32.ofInt x) F.1 F.2.1 hd ht (fun h => kt (zw_le.mp h) p e s m args below meth c H locs Q la F hl L R S E) (fun h => kf (fun q => h (zw_le.mpr q)) p e s m args below meth c H locs Q la F hl L R S E)
theorem zV_if_le {x off : Int} {tgt : Nat} (hd : decode X.cc pc = .ok (.ifCond .le off, 3)) (ht : (pc : Int) + off = (tgt : Int)) (hr : -2147483648 ≤ x ∧ x ≤ 2147483647) (kt : x ≤ 0 → zV g X P tgt ls (st) N M kc ks) (kf : ¬ (x ≤ 0) → zV g X P (pc + 3) ls (st) N M kc ks) : zV g X P pc ls (zi x :: st) N M kc ks :=
  zV_if_leW hd ht (fun h => kt (by rw [zw_id hr, zw_id (z := 0) (by omega)] at h; exact h)) (fun h => kf (by rw [zw_id hr, zw_id (z := 0) (by omega)] at h; exact h))
/-- 1 or 0, as a statement holds or not -/
noncomputable def zb (q : Prop) : Int := @ite Int q (Classical.propDecidable q) 1 0
theorem zb_t {q : Prop} (h : q) : zb q = 1 := by
  unfold zb
  exact if_pos h
theorem zb_f {q : Prop} (h : ¬ q) : zb q = 0 := by
  unfold zb
  exact if_neg h
theorem zb_01 (q : Prop) : zb q = 0 ∨ zb q = 1 := by
  by_cases h : q
  · exact Or.inr (zb_t h)
  · exact Or.inl (zb_f h)
theorem zb_c {q r : Prop} (h : q ↔ r) : zb q = zb r := by rw [propext h]
theorem zb_r (q : Prop) : 0 ≤ zb q ∧ zb q ≤ 1 := by
  rcases zb_01 q with h | h <;> omega
theorem zb_1 {q : Prop} : zb q = 1 ↔ q := by
  by_cases h : q
  · rw [zb_t h]; exact ⟨fun _ => h, fun _ => rfl⟩
  · rw [zb_f h]; exact ⟨fun e => by omega, fun e => absurd e h⟩
theorem zb_0 {q : Prop} : zb q = 0 ↔ ¬ q := by
  by_cases h : q
  · rw [zb_t h]; exact ⟨fun e => by omega, fun e => absurd h e⟩
  · rw [zb_f h]; exact ⟨fun _ => h, fun _ => rfl⟩
theorem zV_if_eqb {q : Prop} {off : Int} {tgt : Nat} (hd : decode X.cc pc = .ok (.ifCond .eq off, 3)) (ht : (pc : Int) + off = (tgt : Int)) (kt : ¬ q → zV g X P tgt ls (st) N M kc ks) (kf : q → zV g X P (pc + 3) ls (st) N M kc ks) : zV g X P pc ls (zi (zb q) :: st) N M kc ks :=
  zV_if_eq hd ht (by have := zb_r q; omega) (fun h => kt (zb_0.mp h)) (fun h => kf (Classical.byContradiction (fun n => h (zb_0.mpr n))))
theorem zV_if_neb {q : Prop} {off : Int} {tgt : Nat} (hd : decode X.cc pc = .ok (.ifCond .ne off, 3)) (ht : (pc : Int) + off = (tgt : Int)) (kt : q → zV g X P tgt ls (st) N M kc ks) (kf : ¬ q → zV g X P (pc + 3) ls (st) N M kc ks) : zV g X P pc ls (zi (zb q) :: st) N M kc ks :=
  zV_if_ne hd ht (by have := zb_r q; omega) (fun h => kt (Classical.byContradiction (fun n => h (zb_0.mpr n)))) (fun h => kf (zb_0.mp h))
def zcmp (x y : Int) : Int := if y < x then 1 else if x = y then 0 else -1
theorem zV_lcmp {x y : Int} (hd : decode X.cc pc = .ok (.lcmp, 1)) (hr : (-9223372036854775808 ≤ x ∧ x ≤ 9223372036854775807) ∧ -9223372036854775808 ≤ y ∧ y ≤ 9223372036854775807) (k : zV g X P (pc + 1) ls (zi (zcmp x y) :: st) N M kc ks) : zV g X P pc ls (zl y :: zl x :: st) N M kc ks := by
  intro p e s m args below meth c H locs Q la F hl L R S E
  have k : W p g.1 e X.rm s m args below meth c H locs kc ks Q (F0 m (pc + 1) la (.int (Int32.ofInt (zcmp x y)) :: st.map (zT g))) := k p e s m args below meth c H locs Q la F hl L R S E
  have h1 : (Int64.ofInt y < Int64.ofInt x) = (y < x) := by rw [Int64.lt_iff_toInt_lt, zW_eq, zW_eq, zW_id hr.1, zW_id hr.2]
  have h2 : (Int64.ofInt x = Int64.ofInt y) = (x = y) := by rw [← Int64.toInt_inj, zW_eq, zW_eq, zW_id hr.1, zW_id hr.2]
  have e9 : Int32.ofInt (zcmp x y) = lg_cmp (Int64.ofInt x) (Int64.ofInt y) := by
    unfold zcmp lg_cmp
    by_cases c1 : y < x
    · rw [if_pos c1, if_pos (show Int64.ofInt x > Int64.ofInt y from h1.mpr c1)]
      rfl
    · rw [if_neg c1, if_neg (show ¬ (Int64.ofInt x > Int64.ofInt y) from fun q => c1 (h1.mp q))]
      by_cases c2 : x = y
      · rw [if_pos c2, if_pos (h2.mpr c2)]
        rfl
      · rw [if_neg c2, if_neg (fun q => c2 (h2.mp q))]
        rfl
  rw [e9] at k
  exact W.lcmp F.1 F.2.1 hd k
theorem zcmp_r (x y : Int) : -1 ≤ zcmp x y ∧ zcmp x y ≤ 1 := by
  unfold zcmp
  split
  · omega
  · split <;> omega
theorem zcmp_lt {x y : Int} : zcmp x y < 0 ↔ x < y := by
  unfold zcmp
  split
  · omega
  · split <;> omega
theorem zcmp_gt {x y : Int} : 0 < zcmp x y ↔ y < x := by
  unfold zcmp
  split
  · omega
  · split <;> omega
theorem zcmp_eq {x y : Int} : zcmp x y = 0 ↔ x = y := by
  unfold zcmp
  split
  · omega
  · split <;> omega
theorem zcmp_le {x y : Int} : zcmp x y ≤ 0 ↔ x ≤ y := by
  unfold zcmp
  split
  · omega
  · split <;> omega
theorem zcmp_ge {x y : Int} : 0 ≤ zcmp x y ↔ y ≤ x := by
  unfold zcmp
  split
  · omega
  · split <;> omega
theorem zV_if_eqc {x y off : Int} {tgt : Nat} (hd : decode X.cc pc = .ok (.ifCond .eq off, 3)) (ht : (pc : Int) + off = (tgt : Int)) (kt : x = y → zV g X P tgt ls (st) N M kc ks) (kf : ¬ (x = y) → zV g X P (pc + 3) ls (st) N M kc ks) : zV g X P pc ls (zi (zcmp x y) :: st) N M kc ks :=
  zV_if_eq hd ht (by have := zcmp_r x y; omega) (fun h => kt (zcmp_eq.mp h)) (fun h => kf (fun q => h (zcmp_eq.mpr q)))
theorem zV_if_nec {x y off : Int} {tgt : Nat} (hd : decode X.cc pc = .ok (.ifCond .ne off, 3)) (ht : (pc : Int) + off = (tgt : Int)) (kt : ¬ x = y → zV g X P tgt ls (st) N M kc ks) (kf : x = y → zV g X P (pc + 3) ls (st) N M kc ks) : zV g X P pc ls (zi (zcmp x y) :: st) N M kc ks :=
  zV_if_ne hd ht (by have := zcmp_r x y; omega) (fun h => kt (fun q => h (zcmp_eq.mpr q))) (fun h => kf (zcmp_eq.mp h))
theorem zV_if_ltc {x y off : Int} {tgt : Nat} (hd : decode X.cc pc = .ok (.ifCond .lt off, 3)) (ht : (pc : Int) + off = (tgt : Int)) (kt : x < y → zV g X P tgt ls (st) N M kc ks) (kf : ¬ (x < y) → zV g X P (pc + 3) ls (st) N M kc ks) : zV g X P pc ls (zi (zcmp x y) :: st) N M kc ks :=
  zV_if_lt hd ht (by have := zcmp_r x y; omega) (fun h => kt (zcmp_lt.mp h)) (fun h => kf (fun q => h (zcmp_lt.mpr q)))
theorem zV_if_gec {x y off : Int} {tgt : Nat} (hd : decode X.cc pc = .ok (.ifCond .ge off, 3)) (ht : (pc : Int) + off = (tgt : Int)) (kt : y ≤ x → zV g X P tgt ls (st) N M kc ks) (kf : ¬ (y ≤ x) → zV g X P (pc + 3) ls (st) N M kc ks) : zV g X P pc ls (zi (zcmp x y) :: st) N M kc ks :=
  zV_if_ge hd ht (by have := zcmp_r x y; omega) (fun h => kt (zcmp_ge.mp h)) (fun h => kf (fun q => h (zcmp_ge.mpr q)))
theorem zV_if_gtc {x y off : Int} {tgt : Nat} (hd : decode X.cc pc = .ok (.ifCond .gt off, 3)) (ht : (pc : Int) + off = (tgt : Int)) (kt : y < x → zV g X P tgt ls (st) N M kc ks) (kf : ¬ (y < x) → zV g X P (pc + 3) ls (st) N M kc ks) : zV g X P pc ls (zi (zcmp x y) :: st) N M kc ks :=
  zV_if_gt hd ht (by have := zcmp_r x y; omega) (fun h => kt (zcmp_gt.mp h)) (fun h => kf (fun q => h (zcmp_gt.mpr q)))
theorem zV_if_lec {x y off : Int} {tgt : Nat} (hd : decode X.cc pc = .ok (.ifCond .le off, 3)) (ht : (pc : Int) + off = (tgt : Int)) (kt : x ≤ y → zV g X P tgt ls (st) N M kc ks) (kf : ¬ (x ≤ y) → zV g X P (pc + 3) ls (st) N M kc ks) : zV g X P pc ls (zi (zcmp x y) :: st) N M kc ks :=
  zV_if_le hd ht (by have := zcmp_r x y; omega) (fun h => kt (zcmp_le.mp h)) (fun h => kf (fun q => h (zcmp_le.mpr q)))
theorem zV_tin {dflt lo hi : Int} {offs : Array Int} {len : Nat} {x off : Int} {tgt : Nat} (j : Nat) (hd : decode X.cc pc = .ok (.tableswitch dflt lo hi offs, len)) (hx : x = lo + j) (hr : -2147483648 ≤ lo ∧ hi ≤ 2147483647) (hj : lo + j ≤ hi) (ho : offs[j]? = some off) (ht : (pc : Int) + off = (tgt : Int)) (k : zV g X P tgt ls (st) N M kc ks) : zV g X P pc ls (zi x :: st) N M kc ks := by
  intro p e s m args below meth c H locs Q la F hl L R S E
  have e0 : (Int32.ofInt x).toInt = x := by rw [zw_eq, zw_id (by omega)]
  exact lv_tableIn F.1 F.2.1 hd (by rw [e0]; omega) (by rw [e0]; omega) (by rw [e0, hx, show (lo + (j : Int) - lo).toNat = j by omega]; exact ho) ht (k p e s m args below meth c H locs Q la F hl L R S E)
theorem zV_tout {dflt lo hi : Int} {offs : Array Int} {len : Nat} {x : Int} {tgt : Nat} (hd : decode X.cc pc = .ok (.tableswitch dflt lo hi offs, len)) (hr : -2147483648 ≤ x ∧ x ≤ 2147483647) (hx : x < lo ∨ hi < x) (ht : (pc : Int) + dflt = (tgt : Int)) (k : zV g X P tgt ls (st) N M kc ks) : zV g X P pc ls (zi x :: st) N M kc ks := by
  intro p e s m args below meth c H locs Q la F hl L R S E
  have e0 : (Int32.ofInt x).toInt = x := by rw [zw_eq, zw_id hr]
  exact lv_tableOut F.1 F.2.1 hd (by rw [e0]; exact hx) ht (k p e s m args below meth c H locs Q la F hl L R S E)
theorem zV_lsw {dflt : Int} {ps : Array (Int × Int)} {len : Nat} {x off : Int} {tgt : Nat} (hd : decode X.cc pc = .ok (.lookupswitch dflt ps, len)) (hr : -2147483648 ≤ x ∧ x ≤ 2147483647) (hp : (ps.toList.zip (ps.toList.drop 1)).all (fun (a, next) => a.1 < next.1) = true) (ho : Op.lookupswitch.offset ps.toList dflt x = off) (ht : (pc : Int) + off = (tgt : Int)) (k : zV g X P tgt ls (st) N M kc ks) : zV g X P pc ls (zi x :: st) N M kc ks := by
  intro p e s m args below meth c H locs Q la F hl L R S E
  have e0 : (Int32.ofInt x).toInt = x := by rw [zw_eq, zw_id hr]
  exact lv_lookup F.1 F.2.1 hd hp (by rw [e0]; exact ho) ht (k p e s m args below meth c H locs Q la F hl L R S E)
end
