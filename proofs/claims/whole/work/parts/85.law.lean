/-! THE LAW: its rows for the script (by hand) -/
/-- the script's ints -/
def zsc (g : zG) (i : Int) : Int := zw ((g.2.2.2.2 (1000 + i.toNat) : Nat) : Int)
theorem zsc_in {g : zG} {i : Int} : -2147483648 ≤ zsc g i ∧ zsc g i ≤ 2147483647 := zw_in _
def xL_law : zX := (RL, cL_law, 4, room_1, some .boolean, false)
section
variable {g : zG} {X : zX} {P : zP} {pc : Nat} {ls st : List zv} {N : Nat} {M : zM} {kc ks : Nat}
theorem zT_scr (g : zG) : zT g (zr 1000300) = .ref (g.2.2.2.2 300) := zT_x g 300
theorem zV_slen (hd : decode X.cc pc = .ok (.arraylength, 1)) (k : zV g X P (pc + 1) ls (zi ((g.2.2.2.2 301 : Nat) : Int) :: st) N M kc ks) : zV g X P pc ls (zr 1000300 :: st) N M kc ks := by
  intro p e s m args below meth c H locs Q la F hlen L R S E
  have k : W p g.1 e X.rm s m args below meth c H locs kc ks Q (F0 m (pc + 1) la (.int (Int32.ofInt ((g.2.2.2.2 301 : Nat) : Int)) :: st.map (zT g))) := k p e s m args below meth c H locs Q la F hlen L R S E
  obtain ⟨z, -, hX, hb⟩ := F.2.2.2.2.2.1.2.2.2
  have hbl : g.2.2.2.2 300 < s.heap.size := (Array.getElem?_eq_some_iff.mp hX.choose_spec.1).1
  show W p g.1 e X.rm s m args below meth c H locs kc ks Q (F0 m pc la (zT g (zr 1000300) :: st.map (zT g)))
  rw [zT_scr]
  rw [show Int32.ofInt ((g.2.2.2.2 301 : Nat) : Int) = Int32.ofNat (g.2.2.2.2 301) from Int32.ofInt_eq_ofNat] at k
  exact va_slen F.1 F.2.1 hX hbl (Nat.not_le.mpr hb) S hd k
theorem zV_sld {i : Int} (hd : decode X.cc pc = .ok (.iaload, 1)) (hi : 0 ≤ i ∧ i < ((g.2.2.2.2 301 : Nat) : Int)) (hL : g.2.2.2.2 301 ≤ 3072) (k : zV g X P (pc + 1) ls (zi (zsc g i) :: st) N M kc ks) : zV g X P pc ls (zi i :: zr 1000300 :: st) N M kc ks := by
  intro p e s m args below meth c H locs Q la F hlen L R S E
  have k : W p g.1 e X.rm s m args below meth c H locs kc ks Q (F0 m (pc + 1) la (.int (Int32.ofInt (zsc g i)) :: st.map (zT g))) := k p e s m args below meth c H locs Q la F hlen L R S E
  obtain ⟨z, -, hX, hb⟩ := F.2.2.2.2.2.1.2.2.2
  have hbl : g.2.2.2.2 300 < s.heap.size := (Array.getElem?_eq_some_iff.mp hX.choose_spec.1).1
  have ei : (Int32.ofInt i).toNatClampNeg = i.toNat := by
    show (Int32.ofInt i).toInt.toNat = _
    rw [zw_eq, zw_id (by omega)]
  have hin : vp_in (Int32.ofInt i) (g.2.2.2.2 301) := by
    unfold vp_in
    rw [ei]
    rintro (q | q)
    · rw [show (0 : Int32) = Int32.ofInt 0 from rfl, zw_lt, zw_id (by omega), zw_id (by omega)] at q
      omega
    · omega
  show W p g.1 e X.rm s m args below meth c H locs kc ks Q (F0 m pc la (.int (Int32.ofInt i) :: zT g (zr 1000300) :: st.map (zT g)))
  rw [zT_scr]
  refine va_sld F.1 F.2.1 hX hbl (Nat.not_le.mpr hb) S hin hd ?_
  have e2 : Int32.ofInt (zsc g i) = Int32.ofInt ((g.2.2.2.2 (1000 + (Int32.ofInt i).toNatClampNeg) : Nat) : Int) := by
    rw [ei]
    exact zw_ofw _
  rw [e2] at k
  exact k
/-- two longs that are one -/
theorem zV_lcmpS {x : Int} (hd : decode X.cc pc = .ok (.lcmp, 1)) (k : zV g X P (pc + 1) ls (zi 0 :: st) N M kc ks) : zV g X P pc ls (zl x :: zl x :: st) N M kc ks := by
  intro p e s m args below meth c H locs Q la F hl L R S E
  have k : W p g.1 e X.rm s m args below meth c H locs kc ks Q (F0 m (pc + 1) la (.int (Int32.ofInt 0) :: st.map (zT g))) := k p e s m args below meth c H locs Q la F hl L R S E
  have e9 : Int32.ofInt 0 = lg_cmp (Int64.ofInt x) (Int64.ofInt x) := by
    unfold lg_cmp
    rw [if_neg (fun q => Int.lt_irrefl _ (Int64.lt_iff_toInt_lt.mp q)), if_pos rfl]
    rfl
  rw [e9] at k
  exact W.lcmp F.1 F.2.1 hd k
/-- an argument out of the script -/
theorem zV_arg {i : Int} {n : Int} (hL : g.2.2.2.2 301 ≤ 3072) (hi : 0 ≤ i ∧ i + 6 ≤ ((g.2.2.2.2 301 : Nat) : Int)) (hn : 0 ≤ n ∧ n ≤ 5) (h1 : decode cL_law pc = .ok (.aload_n 0, 1)) (h2 : decode cL_law (pc + 1) = .ok (.iload_n 3, 1)) (h3 : decode cL_law (pc + 2) = .ok (.iconst n, 1)) (h4 : decode cL_law (pc + 3) = .ok (.iadd, 1)) (h5 : decode cL_law (pc + 4) = .ok (.iaload, 1))
    (k : zV g xL_law P (pc + 5) [zr 1000300, zr 0, zr 58, zi i] (zi (zsc g (i + n)) :: st) N M kc ks) : zV g xL_law P pc [zr 1000300, zr 0, zr 58, zi i] st N M kc ks := by
  refine zV_aload_n (i := 0) h1 rfl rfl ?_
  refine zV_iload_n (i := 3) h2 rfl rfl ?_
  refine zV_iconst h3 ?_
  refine zV_iadd h4 ?_
  exact zV_sld h5 (by omega) hL k
end
