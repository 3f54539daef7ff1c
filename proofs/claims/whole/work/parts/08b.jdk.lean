/-! of the JDK: Math.max, Math.min, Integer.bitCount (printed by wip/whole/p07b.py) -/
def RJ6 : String := "java/lang/Integer"
abbrev cJ6_bitCount_0f7a4 : ByteArray := prog_14_method_49_code
def yJ6_bitCount_0f7a4 : MethodName := ⟨RJ6, "bitCount", "(I)I"⟩
theorem dJ6_bitCount_0f7a4_0 : decode cJ6_bitCount_0f7a4 0 = .ok (.iload_n 0, 1) := by decide +kernel
theorem dJ6_bitCount_0f7a4_1 : decode cJ6_bitCount_0f7a4 1 = .ok (.iload_n 0, 1) := by decide +kernel
theorem dJ6_bitCount_0f7a4_2 : decode cJ6_bitCount_0f7a4 2 = .ok (.iconst 1, 1) := by decide +kernel
theorem dJ6_bitCount_0f7a4_3 : decode cJ6_bitCount_0f7a4 3 = .ok (.iushr, 1) := by decide +kernel
theorem dJ6_bitCount_0f7a4_4 : decode cJ6_bitCount_0f7a4 4 = .ok (.ldc_w 265, 3) := by decide +kernel
theorem dJ6_bitCount_0f7a4_7 : decode cJ6_bitCount_0f7a4 7 = .ok (.iand, 1) := by decide +kernel
theorem dJ6_bitCount_0f7a4_8 : decode cJ6_bitCount_0f7a4 8 = .ok (.isub, 1) := by decide +kernel
theorem dJ6_bitCount_0f7a4_9 : decode cJ6_bitCount_0f7a4 9 = .ok (.istore_n 0, 1) := by decide +kernel
theorem dJ6_bitCount_0f7a4_10 : decode cJ6_bitCount_0f7a4 10 = .ok (.iload_n 0, 1) := by decide +kernel
theorem dJ6_bitCount_0f7a4_11 : decode cJ6_bitCount_0f7a4 11 = .ok (.ldc_w 266, 3) := by decide +kernel
theorem dJ6_bitCount_0f7a4_14 : decode cJ6_bitCount_0f7a4 14 = .ok (.iand, 1) := by decide +kernel
theorem dJ6_bitCount_0f7a4_15 : decode cJ6_bitCount_0f7a4 15 = .ok (.iload_n 0, 1) := by decide +kernel
theorem dJ6_bitCount_0f7a4_16 : decode cJ6_bitCount_0f7a4 16 = .ok (.iconst 2, 1) := by decide +kernel
theorem dJ6_bitCount_0f7a4_17 : decode cJ6_bitCount_0f7a4 17 = .ok (.iushr, 1) := by decide +kernel
theorem dJ6_bitCount_0f7a4_18 : decode cJ6_bitCount_0f7a4 18 = .ok (.ldc_w 266, 3) := by decide +kernel
theorem dJ6_bitCount_0f7a4_21 : decode cJ6_bitCount_0f7a4 21 = .ok (.iand, 1) := by decide +kernel
theorem dJ6_bitCount_0f7a4_22 : decode cJ6_bitCount_0f7a4 22 = .ok (.iadd, 1) := by decide +kernel
theorem dJ6_bitCount_0f7a4_23 : decode cJ6_bitCount_0f7a4 23 = .ok (.istore_n 0, 1) := by decide +kernel
theorem dJ6_bitCount_0f7a4_24 : decode cJ6_bitCount_0f7a4 24 = .ok (.iload_n 0, 1) := by decide +kernel
theorem dJ6_bitCount_0f7a4_25 : decode cJ6_bitCount_0f7a4 25 = .ok (.iload_n 0, 1) := by decide +kernel
theorem dJ6_bitCount_0f7a4_26 : decode cJ6_bitCount_0f7a4 26 = .ok (.iconst 4, 1) := by decide +kernel
theorem dJ6_bitCount_0f7a4_27 : decode cJ6_bitCount_0f7a4 27 = .ok (.iushr, 1) := by decide +kernel
theorem dJ6_bitCount_0f7a4_28 : decode cJ6_bitCount_0f7a4 28 = .ok (.iadd, 1) := by decide +kernel
theorem dJ6_bitCount_0f7a4_29 : decode cJ6_bitCount_0f7a4 29 = .ok (.ldc_w 267, 3) := by decide +kernel
theorem dJ6_bitCount_0f7a4_32 : decode cJ6_bitCount_0f7a4 32 = .ok (.iand, 1) := by decide +kernel
theorem dJ6_bitCount_0f7a4_33 : decode cJ6_bitCount_0f7a4 33 = .ok (.istore_n 0, 1) := by decide +kernel
theorem dJ6_bitCount_0f7a4_34 : decode cJ6_bitCount_0f7a4 34 = .ok (.iload_n 0, 1) := by decide +kernel
theorem dJ6_bitCount_0f7a4_35 : decode cJ6_bitCount_0f7a4 35 = .ok (.iload_n 0, 1) := by decide +kernel
theorem dJ6_bitCount_0f7a4_36 : decode cJ6_bitCount_0f7a4 36 = .ok (.bipush 8, 2) := by decide +kernel
theorem dJ6_bitCount_0f7a4_38 : decode cJ6_bitCount_0f7a4 38 = .ok (.iushr, 1) := by decide +kernel
theorem dJ6_bitCount_0f7a4_39 : decode cJ6_bitCount_0f7a4 39 = .ok (.iadd, 1) := by decide +kernel
theorem dJ6_bitCount_0f7a4_40 : decode cJ6_bitCount_0f7a4 40 = .ok (.istore_n 0, 1) := by decide +kernel
theorem dJ6_bitCount_0f7a4_41 : decode cJ6_bitCount_0f7a4 41 = .ok (.iload_n 0, 1) := by decide +kernel
theorem dJ6_bitCount_0f7a4_42 : decode cJ6_bitCount_0f7a4 42 = .ok (.iload_n 0, 1) := by decide +kernel
theorem dJ6_bitCount_0f7a4_43 : decode cJ6_bitCount_0f7a4 43 = .ok (.bipush 16, 2) := by decide +kernel
theorem dJ6_bitCount_0f7a4_45 : decode cJ6_bitCount_0f7a4 45 = .ok (.iushr, 1) := by decide +kernel
theorem dJ6_bitCount_0f7a4_46 : decode cJ6_bitCount_0f7a4 46 = .ok (.iadd, 1) := by decide +kernel
theorem dJ6_bitCount_0f7a4_47 : decode cJ6_bitCount_0f7a4 47 = .ok (.istore_n 0, 1) := by decide +kernel
theorem dJ6_bitCount_0f7a4_48 : decode cJ6_bitCount_0f7a4 48 = .ok (.iload_n 0, 1) := by decide +kernel
theorem dJ6_bitCount_0f7a4_49 : decode cJ6_bitCount_0f7a4 49 = .ok (.bipush 63, 2) := by decide +kernel
theorem dJ6_bitCount_0f7a4_51 : decode cJ6_bitCount_0f7a4 51 = .ok (.iand, 1) := by decide +kernel
theorem dJ6_bitCount_0f7a4_52 : decode cJ6_bitCount_0f7a4 52 = .ok (.ireturn, 1) := by decide +kernel
theorem mxc : Cond.code Lib.Math.max.name Lib.Math.max.code 2 (some .int) ∈ zTb := (zin (List.mem_of_getElem? (i := 429) (by decide +kernel)) rfl)
theorem mnc : Cond.code Lib.Math.min.name Lib.Math.min.code 2 (some .int) ∈ zTb := (zin (List.mem_of_getElem? (i := 432) (by decide +kernel)) rfl)
theorem mxs : Cond.static Lib.Math.max.name ∈ zTb := (zin (List.mem_of_getElem? (i := 428) (by decide +kernel)) rfl)
theorem mns : Cond.static Lib.Math.min.name ∈ zTb := (zin (List.mem_of_getElem? (i := 431) (by decide +kernel)) rfl)
theorem mai : Cond.initialized "java/lang/Math" ∈ zTb := (zin (List.mem_of_getElem? (i := 123) (by decide +kernel)) rfl)
theorem ncJ6 : Cond.initialized RJ6 ∈ zTb := (zin (List.mem_of_getElem? (i := 128) (by decide +kernel)) rfl)
theorem kiJ6_265 : Cond.constant RJ6 265 (Int32.ofInt 1431655765) ∈ zTb := (zin (List.mem_of_getElem? (i := 692) (by decide +kernel)) rfl)
theorem kiJ6_266 : Cond.constant RJ6 266 (Int32.ofInt 858993459) ∈ zTb := (zin (List.mem_of_getElem? (i := 693) (by decide +kernel)) rfl)
theorem kiJ6_267 : Cond.constant RJ6 267 (Int32.ofInt 252645135) ∈ zTb := (zin (List.mem_of_getElem? (i := 694) (by decide +kernel)) rfl)
theorem kiX9_273 : Cond.constant RX9 273 (Int32.ofInt 1103515245) ∈ zTb := (zin (List.mem_of_getElem? (i := 977) (by decide +kernel)) rfl)
theorem kiX10_440 : Cond.constant RX10 440 (Int32.ofInt 1103515245) ∈ zTb := (zin (List.mem_of_getElem? (i := 1595) (by decide +kernel)) rfl)
def xJ6_bitCount_0f7a4 : zX := (RJ6, cJ6_bitCount_0f7a4, 1, zrm 1 0 0, (some .int), false)
theorem mJ6_bitCount_0f7a4 : zCS yJ6_bitCount_0f7a4 xJ6_bitCount_0f7a4 1 := ⟨⟨(zin (List.mem_of_getElem? (i := 691) (by decide +kernel)) rfl), ncJ6, ⟨by decide +kernel, by decide +kernel⟩, by decide +kernel⟩, (zin (List.mem_of_getElem? (i := 690) (by decide +kernel)) rfl)⟩
section
variable {g : zG} {X : zX} {P : zP} {pc : Nat} {ls st : List zv} {N : Nat} {M : zM} {kc ks : Nat}
theorem zV_ldcw {index : Nat} {n : Int} (hd : decode X.cc pc = .ok (.ldc_w index, 3)) (hc : Cond.constant X.own index (Int32.ofInt n) ∈ zTb) (k : zV g X P (pc + 3) ls (zi n :: st) N M kc ks) : zV g X P pc ls (st) N M kc ks := by
  intro p e s m args below meth c H locs Q la F hl L R S E
  have k := k p e s m args below meth c H locs Q la F hl L R S E
  exact lv_ldcw F.1 F.2.1 F.2.2.2.1 (F.2.2.2.2.1 _ hc) hd k
theorem zV_mmax {idx : Nat} {x y : Int} (hd : decode X.cc pc = .ok (.invokestatic idx, 3)) (hl : Cond.methodLink X.own idx (⟨"java/lang/Math", "max", "(II)I"⟩ : MethodName) ∈ zTb) (hr : (-2147483648 ≤ x ∧ x ≤ 2147483647) ∧ -2147483648 ≤ y ∧ y ≤ 2147483647) (hR : 1 ≤ X.rm.frames ∧ 21 ≤ X.rm.locals) (hk : kc ≤ X.rm.cells ∧ ks ≤ X.rm.slots) (hs : (st.map fun v => if v.1 = 1 then 2 else 1).sum ≤ 8) (k : zV g X P (pc + 3) ls (zi (max x y) :: st) N M kc ks) : zV g X P pc ls (zi y :: zi x :: st) N M kc ks := by
  intro p e s m args below meth c H locs Q la F hlen L R S E
  have k : W p g.1 e X.rm s m args below meth c H locs kc ks Q (F0 m (pc + 3) la (.int (Int32.ofInt (max x y)) :: st.map (zT g))) := k p e s m args below meth c H locs Q la F hlen L R S E
  have h1 := zcat g st hs
  have e0 : Int32.ofInt (max x y) = if Int32.ofInt x < Int32.ofInt y then Int32.ofInt y else Int32.ofInt x := by
    by_cases h : x < y
    · rw [if_pos (zw_lt.mpr (by rw [zw_id hr.1, zw_id hr.2]; exact h)), Int.max_eq_right (by omega)]
    · rw [if_neg (fun q => h (by have := zw_lt.mp q; rw [zw_id hr.1, zw_id hr.2] at this; exact this)), Int.max_eq_left (by omega)]
  rw [e0] at k
  exact va_mmax F.1 F.2.1 (F.2.2.1.trans (L.1.trans hlen).symm) F.2.2.2.1 (F.2.2.2.2.1 _ hl) (F.2.2.2.2.1 _ mxs) (F.2.2.2.2.1 _ mai) (F.2.2.2.2.1 _ mxc) hR.1 (by omega) hk.1 hk.2 hd k
theorem zV_mmin {idx : Nat} {x y : Int} (hd : decode X.cc pc = .ok (.invokestatic idx, 3)) (hl : Cond.methodLink X.own idx (⟨"java/lang/Math", "min", "(II)I"⟩ : MethodName) ∈ zTb) (hr : (-2147483648 ≤ x ∧ x ≤ 2147483647) ∧ -2147483648 ≤ y ∧ y ≤ 2147483647) (hR : 1 ≤ X.rm.frames ∧ 21 ≤ X.rm.locals) (hk : kc ≤ X.rm.cells ∧ ks ≤ X.rm.slots) (hs : (st.map fun v => if v.1 = 1 then 2 else 1).sum ≤ 8) (k : zV g X P (pc + 3) ls (zi (min x y) :: st) N M kc ks) : zV g X P pc ls (zi y :: zi x :: st) N M kc ks := by
  intro p e s m args below meth c H locs Q la F hlen L R S E
  have k : W p g.1 e X.rm s m args below meth c H locs kc ks Q (F0 m (pc + 3) la (.int (Int32.ofInt (min x y)) :: st.map (zT g))) := k p e s m args below meth c H locs Q la F hlen L R S E
  have h1 := zcat g st hs
  have e0 : Int32.ofInt (min x y) = if Int32.ofInt y < Int32.ofInt x then Int32.ofInt y else Int32.ofInt x := by
    by_cases h : y < x
    · rw [if_pos (zw_lt.mpr (by rw [zw_id hr.1, zw_id hr.2]; exact h)), Int.min_eq_right (by omega)]
    · rw [if_neg (fun q => h (by have := zw_lt.mp q; rw [zw_id hr.1, zw_id hr.2] at this; exact this)), Int.min_eq_left (by omega)]
  rw [e0] at k
  exact va_mmin F.1 F.2.1 (F.2.2.1.trans (L.1.trans hlen).symm) F.2.2.2.1 (F.2.2.2.2.1 _ hl) (F.2.2.2.2.1 _ mns) (F.2.2.2.2.1 _ mai) (F.2.2.2.2.1 _ mnc) hR.1 (by omega) hk.1 hk.2 hd k
end
/-- how many bits, of 6 -/
def zpc (s : Int) : Int := s % 2 + s / 2 % 2 + s / 4 % 2 + s / 8 % 2 + s / 16 % 2 + s / 32 % 2
def zbc (x : Int32) : Int32 :=
  let us := fun (a : Int32) (n : Int32) => (a.toUInt32 >>> (n.toUInt32 &&& Int32.toUInt32 31)).toInt32
  let a := x - (us x 1 &&& 1431655765)
  let b := (a &&& 858993459) + (us a 2 &&& 858993459)
  let c := (b + us b 4) &&& 252645135
  let d := c + us c 8
  let f := d + us d 16
  f &&& 63
theorem zbc_ok : ∀ n, n < 64 → zbc (nI n) = Int32.ofInt (zpc n) := by decide +kernel
theorem zot (x : Int32) : x = Int32.ofInt x.toInt := (Int32.ofInt_toInt x).symm
section
variable {g : zG} {N : Nat} {M : zM}
set_option maxRecDepth 20000 in
set_option maxHeartbeats 2000000 in
theorem kJ6_bitCount {s : Int} (hs : 0 ≤ s ∧ s < 64) : zK g yJ6_bitCount_0f7a4 xJ6_bitCount_0f7a4 [zi s] N M (zPp (zi (zpc s)) N M) := by
  refine zK_of (by decide) rfl (by decide) rfl (Nat.le_of_ble_eq_true rfl) ?_
  refine zV_iload_n (pc := 0) (i := 0) dJ6_bitCount_0f7a4_0 rfl rfl ?_
  refine zV_iload_n (pc := 1) (i := 0) dJ6_bitCount_0f7a4_1 rfl rfl ?_
  refine zV_iconst (pc := 2) dJ6_bitCount_0f7a4_2 ?_
  refine zV_iushr (pc := 3) dJ6_bitCount_0f7a4_3 (zot _) ?_
  refine zV_ldcw (pc := 4) dJ6_bitCount_0f7a4_4 kiJ6_265 ?_
  refine zV_iand (pc := 7) dJ6_bitCount_0f7a4_7 (zot _) ?_
  refine zV_isub (pc := 8) dJ6_bitCount_0f7a4_8 ?_
  refine zV_istore_n (pc := 9) (i := 0) dJ6_bitCount_0f7a4_9 rfl rfl ?_
  refine zV_iload_n (pc := 10) (i := 0) dJ6_bitCount_0f7a4_10 rfl rfl ?_
  refine zV_ldcw (pc := 11) dJ6_bitCount_0f7a4_11 kiJ6_266 ?_
  refine zV_iand (pc := 14) dJ6_bitCount_0f7a4_14 (zot _) ?_
  refine zV_iload_n (pc := 15) (i := 0) dJ6_bitCount_0f7a4_15 rfl rfl ?_
  refine zV_iconst (pc := 16) dJ6_bitCount_0f7a4_16 ?_
  refine zV_iushr (pc := 17) dJ6_bitCount_0f7a4_17 (zot _) ?_
  refine zV_ldcw (pc := 18) dJ6_bitCount_0f7a4_18 kiJ6_266 ?_
  refine zV_iand (pc := 21) dJ6_bitCount_0f7a4_21 (zot _) ?_
  refine zV_iadd (pc := 22) dJ6_bitCount_0f7a4_22 ?_
  refine zV_istore_n (pc := 23) (i := 0) dJ6_bitCount_0f7a4_23 rfl rfl ?_
  refine zV_iload_n (pc := 24) (i := 0) dJ6_bitCount_0f7a4_24 rfl rfl ?_
  refine zV_iload_n (pc := 25) (i := 0) dJ6_bitCount_0f7a4_25 rfl rfl ?_
  refine zV_iconst (pc := 26) dJ6_bitCount_0f7a4_26 ?_
  refine zV_iushr (pc := 27) dJ6_bitCount_0f7a4_27 (zot _) ?_
  refine zV_iadd (pc := 28) dJ6_bitCount_0f7a4_28 ?_
  refine zV_ldcw (pc := 29) dJ6_bitCount_0f7a4_29 kiJ6_267 ?_
  refine zV_iand (pc := 32) dJ6_bitCount_0f7a4_32 (zot _) ?_
  refine zV_istore_n (pc := 33) (i := 0) dJ6_bitCount_0f7a4_33 rfl rfl ?_
  refine zV_iload_n (pc := 34) (i := 0) dJ6_bitCount_0f7a4_34 rfl rfl ?_
  refine zV_iload_n (pc := 35) (i := 0) dJ6_bitCount_0f7a4_35 rfl rfl ?_
  refine zV_bipush (pc := 36) dJ6_bitCount_0f7a4_36 (by decide) ?_
  refine zV_iushr (pc := 38) dJ6_bitCount_0f7a4_38 (zot _) ?_
  refine zV_iadd (pc := 39) dJ6_bitCount_0f7a4_39 ?_
  refine zV_istore_n (pc := 40) (i := 0) dJ6_bitCount_0f7a4_40 rfl rfl ?_
  refine zV_iload_n (pc := 41) (i := 0) dJ6_bitCount_0f7a4_41 rfl rfl ?_
  refine zV_iload_n (pc := 42) (i := 0) dJ6_bitCount_0f7a4_42 rfl rfl ?_
  refine zV_bipush (pc := 43) dJ6_bitCount_0f7a4_43 (by decide) ?_
  refine zV_iushr (pc := 45) dJ6_bitCount_0f7a4_45 (zot _) ?_
  refine zV_iadd (pc := 46) dJ6_bitCount_0f7a4_46 ?_
  refine zV_istore_n (pc := 47) (i := 0) dJ6_bitCount_0f7a4_47 rfl rfl ?_
  refine zV_iload_n (pc := 48) (i := 0) dJ6_bitCount_0f7a4_48 rfl rfl ?_
  refine zV_bipush (pc := 49) dJ6_bitCount_0f7a4_49 (by decide) ?_
  refine zV_iand (pc := 51) dJ6_bitCount_0f7a4_51 (zot _) ?_
  refine zV_iret (pc := 52) dJ6_bitCount_0f7a4_52 trivial ⟨Nat.zero_le _, Nat.zero_le _⟩ (zPe ?_)
  have h0 := zbc_ok s.toNat (by omega)
  rw [← zo_n hs.1, Int.toNat_of_nonneg hs.1] at h0
  have h1 := congrArg Int32.toInt h0
  rw [zw_eq, zw_id (by unfold zpc; omega)] at h1
  rw [← h1]
  simp only [zbc, Int32.ofInt_add, Int32.ofInt_sub, Int32.ofInt_toInt]
  rfl
end
