/-! ROWS OF AN ARRAY INTO ANOTHER (OR ITSELF), and copy (printed by wip/whole/p28.py) -/
theorem acn : Cond.native arraycopyName ∈ zTb := zin (by decide +kernel) rfl
theorem acs : Cond.static arraycopyName ∈ zTb := zin (by decide +kernel) rfl
theorem aci : Cond.initialized "java/lang/System" ∈ zTb := zin (by decide +kernel) rfl
theorem acw : nativeFrameWords "java/lang/System" "arraycopy" 5 ≤ 10 := by decide +kernel
/-- n items of a's row from i on, laid into b's from j on -/
def zcpy (M : zM) (a i b j n : Int) : zM := fun x e => if x = b ∧ j ≤ e ∧ e < j + n then M a (i + (e - j)) else M x e
section
variable {g : zG} {X : zX} {P : zP} {pc : Nat} {ls st : List zv} {N : Nat} {M : zM} {kc ks : Nat}
theorem zR_cpy {s : State} {H H1 : Heap} {a i b j n : Int} {nb : Nat} {cB : ClassId} (hB : zAr N b 0 nb) (h : 0 ≤ i ∧ 0 ≤ j ∧ 0 ≤ n) (R : zR g s N M H) (h1 : ArrOfT s cB (zet 0)) (h2 : va_RA s cB (zet 0))
    (e1 : H1[g.2.2.2.1 + b.toNat]? = some (arrV cB nb (fun q => Value.int (va_cpy (fun q : Nat => Int32.ofInt (M a (q : Int))) (fun q : Nat => Int32.ofInt (M b (q : Int))) i.toNat j.toNat n.toNat q)))) (e2 : H1.size = H.size) (e3 : ∀ q : Nat, q ≠ g.2.2.2.1 + b.toNat → H1[q]? = H[q]?) : zR g s N (zcpy M a i b j n) H1 := by
  obtain ⟨b0, bN, bsh⟩ := hB
  have eb : ((b.toNat : Nat) : Int) = b := Int.toNat_of_nonneg b0
  refine ⟨R.1, by rw [e2]; exact R.2.1, R.2.2.1, fun k hk => ?_⟩
  by_cases hkb : k = b.toNat
  · subst hkb
    rw [zC_ar bsh, eb]
    refine ⟨cB, h1, h2, ?_⟩
    rw [e1]
    congr 2
    funext q
    show Value.int _ = Value.int (Int32.ofInt (zcpy M a i b j n b (q : Int)))
    congr 1
    unfold va_cpy zcpy
    by_cases hq : j.toNat ≤ q ∧ q < j.toNat + n.toNat
    · rw [if_pos hq, if_pos ⟨rfl, by omega, by omega⟩]
      show Int32.ofInt (M a ((i.toNat + (q - j.toNat) : Nat) : Int)) = _
      rw [show ((i.toNat + (q - j.toNat) : Nat) : Int) = i + ((q : Int) - j) by omega]
    · rw [if_neg hq, if_neg (by omega)]
  · have hf : zcpy M a i b j n (k : Int) = M (k : Int) := by
      funext q
      exact if_neg (by omega)
    rw [hf]
    exact (R.2.2.2 k hk).kept (e3 _ (by omega))
theorem zV_copyi {idx : Nat} {a b i j n : Int} {na nb : Nat} (hd : decode X.cc pc = .ok (.invokestatic idx, 3)) (hl : Cond.methodLink X.own idx arraycopyName ∈ zTb) (hA : zAr N a 0 na) (hB : zAr N b 0 nb) (h : 0 ≤ i ∧ 0 ≤ j ∧ 0 ≤ n) (h2 : i + n ≤ na) (h3 : j + n ≤ nb) (hR : 1 ≤ X.rm.frames ∧ 30 ≤ X.rm.locals) (hs : (st.map fun v => if v.1 = 1 then 2 else 1).sum ≤ 8) (k : zV g X P (pc + 3) ls st N (zcpy M a i b j n) kc ks) : zV g X P pc ls (zi n :: zi j :: zr b :: zi i :: zr a :: st) N M kc ks := by
  intro p e s m args below meth c H locs Q la F hlen L R S E
  obtain ⟨a0, aN, ash⟩ := id hA
  obtain ⟨b0, bN, bsh⟩ := id hB
  have hna := zsh_n a.toNat
  rw [ash] at hna
  have hnb := zsh_n b.toNat
  rw [bsh] at hnb
  have ea : ((a.toNat : Nat) : Int) = a := Int.toNat_of_nonneg a0
  have eb : ((b.toNat : Nat) : Int) = b := Int.toNat_of_nonneg b0
  have hCa := R.2.2.2 a.toNat (by omega)
  have hCb := R.2.2.2 b.toNat (by omega)
  rw [zC_ar ash, ea] at hCa
  rw [zC_ar bsh, eb] at hCb
  obtain ⟨cA, p1, p2, p3⟩ := hCa
  obtain ⟨cB, q1, q2, q3⟩ := hCb
  have h1 := zcat g st hs
  have ri : -2147483648 ≤ i ∧ i ≤ 2147483647 := by simp only at hna; omega
  have rj : -2147483648 ≤ j ∧ j ≤ 2147483647 := by simp only at hnb; omega
  have rn : -2147483648 ≤ n ∧ n ≤ 2147483647 := by simp only at hnb; omega
  have nneg : ∀ z : Int, 0 ≤ z → (-2147483648 ≤ z ∧ z ≤ 2147483647) → ¬ Int32.ofInt z < 0 := by
    intro z hz hr q
    have := Int32.lt_iff_toInt_lt.mp q
    rw [zw_eq, zw_id hr] at this
    have z0 : (0 : Int32).toInt = 0 := by decide
    omega
  have cl : ∀ z : Int, (-2147483648 ≤ z ∧ z ≤ 2147483647) → (Int32.ofInt z).toNatClampNeg = z.toNat := by
    intro z hr
    show (Int32.ofInt z).toInt.toNat = _
    rw [zw_eq, zw_id hr]
  show W p g.1 e X.rm s m args below meth c H locs kc ks Q (F0 m pc la (.int (Int32.ofInt n) :: .int (Int32.ofInt j) :: zT g (zr b) :: .int (Int32.ofInt i) :: zT g (zr a) :: st.map (zT g)))
  rw [zT_r g a0, zT_r g b0, zAd_lt g (by have := R.1; omega), zAd_lt g (by have := R.1; omega)]
  intro T hT Y
  obtain ⟨-, k0, hk0, cm0, hkk0⟩ := p1 na (fun q => .int (Int32.ofInt (M a (q : Int))))
  obtain ⟨-, k1, hk1, cm1, hkk1⟩ := q1 nb (fun q => .int (Int32.ofInt (M b (q : Int))))
  obtain ⟨vm', Y', step⟩ := Y.arraycopy F.1 F.2.2.2.1 (F.2.2.2.2.1 _ hl) (F.2.2.2.2.1 _ acn) (F.2.2.2.2.1 _ acs) (F.2.2.2.2.1 _ aci) (src := g.2.2.2.1 + a.toNat) (dst := g.2.2.2.1 + b.toNat) (cs := arrV cA na (fun q => .int (Int32.ofInt (M a (q : Int))))) (cd := arrV cB nb (fun q => .int (Int32.ofInt (M b (q : Int))))) (srcPos := Int32.ofInt i) (destPos := Int32.ofInt j) (n := Int32.ofInt n) (by rw [hT]; exact p3) (by rw [hT]; exact q3)
    (fun _ h => by cases h) (fun _ h => by cases h) (fun h => by cases h) (fun h => by cases h) hk0 hk1 hkk0 hkk1 (by simp [show refKind (zet 0) = false from rfl]) (nneg i h.1 ri) (nneg j h.2.1 rj) (nneg n h.2.2 rn)
    (by rw [zw_eq, zw_eq, zw_id ri, zw_id rn]; show ¬ _ > ((arrV cA na (fun q => .int (Int32.ofInt (M a (q : Int))))).slots.size : Int); rw [arrV_size]; omega)
    (by rw [zw_eq, zw_eq, zw_id rj, zw_id rn]; show ¬ _ > ((arrV cB nb (fun q => .int (Int32.ofInt (M b (q : Int))))).slots.size : Int); rw [arrV_size]; omega)
    (fun vm₁ _ q hq => by
      rw [cl n rn] at hq
      have e : (arrV cA na (fun q => .int (Int32.ofInt (M a (q : Int))))).slots.getD ((Int32.ofInt i).toNatClampNeg + q) .null = .int (Int32.ofInt (M a (((Int32.ofInt i).toNatClampNeg + q : Nat) : Int))) := by
        rw [Array.getD_eq_getD_getElem?, arrV_read _ _ (by rw [cl i ri]; omega)]
        rfl
      refine ⟨?_, ?_⟩
      · rw [e]
        rfl
      · rw [e]
        exact trivial)
    (g := F0 m pc la (.int (Int32.ofInt n) :: .int (Int32.ofInt j) :: .ref (g.2.2.2.1 + b.toNat) :: .int (Int32.ofInt i) :: .ref (g.2.2.2.1 + a.toNat) :: st.map (zT g))) rfl (by rw [F.2.2.1]; exact L.1.trans hlen) (rest := st.map (zT g)) rfl (by rw [F.2.1]; exact hd) hR.1 (by show 2 * 0 + _ + _ ≤ _; have := acw; omega)
  have e1 : copied (arrV cA na (fun q => .int (Int32.ofInt (M a (q : Int))))) (arrV cB nb (fun q => .int (Int32.ofInt (M b (q : Int))))) (Int32.ofInt i) (Int32.ofInt j) (Int32.ofInt n) = arrV cB nb (fun q => Value.int (va_cpy (fun q : Nat => Int32.ofInt (M a (q : Int))) (fun q : Nat => Int32.ofInt (M b (q : Int))) i.toNat j.toNat n.toNat q)) := by
    have := va_copied (fun z => Value.int z) cA cB (n0 := na) (n1 := nb) (sp := i.toNat) (dp := j.toNat) (n := n.toNat) (fun q : Nat => Int32.ofInt (M a (q : Int))) (fun q : Nat => Int32.ofInt (M b (q : Int))) (by omega)
    rw [← this]
    show Cell.storeRun _ (Int32.ofInt j).toNatClampNeg (Cell.stretch _ (Int32.ofInt i).toNatClampNeg (Int32.ofInt n).toNatClampNeg) = _
    rw [cl i ri, cl j rj, cl n rn]
  rw [e1] at Y' step
  have hl1 : g.2.2.2.1 + b.toNat < H.size := (Array.getElem?_eq_some_iff.mp q3).1
  generalize hcell : arrV cB nb (fun q => Value.int (va_cpy (fun q : Nat => Int32.ofInt (M a (q : Int))) (fun q : Nat => Int32.ofInt (M b (q : Int))) i.toNat j.toNat n.toNat q)) = cell at Y' step
  have hheap : ((T.setVm vm').setCell (g.2.2.2.1 + b.toNat) cell).heap = H.setIfInBounds (g.2.2.2.1 + b.toNat) cell := by rw [← hT]; rfl
  have oq : ∀ q : Nat, q ≠ g.2.2.2.1 + b.toNat → (H.setIfInBounds (g.2.2.2.1 + b.toNat) cell)[q]? = H[q]? := fun q hq => by simp [Array.getElem?_setIfInBounds, Ne.symm hq]
  have hsz : (H.setIfInBounds (g.2.2.2.1 + b.toNat) cell).size = H.size := by simp
  obtain ⟨t, a1, b1⟩ := k p e s m args below meth c (H.setIfInBounds (g.2.2.2.1 + b.toNat) cell) _ Q la F hlen L (zR_cpy hB h R q1 q2 (by rw [hcell]; simp [Array.getElem?_setIfInBounds, hl1]) hsz oq) ⟨by simp; exact S.1, fun q g1 g2 => by
      rw [oq q (fun e => g2 (by rw [e]; show g.2.2.2.1 ≤ _; omega))]
      exact S.2.1 q g1 g2, fun q hq => by
      rcases List.mem_append.mp hq with h | h
      · exact S.2.2 q h
      · obtain ⟨z, -, hz⟩ := List.mem_map.mp h
        rw [← hz]
        show g.2.2.2.1 ≤ g.2.2.2.1 + b.toNat
        omega⟩ E _ hheap Y'
  exact ⟨t, step t a1, b1⟩
end
/-- what copy answers -/
def zcoA (M : zM) (s i t j n : Int) : Int := if (0 ≤ s ∧ s ≤ 3) ∧ (0 ≤ t ∧ t ≤ 3) then (if M (44 + 2 * s) 0 = -1 ∨ M (44 + 2 * t) 0 = -1 then -11 else if M (44 + 2 * s) 0 ≠ M (44 + 2 * t) 0 then -13 else if 0 ≤ n ∧ (0 ≤ i ∧ i ≤ M (44 + 2 * s) 1 - n) ∧ (0 ≤ j ∧ j ≤ M (44 + 2 * t) 1 - n) then n else -12) else -2
section
variable {g : zG} {N : Nat} {M : zM}
set_option maxRecDepth 20000 in
set_option maxHeartbeats 2000000 in
theorem kX9_copy (hS : zSt M) (hH : zShs M) {s i t j n : Int} (hs : -2147483648 ≤ s ∧ s ≤ 2147483647) (hi : -2147483648 ≤ i ∧ i ≤ 2147483647) (ht : -2147483648 ≤ t ∧ t ≤ 2147483647) (hj : -2147483648 ≤ j ∧ j ≤ 2147483647) (hn : -2147483648 ≤ n ∧ n ≤ 2147483647) : zK g yX9_copy xX9_copy [zr 0, zi s, zi i, zi t, zi j, zi n] 75 M (fun w N' M1 => N' = 75 ∧ w = some (zi (zcoA M s i t j n)) ∧ M1 = if 0 ≤ zcoA M s i t j n then zcpy M (45 + 2 * s) i (45 + 2 * t) j n else M) := by
  refine zK_of (ls0 := [zr 0, zi s, zi i, zi t, zi j, zi n, (3, 0), (3, 0)]) (by decide) rfl (by decide) rfl (Nat.le_of_ble_eq_true rfl) ?_
  have hHs := hH s
  have hHt := hH t
  refine zV_iload_n (pc := 0) (i := 1) dX9_copy_0 rfl rfl ?_
  refine zV_isp (pc := 1) dX9_copy_1 klX9_228 mX9_isSheet rfl ⟨Nat.zero_le _, Nat.zero_le _⟩ (kX9_isSheet (by omega)) rfl rfl (Nat.le_of_ble_eq_true rfl) ?_
  refine zV_if_eqb (pc := 4) (tgt := 14) dX9_copy_4 (by decide) (fun c_4 => ?_) (fun c_4 => ?_)
  · refine zV_bipush (pc := 14) dX9_copy_14 (by decide) ?_
    refine zV_iret (pc := 16) dX9_copy_16 trivial ⟨Nat.zero_le _, Nat.zero_le _⟩ ?_
    have e : zcoA M s i t j n = -2 := by unfold zcoA; rw [if_neg (by omega)]
    exact ⟨rfl, by rw [e], by rw [e]; exact (if_neg (by decide)).symm⟩
  · refine zV_iload_n (pc := 7) (i := 3) dX9_copy_7 rfl rfl ?_
    refine zV_isp (pc := 8) dX9_copy_8 klX9_228 mX9_isSheet rfl ⟨Nat.zero_le _, Nat.zero_le _⟩ (kX9_isSheet (by omega)) rfl rfl (Nat.le_of_ble_eq_true rfl) ?_
    refine zV_if_neb (pc := 11) (tgt := 17) dX9_copy_11 (by decide) (fun c_11 => ?_) (fun c_11 => ?_)
    · refine zV_aload_n (pc := 17) (i := 0) dX9_copy_17 rfl rfl ?_
      refine zV_get (pc := 18) (j := 10) dX9_copy_18 flX9_55 (zOb_of rfl) rfl hS.e0_10 ?_
      refine zV_iload_n (pc := 21) (i := 1) dX9_copy_21 rfl rfl ?_
      refine zV_aald (pc := 22) dX9_copy_22 (zAr_of rfl : zAr 75 25 4 4) ⟨rfl, rfl⟩ (by omega) (hS.sh (by omega)) ?_
      refine zV_astore (pc := 23) dX9_copy_23 rfl ?_
      try dsimp only [List.set_cons_succ, List.set_cons_zero]
      refine zV_aload_n (pc := 25) (i := 0) dX9_copy_25 rfl rfl ?_
      refine zV_get (pc := 26) (j := 10) dX9_copy_26 flX9_55 (zOb_of rfl) rfl hS.e0_10 ?_
      refine zV_iload_n (pc := 29) (i := 3) dX9_copy_29 rfl rfl ?_
      refine zV_aald (pc := 30) dX9_copy_30 (zAr_of rfl : zAr 75 25 4 4) ⟨rfl, rfl⟩ (by omega) (hS.sh (by omega)) ?_
      refine zV_astore (pc := 31) dX9_copy_31 rfl ?_
      try dsimp only [List.set_cons_succ, List.set_cons_zero]
      refine zV_aload (pc := 33) dX9_copy_33 rfl ?_
      refine zV_ivp (pc := 35) (ci := 6) dX9_copy_35 klX9_231 mX6_isMissing ⟨by decide, rfl⟩ rfl ⟨Nat.zero_le _, Nat.zero_le _⟩ (kX6_isMissing hS (s := s) (by omega) (hH s (by omega) (by omega)).1) (zOb_sh (by omega)) rfl rfl (Nat.le_of_ble_eq_true rfl) ?_
      refine zV_if_neb (pc := 38) (tgt := 49) dX9_copy_38 (by decide) (fun c_38 => ?_) (fun c_38 => ?_)
      · refine zV_bipush (pc := 49) dX9_copy_49 (by decide) ?_
        refine zV_iret (pc := 51) dX9_copy_51 trivial ⟨Nat.zero_le _, Nat.zero_le _⟩ ?_
        have e : zcoA M s i t j n = -11 := by unfold zcoA; rw [if_pos (by omega), if_pos (by omega)]
        exact ⟨rfl, by rw [e], by rw [e]; exact (if_neg (by decide)).symm⟩
      · refine zV_aload (pc := 41) dX9_copy_41 rfl ?_
        refine zV_ivp (pc := 43) (ci := 6) dX9_copy_43 klX9_231 mX6_isMissing ⟨by decide, rfl⟩ rfl ⟨Nat.zero_le _, Nat.zero_le _⟩ (kX6_isMissing hS (s := t) (by omega) (hH t (by omega) (by omega)).1) (zOb_sh (by omega)) rfl rfl (Nat.le_of_ble_eq_true rfl) ?_
        refine zV_if_eqb (pc := 46) (tgt := 52) dX9_copy_46 (by decide) (fun c_46 => ?_) (fun c_46 => ?_)
        · refine zV_aload (pc := 52) dX9_copy_52 rfl ?_
          refine zV_get (pc := 54) (j := 0) dX9_copy_54 flX9_286 (zOb_sh (by omega)) rfl rfl ?_
          refine zV_aload (pc := 57) dX9_copy_57 rfl ?_
          refine zV_get (pc := 59) (j := 0) dX9_copy_59 flX9_286 (zOb_sh (by omega)) rfl rfl ?_
          refine zV_icmp_eq (pc := 62) (tgt := 68) dX9_copy_62 (by decide) (by omega) (fun c_62 => ?_) (fun c_62 => ?_)
          · refine zV_aload (pc := 68) dX9_copy_68 rfl ?_
            refine zV_iload_n (pc := 70) (i := 2) dX9_copy_70 rfl rfl ?_
            refine zV_iload (pc := 71) dX9_copy_71 rfl ?_
            refine zV_ivp (pc := 73) (ci := 6) dX9_copy_73 klX9_283 mX6_hasItems ⟨by decide, rfl⟩ rfl ⟨Nat.zero_le _, Nat.zero_le _⟩ (kX6_hasItems hS (s := s) (by omega) (hH s (by omega) (by omega)).2.1 (by omega) (by omega)) (zOb_sh (by omega)) rfl rfl (Nat.le_of_ble_eq_true rfl) ?_
            refine zV_if_eqb (pc := 76) (tgt := 91) dX9_copy_76 (by decide) (fun c_76 => ?_) (fun c_76 => ?_)
            · refine zV_bipush (pc := 91) dX9_copy_91 (by decide) ?_
              refine zV_iret (pc := 93) dX9_copy_93 trivial ⟨Nat.zero_le _, Nat.zero_le _⟩ ?_
              have e : zcoA M s i t j n = -12 := by unfold zcoA; rw [if_pos (by omega), if_neg (by omega), if_neg (by omega), if_neg (by omega)]
              exact ⟨rfl, by rw [e], by rw [e]; exact (if_neg (by decide)).symm⟩
            · refine zV_aload (pc := 79) dX9_copy_79 rfl ?_
              refine zV_iload (pc := 81) dX9_copy_81 rfl ?_
              refine zV_iload (pc := 83) dX9_copy_83 rfl ?_
              refine zV_ivp (pc := 85) (ci := 6) dX9_copy_85 klX9_283 mX6_hasItems ⟨by decide, rfl⟩ rfl ⟨Nat.zero_le _, Nat.zero_le _⟩ (kX6_hasItems hS (s := t) (by omega) (hH t (by omega) (by omega)).2.1 (by omega) (by omega)) (zOb_sh (by omega)) rfl rfl (Nat.le_of_ble_eq_true rfl) ?_
              refine zV_if_neb (pc := 88) (tgt := 94) dX9_copy_88 (by decide) (fun c_88 => ?_) (fun c_88 => ?_)
              · refine zV_aload (pc := 94) dX9_copy_94 rfl ?_
                refine zV_get (pc := 96) (j := 2) dX9_copy_96 flX9_289 (zOb_sh (by omega)) rfl (hS.shi (by omega)) ?_
                refine zV_iload_n (pc := 99) (i := 2) dX9_copy_99 rfl rfl ?_
                refine zV_aload (pc := 100) dX9_copy_100 rfl ?_
                refine zV_get (pc := 102) (j := 2) dX9_copy_102 flX9_289 (zOb_sh (by omega)) rfl (hS.shi (by omega)) ?_
                refine zV_iload (pc := 105) dX9_copy_105 rfl ?_
                refine zV_iload (pc := 107) dX9_copy_107 rfl ?_
                refine zV_copyi (pc := 109) dX9_copy_109 klX9_293 (zAr_sh (by omega)) (zAr_sh (by omega)) (by omega) (by omega) (by omega) (by decide) (by decide) ?_
                refine zV_iload (pc := 112) dX9_copy_112 rfl ?_
                refine zV_iret (pc := 114) dX9_copy_114 trivial ⟨Nat.zero_le _, Nat.zero_le _⟩ ?_
                have e : zcoA M s i t j n = n := by unfold zcoA; rw [if_pos (by omega), if_neg (by omega), if_neg (by omega), if_pos (by omega)]
                exact ⟨rfl, by rw [e], by rw [e, if_pos (by omega)]⟩
              · refine zV_bipush (pc := 91) dX9_copy_91 (by decide) ?_
                refine zV_iret (pc := 93) dX9_copy_93 trivial ⟨Nat.zero_le _, Nat.zero_le _⟩ ?_
                have e : zcoA M s i t j n = -12 := by unfold zcoA; rw [if_pos (by omega), if_neg (by omega), if_neg (by omega), if_neg (by omega)]
                exact ⟨rfl, by rw [e], by rw [e]; exact (if_neg (by decide)).symm⟩
          · refine zV_bipush (pc := 65) dX9_copy_65 (by decide) ?_
            refine zV_iret (pc := 67) dX9_copy_67 trivial ⟨Nat.zero_le _, Nat.zero_le _⟩ ?_
            have e : zcoA M s i t j n = -13 := by unfold zcoA; rw [if_pos (by omega), if_neg (by omega), if_pos (by omega)]
            exact ⟨rfl, by rw [e], by rw [e]; exact (if_neg (by decide)).symm⟩
        · refine zV_bipush (pc := 49) dX9_copy_49 (by decide) ?_
          refine zV_iret (pc := 51) dX9_copy_51 trivial ⟨Nat.zero_le _, Nat.zero_le _⟩ ?_
          have e : zcoA M s i t j n = -11 := by unfold zcoA; rw [if_pos (by omega), if_pos (by omega)]
          exact ⟨rfl, by rw [e], by rw [e]; exact (if_neg (by decide)).symm⟩
    · refine zV_bipush (pc := 14) dX9_copy_14 (by decide) ?_
      refine zV_iret (pc := 16) dX9_copy_16 trivial ⟨Nat.zero_le _, Nat.zero_le _⟩ ?_
      have e : zcoA M s i t j n = -2 := by unfold zcoA; rw [if_neg (by omega)]
      exact ⟨rfl, by rw [e], by rw [e]; exact (if_neg (by decide)).symm⟩
end
