/-! THE MODEL: says, text, feed, costs of a day (printed by wip/whole/p52.py) -/
def zNS (a j : Int) : Prop := a = 58 ∧ 13 ≤ j ∧ j ≤ 27
theorem zNR_S {a j : Int} (h : zNR a j) : zNS a j := by unfold zNR at h; unfold zNS; omega
theorem zNS_st : ∀ q ∈ zstL, ¬ zNS q.1 q.2.1 := by
  unfold zNS
  decide
/-- the rule is a text that was read: these bytes -/
def zMU (M : zM) (tp : Int → Int) (z : Int) : Prop := (0 ≤ M 58 4 ∧ M 58 4 < 6) ∧ M 60 (M 58 4) = z ∧ (∀ j : Int, 0 ≤ j → j < z → M 59 (160 * M 58 4 + j) = tp j) ∧ ztp tp z ∧ zpF tp z = -1
/-- what a part of a text tells -/
noncomputable def ztt (tp : Int → Int) (z k : Int) (nm : Int → Int) : Int := zc99 (zvk tp z nm k)
theorem ztt_r (tp : Int → Int) (z k : Int) (nm : Int → Int) : 0 ≤ ztt tp z k nm ∧ ztt tp z k nm ≤ 99 := zc99_r _
section
variable {g : zG} {N : Nat} {M : zM}
set_option maxRecDepth 20000 in
set_option maxHeartbeats 2000000 in
theorem kX10_says0 (hS : zSt M) {tp : Int → Int} {z : Int} (hU : zMU M tp z) {t d m r : Int} (ht : 0 ≤ t ∧ t < 6) (hm : 0 ≤ M 63 t ∧ M 63 t ≤ 9) (hp : 1 ≤ M 64 t ∧ M 64 t ≤ 60) (hd : -2147483648 ≤ d ∧ d ≤ 2147483647) (hm2 : -2147483648 ≤ m ∧ m ≤ 2147483647) (hr : -2147483648 ≤ r ∧ r ≤ 2147483647) : zK g yX10_says xX10_says [zr 58, zi 0, zi t, zi d, zi m, zi r] 75 M (zPq (zi (ztt tp z 0 (znm d t m (M 64 t) r (M 63 t)))) 75 (fun M1 => zFr zNS M M1)) := by
  refine zK_of (ls0 := [zr 58, zi 0, zi t, zi d, zi m, zi r]) (by decide) rfl (by decide) rfl (Nat.le_of_ble_eq_true rfl) ?_
  refine zV_aload_n (pc := 0) (i := 0) dX10_says_0 rfl rfl ?_
  refine zV_iload_n (pc := 1) (i := 1) dX10_says_1 rfl rfl ?_
  refine zV_iconst (pc := 2) dX10_says_2 ?_
  refine zV_icmp_ne (pc := 3) (tgt := 10) dX10_says_3 (by decide) (by decide) (fun c_3 => ?_) (fun c_3 => absurd c_3 (by decide))
  refine zV_iload_n (pc := 10) (i := 3) dX10_says_10 rfl rfl ?_
  refine zV_put (pc := 11) (j := 13) dX10_says_11 flX10_183 rfl (zOb_of rfl) rfl trivial ?_
  refine zV_aload_n (pc := 14) (i := 0) dX10_says_14 rfl rfl ?_
  refine zV_iload_n (pc := 15) (i := 1) dX10_says_15 rfl rfl ?_
  refine zV_iconst (pc := 16) dX10_says_16 ?_
  refine zV_icmp_ne (pc := 17) (tgt := 24) dX10_says_17 (by decide) (by decide) (fun c_17 => ?_) (fun c_17 => absurd c_17 (by decide))
  refine zV_iload_n (pc := 24) (i := 2) dX10_says_24 rfl rfl ?_
  refine zV_put (pc := 25) (j := 14) dX10_says_25 flX10_186 rfl (zOb_of rfl) rfl trivial ?_
  refine zV_aload_n (pc := 28) (i := 0) dX10_says_28 rfl rfl ?_
  refine zV_iload_n (pc := 29) (i := 1) dX10_says_29 rfl rfl ?_
  refine zV_iconst (pc := 30) dX10_says_30 ?_
  refine zV_icmp_ne (pc := 31) (tgt := 38) dX10_says_31 (by decide) (by decide) (fun c_31 => ?_) (fun c_31 => absurd c_31 (by decide))
  refine zV_iload (pc := 38) dX10_says_38 rfl ?_
  refine zV_put (pc := 40) (j := 15) dX10_says_40 flX10_189 rfl (zOb_of rfl) rfl trivial ?_
  refine zV_aload_n (pc := 43) (i := 0) dX10_says_43 rfl rfl ?_
  refine zV_iload_n (pc := 44) (i := 1) dX10_says_44 rfl rfl ?_
  refine zV_iconst (pc := 45) dX10_says_45 ?_
  refine zV_icmp_ne (pc := 46) (tgt := 53) dX10_says_46 (by decide) (by decide) (fun c_46 => ?_) (fun c_46 => absurd c_46 (by decide))
  refine zV_aload_n (pc := 53) (i := 0) dX10_says_53 rfl rfl ?_
  refine zV_get (pc := 54) (j := 10) dX10_says_54 flX10_29 (zOb_of rfl) rfl ((zU_j _ _ _ _ (by decide)).trans ((zU_j _ _ _ _ (by decide)).trans ((zU_j _ _ _ _ (by decide)).trans hS.e58_10))) ?_
  refine zV_iload_n (pc := 57) (i := 2) dX10_says_57 rfl rfl ?_
  refine zV_iald (pc := 58) dX10_says_58 (zAr_of rfl : zAr 75 64 0 6) (by omega) ((zU_a _ _ _ _ (by decide)).trans ((zU_a _ _ _ _ (by decide)).trans (zU_a _ _ _ _ (by decide)))) ?_
  refine zV_put (pc := 59) (j := 16) dX10_says_59 flX10_192 rfl (zOb_of rfl) rfl trivial ?_
  refine zV_aload_n (pc := 62) (i := 0) dX10_says_62 rfl rfl ?_
  refine zV_iload (pc := 63) dX10_says_63 rfl ?_
  refine zV_put (pc := 65) (j := 17) dX10_says_65 flX10_195 rfl (zOb_of rfl) rfl trivial ?_
  refine zV_aload_n (pc := 68) (i := 0) dX10_says_68 rfl rfl ?_
  refine zV_iload_n (pc := 69) (i := 1) dX10_says_69 rfl rfl ?_
  refine zV_iconst (pc := 70) dX10_says_70 ?_
  refine zV_icmp_ne (pc := 71) (tgt := 78) dX10_says_71 (by decide) (by decide) (fun c_71 => ?_) (fun c_71 => absurd c_71 (by decide))
  refine zV_aload_n (pc := 78) (i := 0) dX10_says_78 rfl rfl ?_
  refine zV_get (pc := 79) (j := 9) dX10_says_79 flX10_26 (zOb_of rfl) rfl ((zU_j _ _ _ _ (by decide)).trans ((zU_j _ _ _ _ (by decide)).trans ((zU_j _ _ _ _ (by decide)).trans ((zU_j _ _ _ _ (by decide)).trans ((zU_j _ _ _ _ (by decide)).trans hS.e58_9))))) ?_
  refine zV_iload_n (pc := 82) (i := 2) dX10_says_82 rfl rfl ?_
  refine zV_iald (pc := 83) dX10_says_83 (zAr_of rfl : zAr 75 63 0 6) (by omega) ((zU_a _ _ _ _ (by decide)).trans ((zU_a _ _ _ _ (by decide)).trans ((zU_a _ _ _ _ (by decide)).trans ((zU_a _ _ _ _ (by decide)).trans (zU_a _ _ _ _ (by decide)))))) ?_
  refine zV_put (pc := 84) (j := 18) dX10_says_84 flX10_198 rfl (zOb_of rfl) rfl trivial ?_
  have fB : zFr zNS M (zU (zU (zU (zU (zU (zU M 58 13 d) 58 14 t) 58 15 m) 58 16 (M 64 t)) 58 17 r) 58 18 (M 63 t)) := ((((((zFr.rf.up (a := 58) (j := 13) ⟨rfl, by decide, by decide⟩).up (a := 58) (j := 14) ⟨rfl, by decide, by decide⟩).up (a := 58) (j := 15) ⟨rfl, by decide, by decide⟩).up (a := 58) (j := 16) ⟨rfl, by decide, by decide⟩).up (a := 58) (j := 17) ⟨rfl, by decide, by decide⟩).up (a := 58) (j := 18) ⟨rfl, by decide, by decide⟩)
  have hN : ∀ j : Int, 0 ≤ j → j ≤ 5 → -2147483648 ≤ (znm d t m (M 64 t) r (M 63 t)) j ∧ (znm d t m (M 64 t) r (M 63 t)) j ≤ 2147483647 := by
    intro j j0 j1
    rcases (show j = 0 ∨ j = 1 ∨ j = 2 ∨ j = 3 ∨ j = 4 ∨ j = 5 by omega) with rfl | rfl | rfl | rfl | rfl | rfl
    · show -2147483648 ≤ (d : Int) ∧ (d : Int) ≤ 2147483647; omega
    · show -2147483648 ≤ (t : Int) ∧ (t : Int) ≤ 2147483647; omega
    · show -2147483648 ≤ (m : Int) ∧ (m : Int) ≤ 2147483647; omega
    · show -2147483648 ≤ (M 64 t : Int) ∧ (M 64 t : Int) ≤ 2147483647; omega
    · show -2147483648 ≤ (r : Int) ∧ (r : Int) ≤ 2147483647; omega
    · show -2147483648 ≤ (M 63 t : Int) ∧ (M 63 t : Int) ≤ 2147483647; omega
  have hn : ∀ j : Int, 0 ≤ j → j ≤ 5 → (zU (zU (zU (zU (zU (zU M 58 13 d) 58 14 t) 58 15 m) 58 16 (M 64 t)) 58 17 r) 58 18 (M 63 t)) 58 (13 + j) = (znm d t m (M 64 t) r (M 63 t)) j := by
    intro j j0 j1
    rcases (show j = 0 ∨ j = 1 ∨ j = 2 ∨ j = 3 ∨ j = 4 ∨ j = 5 by omega) with rfl | rfl | rfl | rfl | rfl | rfl <;> simp [zU, znm]
  have e4 : (zU (zU (zU (zU (zU (zU M 58 13 d) 58 14 t) 58 15 m) 58 16 (M 64 t)) 58 17 r) 58 18 (M 63 t)) 58 4 = M 58 4 := fB _ _ (by unfold zNS; omega)
  have e60 : (zU (zU (zU (zU (zU (zU M 58 13 d) 58 14 t) 58 15 m) 58 16 (M 64 t)) 58 17 r) 58 18 (M 63 t)) 60 = M 60 := funext fun j => fB _ _ (by unfold zNS; omega)
  have e59 : (zU (zU (zU (zU (zU (zU M 58 13 d) 58 14 t) 58 15 m) 58 16 (M 64 t)) 58 17 r) 58 18 (M 63 t)) 59 = M 59 := funext fun j => fB _ _ (by unfold zNS; omega)
  refine zV_aload_n (pc := 87) (i := 0) dX10_says_87 rfl rfl ?_
  refine zV_aload_n (pc := 88) (i := 0) dX10_says_88 rfl rfl ?_
  refine zV_get (pc := 89) (j := 4) dX10_says_89 flX10_329 (zOb_of rfl) rfl e4 ?_
  refine zV_iload_n (pc := 92) (i := 1) dX10_says_92 rfl rfl ?_
  refine zV_ivs (pc := 93) (ci := 10) dX10_says_93 klX10_326 mX10_read ⟨by decide, rfl⟩ rfl ⟨Nat.zero_le _, Nat.zero_le _⟩ (kX10_read (t := M 58 4) (wh := 0) (z := z) (tp := tp) (hS.fr fB zNS_st) hU.1 (by decide) (by rw [e60]; exact hU.2.1) hU.2.2.2.1 (by rw [e59]; exact hU.2.2.1) hN hn) (zOb_of rfl) rfl rfl (Nat.le_of_ble_eq_true rfl) ?_
  rintro w9 N9 M1 ⟨rfl, f1, b1, -, v, rfl, r1, v1⟩
  have v2 := v1 hU.2.2.2.2
  refine zV_iconst (pc := 96) dX10_says_96 ?_
  refine zV_bipush (pc := 97) dX10_says_97 (by decide) ?_
  refine zV_isp (pc := 99) dX10_says_99 klX10_332 mX10_within rfl ⟨Nat.zero_le _, Nat.zero_le _⟩ (kX10_within r1) rfl rfl (Nat.le_of_ble_eq_true rfl) ?_
  refine zV_iret (pc := 102) dX10_says_102 trivial ⟨Nat.zero_le _, Nat.zero_le _⟩ ?_
  refine ⟨?_, rfl, fB.tr (f1.mono (fun a j y => zNR_S y))⟩
  rw [v2]
  rfl
set_option maxRecDepth 20000 in
set_option maxHeartbeats 2000000 in
theorem kX10_says1 (hS : zSt M) {tp : Int → Int} {z : Int} (hU : zMU M tp z) {t d m r : Int} (hd : -2147483648 ≤ d ∧ d ≤ 2147483647) (hm2 : -2147483648 ≤ m ∧ m ≤ 2147483647) (hr : -2147483648 ≤ r ∧ r ≤ 2147483647) : zK g yX10_says xX10_says [zr 58, zi 1, zi 0, zi d, zi m, zi r] 75 M (zPq (zi (ztt tp z 1 (znm d 0 m 0 r 0))) 75 (fun M1 => zFr zNS M M1)) := by
  refine zK_of (ls0 := [zr 58, zi 1, zi 0, zi d, zi m, zi r]) (by decide) rfl (by decide) rfl (Nat.le_of_ble_eq_true rfl) ?_
  refine zV_aload_n (pc := 0) (i := 0) dX10_says_0 rfl rfl ?_
  refine zV_iload_n (pc := 1) (i := 1) dX10_says_1 rfl rfl ?_
  refine zV_iconst (pc := 2) dX10_says_2 ?_
  refine zV_icmp_ne (pc := 3) (tgt := 10) dX10_says_3 (by decide) (by decide) (fun c_3 => ?_) (fun c_3 => absurd c_3 (by decide))
  refine zV_iload_n (pc := 10) (i := 3) dX10_says_10 rfl rfl ?_
  refine zV_put (pc := 11) (j := 13) dX10_says_11 flX10_183 rfl (zOb_of rfl) rfl trivial ?_
  refine zV_aload_n (pc := 14) (i := 0) dX10_says_14 rfl rfl ?_
  refine zV_iload_n (pc := 15) (i := 1) dX10_says_15 rfl rfl ?_
  refine zV_iconst (pc := 16) dX10_says_16 ?_
  refine zV_icmp_ne (pc := 17) (tgt := 24) dX10_says_17 (by decide) (by decide) (fun c_17 => absurd c_17 (by decide)) (fun c_17 => ?_)
  refine zV_iconst (pc := 20) dX10_says_20 ?_
  refine zV_goto (pc := 21) (tgt := 25) dX10_says_21 (by decide) ?_
  refine zV_put (pc := 25) (j := 14) dX10_says_25 flX10_186 rfl (zOb_of rfl) rfl trivial ?_
  refine zV_aload_n (pc := 28) (i := 0) dX10_says_28 rfl rfl ?_
  refine zV_iload_n (pc := 29) (i := 1) dX10_says_29 rfl rfl ?_
  refine zV_iconst (pc := 30) dX10_says_30 ?_
  refine zV_icmp_ne (pc := 31) (tgt := 38) dX10_says_31 (by decide) (by decide) (fun c_31 => ?_) (fun c_31 => absurd c_31 (by decide))
  refine zV_iload (pc := 38) dX10_says_38 rfl ?_
  refine zV_put (pc := 40) (j := 15) dX10_says_40 flX10_189 rfl (zOb_of rfl) rfl trivial ?_
  refine zV_aload_n (pc := 43) (i := 0) dX10_says_43 rfl rfl ?_
  refine zV_iload_n (pc := 44) (i := 1) dX10_says_44 rfl rfl ?_
  refine zV_iconst (pc := 45) dX10_says_45 ?_
  refine zV_icmp_ne (pc := 46) (tgt := 53) dX10_says_46 (by decide) (by decide) (fun c_46 => absurd c_46 (by decide)) (fun c_46 => ?_)
  refine zV_iconst (pc := 49) dX10_says_49 ?_
  refine zV_goto (pc := 50) (tgt := 59) dX10_says_50 (by decide) ?_
  refine zV_put (pc := 59) (j := 16) dX10_says_59 flX10_192 rfl (zOb_of rfl) rfl trivial ?_
  refine zV_aload_n (pc := 62) (i := 0) dX10_says_62 rfl rfl ?_
  refine zV_iload (pc := 63) dX10_says_63 rfl ?_
  refine zV_put (pc := 65) (j := 17) dX10_says_65 flX10_195 rfl (zOb_of rfl) rfl trivial ?_
  refine zV_aload_n (pc := 68) (i := 0) dX10_says_68 rfl rfl ?_
  refine zV_iload_n (pc := 69) (i := 1) dX10_says_69 rfl rfl ?_
  refine zV_iconst (pc := 70) dX10_says_70 ?_
  refine zV_icmp_ne (pc := 71) (tgt := 78) dX10_says_71 (by decide) (by decide) (fun c_71 => absurd c_71 (by decide)) (fun c_71 => ?_)
  refine zV_iconst (pc := 74) dX10_says_74 ?_
  refine zV_goto (pc := 75) (tgt := 84) dX10_says_75 (by decide) ?_
  refine zV_put (pc := 84) (j := 18) dX10_says_84 flX10_198 rfl (zOb_of rfl) rfl trivial ?_
  have fB : zFr zNS M (zU (zU (zU (zU (zU (zU M 58 13 d) 58 14 0) 58 15 m) 58 16 (0)) 58 17 r) 58 18 (0)) := ((((((zFr.rf.up (a := 58) (j := 13) ⟨rfl, by decide, by decide⟩).up (a := 58) (j := 14) ⟨rfl, by decide, by decide⟩).up (a := 58) (j := 15) ⟨rfl, by decide, by decide⟩).up (a := 58) (j := 16) ⟨rfl, by decide, by decide⟩).up (a := 58) (j := 17) ⟨rfl, by decide, by decide⟩).up (a := 58) (j := 18) ⟨rfl, by decide, by decide⟩)
  have hN : ∀ j : Int, 0 ≤ j → j ≤ 5 → -2147483648 ≤ (znm d 0 m 0 r 0) j ∧ (znm d 0 m 0 r 0) j ≤ 2147483647 := by
    intro j j0 j1
    rcases (show j = 0 ∨ j = 1 ∨ j = 2 ∨ j = 3 ∨ j = 4 ∨ j = 5 by omega) with rfl | rfl | rfl | rfl | rfl | rfl
    · show -2147483648 ≤ (d : Int) ∧ (d : Int) ≤ 2147483647; omega
    · show -2147483648 ≤ (0 : Int) ∧ (0 : Int) ≤ 2147483647; omega
    · show -2147483648 ≤ (m : Int) ∧ (m : Int) ≤ 2147483647; omega
    · show -2147483648 ≤ (0 : Int) ∧ (0 : Int) ≤ 2147483647; omega
    · show -2147483648 ≤ (r : Int) ∧ (r : Int) ≤ 2147483647; omega
    · show -2147483648 ≤ (0 : Int) ∧ (0 : Int) ≤ 2147483647; omega
  have hn : ∀ j : Int, 0 ≤ j → j ≤ 5 → (zU (zU (zU (zU (zU (zU M 58 13 d) 58 14 0) 58 15 m) 58 16 (0)) 58 17 r) 58 18 (0)) 58 (13 + j) = (znm d 0 m 0 r 0) j := by
    intro j j0 j1
    rcases (show j = 0 ∨ j = 1 ∨ j = 2 ∨ j = 3 ∨ j = 4 ∨ j = 5 by omega) with rfl | rfl | rfl | rfl | rfl | rfl <;> simp [zU, znm]
  have e4 : (zU (zU (zU (zU (zU (zU M 58 13 d) 58 14 0) 58 15 m) 58 16 (0)) 58 17 r) 58 18 (0)) 58 4 = M 58 4 := fB _ _ (by unfold zNS; omega)
  have e60 : (zU (zU (zU (zU (zU (zU M 58 13 d) 58 14 0) 58 15 m) 58 16 (0)) 58 17 r) 58 18 (0)) 60 = M 60 := funext fun j => fB _ _ (by unfold zNS; omega)
  have e59 : (zU (zU (zU (zU (zU (zU M 58 13 d) 58 14 0) 58 15 m) 58 16 (0)) 58 17 r) 58 18 (0)) 59 = M 59 := funext fun j => fB _ _ (by unfold zNS; omega)
  refine zV_aload_n (pc := 87) (i := 0) dX10_says_87 rfl rfl ?_
  refine zV_aload_n (pc := 88) (i := 0) dX10_says_88 rfl rfl ?_
  refine zV_get (pc := 89) (j := 4) dX10_says_89 flX10_329 (zOb_of rfl) rfl e4 ?_
  refine zV_iload_n (pc := 92) (i := 1) dX10_says_92 rfl rfl ?_
  refine zV_ivs (pc := 93) (ci := 10) dX10_says_93 klX10_326 mX10_read ⟨by decide, rfl⟩ rfl ⟨Nat.zero_le _, Nat.zero_le _⟩ (kX10_read (t := M 58 4) (wh := 1) (z := z) (tp := tp) (hS.fr fB zNS_st) hU.1 (by decide) (by rw [e60]; exact hU.2.1) hU.2.2.2.1 (by rw [e59]; exact hU.2.2.1) hN hn) (zOb_of rfl) rfl rfl (Nat.le_of_ble_eq_true rfl) ?_
  rintro w9 N9 M1 ⟨rfl, f1, b1, -, v, rfl, r1, v1⟩
  have v2 := v1 hU.2.2.2.2
  refine zV_iconst (pc := 96) dX10_says_96 ?_
  refine zV_bipush (pc := 97) dX10_says_97 (by decide) ?_
  refine zV_isp (pc := 99) dX10_says_99 klX10_332 mX10_within rfl ⟨Nat.zero_le _, Nat.zero_le _⟩ (kX10_within r1) rfl rfl (Nat.le_of_ble_eq_true rfl) ?_
  refine zV_iret (pc := 102) dX10_says_102 trivial ⟨Nat.zero_le _, Nat.zero_le _⟩ ?_
  refine ⟨?_, rfl, fB.tr (f1.mono (fun a j y => zNR_S y))⟩
  rw [v2]
  rfl
set_option maxRecDepth 20000 in
set_option maxHeartbeats 2000000 in
theorem kX10_says2 (hS : zSt M) {tp : Int → Int} {z : Int} (hU : zMU M tp z) {t d m r : Int} (ht : 0 ≤ t ∧ t < 6) (hm : 0 ≤ M 63 t ∧ M 63 t ≤ 9) (hp : 1 ≤ M 64 t ∧ M 64 t ≤ 60) (hd : -2147483648 ≤ d ∧ d ≤ 2147483647) (hm2 : -2147483648 ≤ m ∧ m ≤ 2147483647) (hr : -2147483648 ≤ r ∧ r ≤ 2147483647) : zK g yX10_says xX10_says [zr 58, zi 2, zi t, zi 0, zi 0, zi r] 75 M (zPq (zi (ztt tp z 2 (znm 0 t 0 (M 64 t) r (M 63 t)))) 75 (fun M1 => zFr zNS M M1)) := by
  refine zK_of (ls0 := [zr 58, zi 2, zi t, zi 0, zi 0, zi r]) (by decide) rfl (by decide) rfl (Nat.le_of_ble_eq_true rfl) ?_
  refine zV_aload_n (pc := 0) (i := 0) dX10_says_0 rfl rfl ?_
  refine zV_iload_n (pc := 1) (i := 1) dX10_says_1 rfl rfl ?_
  refine zV_iconst (pc := 2) dX10_says_2 ?_
  refine zV_icmp_ne (pc := 3) (tgt := 10) dX10_says_3 (by decide) (by decide) (fun c_3 => absurd c_3 (by decide)) (fun c_3 => ?_)
  refine zV_iconst (pc := 6) dX10_says_6 ?_
  refine zV_goto (pc := 7) (tgt := 11) dX10_says_7 (by decide) ?_
  refine zV_put (pc := 11) (j := 13) dX10_says_11 flX10_183 rfl (zOb_of rfl) rfl trivial ?_
  refine zV_aload_n (pc := 14) (i := 0) dX10_says_14 rfl rfl ?_
  refine zV_iload_n (pc := 15) (i := 1) dX10_says_15 rfl rfl ?_
  refine zV_iconst (pc := 16) dX10_says_16 ?_
  refine zV_icmp_ne (pc := 17) (tgt := 24) dX10_says_17 (by decide) (by decide) (fun c_17 => ?_) (fun c_17 => absurd c_17 (by decide))
  refine zV_iload_n (pc := 24) (i := 2) dX10_says_24 rfl rfl ?_
  refine zV_put (pc := 25) (j := 14) dX10_says_25 flX10_186 rfl (zOb_of rfl) rfl trivial ?_
  refine zV_aload_n (pc := 28) (i := 0) dX10_says_28 rfl rfl ?_
  refine zV_iload_n (pc := 29) (i := 1) dX10_says_29 rfl rfl ?_
  refine zV_iconst (pc := 30) dX10_says_30 ?_
  refine zV_icmp_ne (pc := 31) (tgt := 38) dX10_says_31 (by decide) (by decide) (fun c_31 => absurd c_31 (by decide)) (fun c_31 => ?_)
  refine zV_iconst (pc := 34) dX10_says_34 ?_
  refine zV_goto (pc := 35) (tgt := 40) dX10_says_35 (by decide) ?_
  refine zV_put (pc := 40) (j := 15) dX10_says_40 flX10_189 rfl (zOb_of rfl) rfl trivial ?_
  refine zV_aload_n (pc := 43) (i := 0) dX10_says_43 rfl rfl ?_
  refine zV_iload_n (pc := 44) (i := 1) dX10_says_44 rfl rfl ?_
  refine zV_iconst (pc := 45) dX10_says_45 ?_
  refine zV_icmp_ne (pc := 46) (tgt := 53) dX10_says_46 (by decide) (by decide) (fun c_46 => ?_) (fun c_46 => absurd c_46 (by decide))
  refine zV_aload_n (pc := 53) (i := 0) dX10_says_53 rfl rfl ?_
  refine zV_get (pc := 54) (j := 10) dX10_says_54 flX10_29 (zOb_of rfl) rfl ((zU_j _ _ _ _ (by decide)).trans ((zU_j _ _ _ _ (by decide)).trans ((zU_j _ _ _ _ (by decide)).trans hS.e58_10))) ?_
  refine zV_iload_n (pc := 57) (i := 2) dX10_says_57 rfl rfl ?_
  refine zV_iald (pc := 58) dX10_says_58 (zAr_of rfl : zAr 75 64 0 6) (by omega) ((zU_a _ _ _ _ (by decide)).trans ((zU_a _ _ _ _ (by decide)).trans (zU_a _ _ _ _ (by decide)))) ?_
  refine zV_put (pc := 59) (j := 16) dX10_says_59 flX10_192 rfl (zOb_of rfl) rfl trivial ?_
  refine zV_aload_n (pc := 62) (i := 0) dX10_says_62 rfl rfl ?_
  refine zV_iload (pc := 63) dX10_says_63 rfl ?_
  refine zV_put (pc := 65) (j := 17) dX10_says_65 flX10_195 rfl (zOb_of rfl) rfl trivial ?_
  refine zV_aload_n (pc := 68) (i := 0) dX10_says_68 rfl rfl ?_
  refine zV_iload_n (pc := 69) (i := 1) dX10_says_69 rfl rfl ?_
  refine zV_iconst (pc := 70) dX10_says_70 ?_
  refine zV_icmp_ne (pc := 71) (tgt := 78) dX10_says_71 (by decide) (by decide) (fun c_71 => ?_) (fun c_71 => absurd c_71 (by decide))
  refine zV_aload_n (pc := 78) (i := 0) dX10_says_78 rfl rfl ?_
  refine zV_get (pc := 79) (j := 9) dX10_says_79 flX10_26 (zOb_of rfl) rfl ((zU_j _ _ _ _ (by decide)).trans ((zU_j _ _ _ _ (by decide)).trans ((zU_j _ _ _ _ (by decide)).trans ((zU_j _ _ _ _ (by decide)).trans ((zU_j _ _ _ _ (by decide)).trans hS.e58_9))))) ?_
  refine zV_iload_n (pc := 82) (i := 2) dX10_says_82 rfl rfl ?_
  refine zV_iald (pc := 83) dX10_says_83 (zAr_of rfl : zAr 75 63 0 6) (by omega) ((zU_a _ _ _ _ (by decide)).trans ((zU_a _ _ _ _ (by decide)).trans ((zU_a _ _ _ _ (by decide)).trans ((zU_a _ _ _ _ (by decide)).trans (zU_a _ _ _ _ (by decide)))))) ?_
  refine zV_put (pc := 84) (j := 18) dX10_says_84 flX10_198 rfl (zOb_of rfl) rfl trivial ?_
  have fB : zFr zNS M (zU (zU (zU (zU (zU (zU M 58 13 0) 58 14 t) 58 15 0) 58 16 (M 64 t)) 58 17 r) 58 18 (M 63 t)) := ((((((zFr.rf.up (a := 58) (j := 13) ⟨rfl, by decide, by decide⟩).up (a := 58) (j := 14) ⟨rfl, by decide, by decide⟩).up (a := 58) (j := 15) ⟨rfl, by decide, by decide⟩).up (a := 58) (j := 16) ⟨rfl, by decide, by decide⟩).up (a := 58) (j := 17) ⟨rfl, by decide, by decide⟩).up (a := 58) (j := 18) ⟨rfl, by decide, by decide⟩)
  have hN : ∀ j : Int, 0 ≤ j → j ≤ 5 → -2147483648 ≤ (znm 0 t 0 (M 64 t) r (M 63 t)) j ∧ (znm 0 t 0 (M 64 t) r (M 63 t)) j ≤ 2147483647 := by
    intro j j0 j1
    rcases (show j = 0 ∨ j = 1 ∨ j = 2 ∨ j = 3 ∨ j = 4 ∨ j = 5 by omega) with rfl | rfl | rfl | rfl | rfl | rfl
    · show -2147483648 ≤ (0 : Int) ∧ (0 : Int) ≤ 2147483647; omega
    · show -2147483648 ≤ (t : Int) ∧ (t : Int) ≤ 2147483647; omega
    · show -2147483648 ≤ (0 : Int) ∧ (0 : Int) ≤ 2147483647; omega
    · show -2147483648 ≤ (M 64 t : Int) ∧ (M 64 t : Int) ≤ 2147483647; omega
    · show -2147483648 ≤ (r : Int) ∧ (r : Int) ≤ 2147483647; omega
    · show -2147483648 ≤ (M 63 t : Int) ∧ (M 63 t : Int) ≤ 2147483647; omega
  have hn : ∀ j : Int, 0 ≤ j → j ≤ 5 → (zU (zU (zU (zU (zU (zU M 58 13 0) 58 14 t) 58 15 0) 58 16 (M 64 t)) 58 17 r) 58 18 (M 63 t)) 58 (13 + j) = (znm 0 t 0 (M 64 t) r (M 63 t)) j := by
    intro j j0 j1
    rcases (show j = 0 ∨ j = 1 ∨ j = 2 ∨ j = 3 ∨ j = 4 ∨ j = 5 by omega) with rfl | rfl | rfl | rfl | rfl | rfl <;> simp [zU, znm]
  have e4 : (zU (zU (zU (zU (zU (zU M 58 13 0) 58 14 t) 58 15 0) 58 16 (M 64 t)) 58 17 r) 58 18 (M 63 t)) 58 4 = M 58 4 := fB _ _ (by unfold zNS; omega)
  have e60 : (zU (zU (zU (zU (zU (zU M 58 13 0) 58 14 t) 58 15 0) 58 16 (M 64 t)) 58 17 r) 58 18 (M 63 t)) 60 = M 60 := funext fun j => fB _ _ (by unfold zNS; omega)
  have e59 : (zU (zU (zU (zU (zU (zU M 58 13 0) 58 14 t) 58 15 0) 58 16 (M 64 t)) 58 17 r) 58 18 (M 63 t)) 59 = M 59 := funext fun j => fB _ _ (by unfold zNS; omega)
  refine zV_aload_n (pc := 87) (i := 0) dX10_says_87 rfl rfl ?_
  refine zV_aload_n (pc := 88) (i := 0) dX10_says_88 rfl rfl ?_
  refine zV_get (pc := 89) (j := 4) dX10_says_89 flX10_329 (zOb_of rfl) rfl e4 ?_
  refine zV_iload_n (pc := 92) (i := 1) dX10_says_92 rfl rfl ?_
  refine zV_ivs (pc := 93) (ci := 10) dX10_says_93 klX10_326 mX10_read ⟨by decide, rfl⟩ rfl ⟨Nat.zero_le _, Nat.zero_le _⟩ (kX10_read (t := M 58 4) (wh := 2) (z := z) (tp := tp) (hS.fr fB zNS_st) hU.1 (by decide) (by rw [e60]; exact hU.2.1) hU.2.2.2.1 (by rw [e59]; exact hU.2.2.1) hN hn) (zOb_of rfl) rfl rfl (Nat.le_of_ble_eq_true rfl) ?_
  rintro w9 N9 M1 ⟨rfl, f1, b1, -, v, rfl, r1, v1⟩
  have v2 := v1 hU.2.2.2.2
  refine zV_iconst (pc := 96) dX10_says_96 ?_
  refine zV_bipush (pc := 97) dX10_says_97 (by decide) ?_
  refine zV_isp (pc := 99) dX10_says_99 klX10_332 mX10_within rfl ⟨Nat.zero_le _, Nat.zero_le _⟩ (kX10_within r1) rfl rfl (Nat.le_of_ble_eq_true rfl) ?_
  refine zV_iret (pc := 102) dX10_says_102 trivial ⟨Nat.zero_le _, Nat.zero_le _⟩ ?_
  refine ⟨?_, rfl, fB.tr (f1.mono (fun a j y => zNR_S y))⟩
  rw [v2]
  rfl
def zTF2 (c a j : Int) : Prop := (a = 59 ∧ 160 * c ≤ j ∧ j < 160 * c + 160) ∨ (a = 60 ∧ j = c) ∨ (a = 58 ∧ j = 6) ∨ (a = 58 ∧ 19 ≤ j ∧ j ≤ 27)
theorem zTF2_st {c : Int} : ∀ q ∈ zstL, ¬ zTF2 c q.1 q.2.1 := by
  have h : ∀ q ∈ zstL, q.1 ≠ 59 ∧ q.1 ≠ 60 ∧ (q.1 = 58 → q.2.1 ≠ 6 ∧ ¬ (19 ≤ q.2.1 ∧ q.2.1 ≤ 27)) := by decide
  intro q hq y
  have := h q hq
  unfold zTF2 at y
  omega
def zNamR (M : zM) : Prop := ∀ j : Int, 0 ≤ j → j ≤ 5 → -2147483648 ≤ M 58 (13 + j) ∧ M 58 (13 + j) ≤ 2147483647
set_option maxRecDepth 20000 in
set_option maxHeartbeats 2000000 in
theorem kX10_txL (hS : zSt M) (hc : 1 ≤ M 58 3 ∧ M 58 3 < 6) {z : Int} (hz : M 58 6 = z) (hT : ztp (M 61) z) (hNR : zNamR M) : ∀ (k : Nat) (i : Int) (M1 : zM), i + k = z → 0 ≤ i → zFr (zTF2 (M 58 3)) M M1 → M1 58 6 = M 58 6 → (∀ j : Int, 0 ≤ j → j < i → M1 59 (160 * M 58 3 + j) = M 61 j) → zV g xX10_text (fun w N' M1 => N' = 75 ∧ ((M 58 3 = 6 ∧ w = some (zi (-4)) ∧ M1 = M) ∨ (M 58 3 < 6 ∧ M1 58 6 = 0 ∧ zpF (M 61) z ≠ -1 ∧ w = some (zi (-100 - zpF (M 61) z)) ∧ zFr (zTF2 (M 58 3)) M M1) ∨ (M 58 3 < 6 ∧ M1 58 6 = 0 ∧ zpF (M 61) z = -1 ∧ w = some (zi (M 58 3)) ∧ M1 58 3 = M 58 3 + 1 ∧ M1 60 (M 58 3) = z ∧ (∀ j : Int, 0 ≤ j → j < z → M1 59 (160 * M 58 3 + j) = M 61 j) ∧ zFr (fun a j => zTF2 (M 58 3) a j ∨ (a = 58 ∧ j = 3)) M M1))) 14 [zr 58, zi i] [] 75 M1 0 0 := by
  intro k
  induction k with
  | zero =>
    intro i M1 h0 h1 h2 h3 h4
    have hzz := hT.1
    have hS1 := hS.fr h2 zTF2_st
    have e3 : M1 58 3 = M 58 3 := h2 _ _ (by unfold zTF2; omega)
    have e6 : M1 58 6 = z := h3.trans hz
    refine zV_iload_n (pc := 14) (i := 1) dX10_text_14 rfl rfl ?_
    refine zV_aload_n (pc := 15) (i := 0) dX10_text_15 rfl rfl ?_
    refine zV_get (pc := 16) (j := 6) dX10_text_16 flX10_124 (zOb_of rfl) rfl e6 ?_
    refine zV_icmp_ge (pc := 19) (tgt := 49) dX10_text_19 (by decide) (by omega) (fun c_19 => ?_) (fun c_19 => absurd (by omega) c_19)
    refine zV_aload_n (pc := 49) (i := 0) dX10_text_49 rfl rfl ?_
    refine zV_get (pc := 50) (j := 2) dX10_text_50 flX10_17 (zOb_of rfl) rfl hS1.e58_2 ?_
    refine zV_aload_n (pc := 53) (i := 0) dX10_text_53 rfl rfl ?_
    refine zV_get (pc := 54) (j := 3) dX10_text_54 flX10_70 (zOb_of rfl) rfl e3 ?_
    refine zV_aload_n (pc := 57) (i := 0) dX10_text_57 rfl rfl ?_
    refine zV_get (pc := 58) (j := 6) dX10_text_58 flX10_124 (zOb_of rfl) rfl e6 ?_
    refine zV_iast (pc := 61) dX10_text_61 (zAr_of rfl : zAr 75 60 0 6) (by omega) ?_
    refine zV_aload_n (pc := 62) (i := 0) dX10_text_62 rfl rfl ?_
    refine zV_iconst (pc := 63) dX10_text_63 ?_
    refine zV_put (pc := 64) (j := 6) dX10_text_64 flX10_124 rfl (zOb_of rfl) rfl trivial ?_
    have fB : zFr (zTF2 (M 58 3)) M (zU (zU M1 60 (M 58 3) z) 58 6 0) := (h2.up (a := 60) (j := M 58 3) (Or.inr (Or.inl ⟨rfl, rfl⟩))).up (a := 58) (j := 6) (Or.inr (Or.inr (Or.inl ⟨rfl, rfl⟩)))
    have eT : ∀ j : Int, 0 ≤ j → j < z → (zU (zU M1 60 (M 58 3) z) 58 6 0) 59 (160 * M 58 3 + j) = M 61 j := fun j j0 j1 => (zU_a _ _ _ _ (by decide)).trans ((zU_a _ _ _ _ (by decide)).trans (h4 j j0 (by omega)))
    have e3b : (zU (zU M1 60 (M 58 3) z) 58 6 0) 58 3 = M 58 3 := fB _ _ (by unfold zTF2; omega)
    refine zV_aload_n (pc := 67) (i := 0) dX10_text_67 rfl rfl ?_
    refine zV_aload_n (pc := 68) (i := 0) dX10_text_68 rfl rfl ?_
    refine zV_get (pc := 69) (j := 3) dX10_text_69 flX10_70 (zOb_of rfl) rfl e3b ?_
    refine zV_iconst (pc := 72) dX10_text_72 ?_
    refine zV_ivs (pc := 73) (ci := 10) dX10_text_73 klX10_326 mX10_read ⟨by decide, rfl⟩ rfl ⟨Nat.zero_le _, Nat.zero_le _⟩ (kX10_read (t := M 58 3) (wh := 0) (z := z) (tp := M 61) (nm := fun j => M 58 (13 + j)) (hS.fr fB zTF2_st) (by omega) (by decide) ((zU_a _ _ _ _ (by decide)).trans (zU_s _ _ _ _)) hT eT hNR (fun j j0 j1 => fB _ _ (by unfold zTF2; omega))) (zOb_of rfl) rfl rfl (Nat.le_of_ble_eq_true rfl) ?_
    rintro w9 N9 M2 ⟨rfl, f1, b1, b2, v, rfl, r1, -⟩
    refine zV_istore_n (pc := 76) (i := 1) dX10_text_76 rfl rfl ?_
    try dsimp only [List.set_cons_succ, List.set_cons_zero]
    refine zV_aload_n (pc := 77) (i := 0) dX10_text_77 rfl rfl ?_
    refine zV_get (pc := 78) (j := 26) dX10_text_78 flX10_160 (zOb_of rfl) rfl b1 ?_
    refine zV_if_eqb (pc := 81) (tgt := 92) dX10_text_81 (by decide) (fun c_81 => ?_) (fun c_81 => ?_)
    · have e33 : M2 58 3 = M 58 3 := (f1 _ _ (by unfold zNR; omega)).trans e3b
      refine zV_aload_n (pc := 92) (i := 0) dX10_text_92 rfl rfl ?_
      refine zV_dup (pc := 93) dX10_text_93 (by simp) ?_
      refine zV_get (pc := 94) (j := 3) dX10_text_94 flX10_70 (zOb_of rfl) rfl e33 ?_
      refine zV_iconst (pc := 97) dX10_text_97 ?_
      refine zV_iadd (pc := 98) dX10_text_98 ?_
      refine zV_put (pc := 99) (j := 3) dX10_text_99 flX10_70 rfl (zOb_of rfl) rfl trivial ?_
      refine zV_aload_n (pc := 102) (i := 0) dX10_text_102 rfl rfl ?_
      refine zV_get (pc := 103) (j := 3) dX10_text_103 flX10_70 (zOb_of rfl) rfl (zU_s _ _ _ _) ?_
      refine zV_iconst (pc := 106) dX10_text_106 ?_
      refine zV_isub (pc := 107) dX10_text_107 ?_
      refine zV_iret (pc := 108) dX10_text_108 trivial ⟨Nat.zero_le _, Nat.zero_le _⟩ ?_
      first
        | (exact ⟨rfl, Or.inr (Or.inl ⟨by omega, (f1 _ _ (by unfold zNR; omega)).trans (zU_s _ _ _ _), c_81, by rw [e27], fB.tr (f1.mono (fun a j y => by unfold zNR at y; unfold zTF2; omega))⟩)⟩)
        | (refine ⟨rfl, Or.inr (Or.inr ⟨by omega, (zU_j _ _ _ _ (by decide)).trans ((f1 _ _ (by unfold zNR; omega)).trans (zU_s _ _ _ _)), Decidable.byContradiction c_81, congrArg (fun x => some (zi x)) (by omega), zU_s _ _ _ _, (zU_a _ _ _ _ (by decide)).trans ((f1 _ _ (by unfold zNR; omega)).trans ((zU_a _ _ _ _ (by decide)).trans (zU_s _ _ _ _))), fun j j0 j1 => (zU_a _ _ _ _ (by decide)).trans ((f1 _ _ (by unfold zNR; omega)).trans (eT j j0 j1)), ?_⟩)⟩
           exact (((fB.tr (f1.mono (fun a j y => by unfold zNR at y; unfold zTF2; omega))).mono (C' := fun a j => zTF2 (M 58 3) a j ∨ (a = 58 ∧ j = 3)) (fun a j y => Or.inl y)).up (Or.inr ⟨rfl, rfl⟩)))
    · have e27 := b2 c_81
      refine zV_bipush (pc := 84) dX10_text_84 (by decide) ?_
      refine zV_aload_n (pc := 86) (i := 0) dX10_text_86 rfl rfl ?_
      refine zV_get (pc := 87) (j := 27) dX10_text_87 flX10_164 (zOb_of rfl) rfl rfl ?_
      refine zV_isub (pc := 90) dX10_text_90 ?_
      refine zV_iret (pc := 91) dX10_text_91 trivial ⟨Nat.zero_le _, Nat.zero_le _⟩ ?_
      first
        | (exact ⟨rfl, Or.inr (Or.inl ⟨by omega, (f1 _ _ (by unfold zNR; omega)).trans (zU_s _ _ _ _), c_81, by rw [e27], fB.tr (f1.mono (fun a j y => by unfold zNR at y; unfold zTF2; omega))⟩)⟩)
        | (refine ⟨rfl, Or.inr (Or.inr ⟨by omega, (zU_j _ _ _ _ (by decide)).trans ((f1 _ _ (by unfold zNR; omega)).trans (zU_s _ _ _ _)), Decidable.byContradiction c_81, congrArg (fun x => some (zi x)) (by omega), zU_s _ _ _ _, (zU_a _ _ _ _ (by decide)).trans ((f1 _ _ (by unfold zNR; omega)).trans ((zU_a _ _ _ _ (by decide)).trans (zU_s _ _ _ _))), fun j j0 j1 => (zU_a _ _ _ _ (by decide)).trans ((f1 _ _ (by unfold zNR; omega)).trans (eT j j0 j1)), ?_⟩)⟩
           exact (((fB.tr (f1.mono (fun a j y => by unfold zNR at y; unfold zTF2; omega))).mono (C' := fun a j => zTF2 (M 58 3) a j ∨ (a = 58 ∧ j = 3)) (fun a j y => Or.inl y)).up (Or.inr ⟨rfl, rfl⟩)))
  | succ k ih =>
    intro i M1 h0 h1 h2 h3 h4
    have hzz := hT.1
    have hS1 := hS.fr h2 zTF2_st
    have e3 : M1 58 3 = M 58 3 := h2 _ _ (by unfold zTF2; omega)
    have e6 : M1 58 6 = z := h3.trans hz
    refine zV_iload_n (pc := 14) (i := 1) dX10_text_14 rfl rfl ?_
    refine zV_aload_n (pc := 15) (i := 0) dX10_text_15 rfl rfl ?_
    refine zV_get (pc := 16) (j := 6) dX10_text_16 flX10_124 (zOb_of rfl) rfl e6 ?_
    refine zV_icmp_ge (pc := 19) (tgt := 49) dX10_text_19 (by decide) (by omega) (fun c_19 => absurd c_19 (by omega)) (fun c_19 => ?_)
    refine zV_aload_n (pc := 22) (i := 0) dX10_text_22 rfl rfl ?_
    refine zV_get (pc := 23) (j := 1) dX10_text_23 flX10_13 (zOb_of rfl) rfl hS1.e58_1 ?_
    refine zV_sipush (pc := 26) dX10_text_26 (by decide) ?_
    refine zV_aload_n (pc := 29) (i := 0) dX10_text_29 rfl rfl ?_
    refine zV_get (pc := 30) (j := 3) dX10_text_30 flX10_70 (zOb_of rfl) rfl e3 ?_
    refine zV_imul (pc := 33) dX10_text_33 ?_
    refine zV_iload_n (pc := 34) (i := 1) dX10_text_34 rfl rfl ?_
    refine zV_iadd (pc := 35) dX10_text_35 ?_
    refine zV_aload_n (pc := 36) (i := 0) dX10_text_36 rfl rfl ?_
    refine zV_get (pc := 37) (j := 5) dX10_text_37 flX10_20 (zOb_of rfl) rfl hS1.e58_5 ?_
    refine zV_iload_n (pc := 40) (i := 1) dX10_text_40 rfl rfl ?_
    refine zV_iald (pc := 41) dX10_text_41 (zAr_of rfl : zAr 75 61 0 160) (by omega) (h2 _ _ (by unfold zTF2; omega)) ?_
    refine zV_iast (pc := 42) dX10_text_42 (zAr_of rfl : zAr 75 59 0 960) (by omega) ?_
    refine zV_iinc (pc := 43) dX10_text_43 rfl rfl ?_
    try dsimp only [List.set_cons_succ, List.set_cons_zero]
    refine zV_goto (pc := 46) (tgt := 14) dX10_text_46 (by decide) ?_
    refine ih (i + 1) _ (by omega) (by omega) (h2.up (Or.inl ⟨rfl, by omega, by omega⟩)) ((zU_a _ _ _ _ (by decide)).trans h3) (fun j j0 j1 => ?_)
    by_cases e : j = i
    · subst e
      exact zU_s _ _ _ _
    · exact (zU_j _ _ _ _ (by omega)).trans (h4 j j0 (by omega))
set_option maxRecDepth 20000 in
set_option maxHeartbeats 2000000 in
theorem kX10_text (hS : zSt M) (hc : 1 ≤ M 58 3 ∧ M 58 3 ≤ 6) {z : Int} (hz : M 58 6 = z) (hT : ztp (M 61) z) (hNR : zNamR M) : zK g yX10_text xX10_text [zr 58] 75 M (fun w N' M1 => N' = 75 ∧ ((M 58 3 = 6 ∧ w = some (zi (-4)) ∧ M1 = M) ∨ (M 58 3 < 6 ∧ M1 58 6 = 0 ∧ zpF (M 61) z ≠ -1 ∧ w = some (zi (-100 - zpF (M 61) z)) ∧ zFr (zTF2 (M 58 3)) M M1) ∨ (M 58 3 < 6 ∧ M1 58 6 = 0 ∧ zpF (M 61) z = -1 ∧ w = some (zi (M 58 3)) ∧ M1 58 3 = M 58 3 + 1 ∧ M1 60 (M 58 3) = z ∧ (∀ j : Int, 0 ≤ j → j < z → M1 59 (160 * M 58 3 + j) = M 61 j) ∧ zFr (fun a j => zTF2 (M 58 3) a j ∨ (a = 58 ∧ j = 3)) M M1))) := by
  refine zK_of (ls0 := [zr 58, (3, 0)]) (by decide) rfl (by decide) rfl (Nat.le_of_ble_eq_true rfl) ?_
  refine zV_aload_n (pc := 0) (i := 0) dX10_text_0 rfl rfl ?_
  refine zV_get (pc := 1) (j := 3) dX10_text_1 flX10_70 (zOb_of rfl) rfl rfl ?_
  refine zV_bipush (pc := 4) dX10_text_4 (by decide) ?_
  refine zV_icmp_ne (pc := 6) (tgt := 12) dX10_text_6 (by decide) (by omega) (fun c_6 => ?_) (fun c_6 => ?_)
  · refine zV_iconst (pc := 12) dX10_text_12 ?_
    refine zV_istore_n (pc := 13) (i := 1) dX10_text_13 rfl rfl ?_
    try dsimp only [List.set_cons_succ, List.set_cons_zero]
    exact kX10_txL hS (by omega) hz hT hNR z.toNat 0 M (by have := hT.1; omega) (by omega) zFr.rf rfl (fun j j0 j1 => absurd j0 (by omega))
  · refine zV_bipush (pc := 9) dX10_text_9 (by decide) ?_
    refine zV_iret (pc := 11) dX10_text_11 trivial ⟨Nat.zero_le _, Nat.zero_le _⟩ ?_
    exact ⟨rfl, Or.inl ⟨c_6, rfl, rfl⟩⟩
set_option maxRecDepth 20000 in
set_option maxHeartbeats 2000000 in
theorem kX10_feed (hS : zSt M) (hz : 0 ≤ M 58 6 ∧ M 58 6 ≤ 160) {x : Int} (hx : -2147483648 ≤ x ∧ x ≤ 2147483647) : zK g yX10_feed xX10_feed [zr 58, zi x] 75 M (fun w N' M1 => N' = 75 ∧ ((¬ (0 ≤ x ∧ x ≤ 255) ∧ w = some (zi (-2)) ∧ M1 = M) ∨ ((0 ≤ x ∧ x ≤ 255) ∧ M 58 6 = 160 ∧ w = some (zi (-4)) ∧ M1 = M) ∨ ((0 ≤ x ∧ x ≤ 255) ∧ M 58 6 < 160 ∧ w = some (zi (M 58 6 + 1)) ∧ M1 = zU (zU M 61 (M 58 6) x) 58 6 (M 58 6 + 1)))) := by
  refine zK_of (ls0 := [zr 58, zi x]) (by decide) rfl (by decide) rfl (Nat.le_of_ble_eq_true rfl) ?_
  refine zV_iload_n (pc := 0) (i := 1) dX10_feed_0 rfl rfl ?_
  refine zV_i2l (pc := 1) dX10_feed_1 (by omega) ?_
  refine zV_lconst0 (pc := 2) dX10_feed_2 ?_
  refine zV_ldc2 (pc := 3) dX10_feed_3 kiX10_122 ?_
  refine zV_isp (pc := 6) dX10_feed_6 klX10_76 mX10_in rfl ⟨Nat.zero_le _, Nat.zero_le _⟩ (kX10_in (by omega) (by omega) (by omega)) rfl rfl (Nat.le_of_ble_eq_true rfl) ?_
  refine zV_if_neb (pc := 9) (tgt := 15) dX10_feed_9 (by decide) (fun c_9 => ?_) (fun c_9 => ?_)
  · refine zV_aload_n (pc := 15) (i := 0) dX10_feed_15 rfl rfl ?_
    refine zV_get (pc := 16) (j := 6) dX10_feed_16 flX10_124 (zOb_of rfl) rfl rfl ?_
    refine zV_sipush (pc := 19) dX10_feed_19 (by decide) ?_
    refine zV_icmp_ne (pc := 22) (tgt := 28) dX10_feed_22 (by decide) (by omega) (fun c_22 => ?_) (fun c_22 => ?_)
    · refine zV_aload_n (pc := 28) (i := 0) dX10_feed_28 rfl rfl ?_
      refine zV_get (pc := 29) (j := 5) dX10_feed_29 flX10_20 (zOb_of rfl) rfl hS.e58_5 ?_
      refine zV_aload_n (pc := 32) (i := 0) dX10_feed_32 rfl rfl ?_
      refine zV_get (pc := 33) (j := 6) dX10_feed_33 flX10_124 (zOb_of rfl) rfl rfl ?_
      refine zV_iload_n (pc := 36) (i := 1) dX10_feed_36 rfl rfl ?_
      refine zV_iast (pc := 37) dX10_feed_37 (zAr_of rfl : zAr 75 61 0 160) (by omega) ?_
      refine zV_aload_n (pc := 38) (i := 0) dX10_feed_38 rfl rfl ?_
      refine zV_dup (pc := 39) dX10_feed_39 (by simp) ?_
      refine zV_get (pc := 40) (j := 6) dX10_feed_40 flX10_124 (zOb_of rfl) rfl (zU_a _ _ _ _ (by decide)) ?_
      refine zV_iconst (pc := 43) dX10_feed_43 ?_
      refine zV_iadd (pc := 44) dX10_feed_44 ?_
      refine zV_put (pc := 45) (j := 6) dX10_feed_45 flX10_124 rfl (zOb_of rfl) rfl trivial ?_
      refine zV_aload_n (pc := 48) (i := 0) dX10_feed_48 rfl rfl ?_
      refine zV_get (pc := 49) (j := 6) dX10_feed_49 flX10_124 (zOb_of rfl) rfl (zU_s _ _ _ _) ?_
      refine zV_iret (pc := 52) dX10_feed_52 trivial ⟨Nat.zero_le _, Nat.zero_le _⟩ ?_
      first
        | exact ⟨rfl, Or.inl ⟨c_9, rfl, rfl⟩⟩
        | exact ⟨rfl, Or.inr (Or.inl ⟨c_9, c_22, rfl, rfl⟩)⟩
        | exact ⟨rfl, Or.inr (Or.inr ⟨c_9, by omega, rfl, rfl⟩)⟩
    · refine zV_bipush (pc := 25) dX10_feed_25 (by decide) ?_
      refine zV_iret (pc := 27) dX10_feed_27 trivial ⟨Nat.zero_le _, Nat.zero_le _⟩ ?_
      first
        | exact ⟨rfl, Or.inl ⟨c_9, rfl, rfl⟩⟩
        | exact ⟨rfl, Or.inr (Or.inl ⟨c_9, c_22, rfl, rfl⟩)⟩
        | exact ⟨rfl, Or.inr (Or.inr ⟨c_9, by omega, rfl, rfl⟩)⟩
  · refine zV_bipush (pc := 12) dX10_feed_12 (by decide) ?_
    refine zV_iret (pc := 14) dX10_feed_14 trivial ⟨Nat.zero_le _, Nat.zero_le _⟩ ?_
    first
      | exact ⟨rfl, Or.inl ⟨c_9, rfl, rfl⟩⟩
      | exact ⟨rfl, Or.inr (Or.inl ⟨c_9, c_22, rfl, rfl⟩)⟩
      | exact ⟨rfl, Or.inr (Or.inr ⟨c_9, by omega, rfl, rfl⟩)⟩
end
