/-! THE CLASS: day, when, often, year, drawn (printed by wip/whole/p19.py) -/
/-- the class, as far as days go -/
def zRo (M : zM) : Prop := zSt M ∧ zWf M ∧ zRu M ∧ (0 ≤ M 1 2 ∧ M 1 2 ≤ 127)
theorem zRo.fr {M M1 : zM} (h : zRo M) (h1 : zFr zSc M M1) : zRo M1 ∧ M1 1 2 = M 1 2 := by
  have e : M1 1 2 = M 1 2 := h1 _ _ (by unfold zSc; omega)
  exact ⟨⟨h.1.fr h1 zSc_st, h.2.1.ag (zAg.of h1), (h.2.2.1.fr h1).1, by rw [e]; exact h.2.2.2⟩, e⟩
noncomputable def zyr (c f : Int → Int) (k : Int) : Int :=
  if k = 0 then zsum c 400 else if k = 1 then zsum (fun d => zb (1 ≤ zpc (f d))) 400 else if k = 2 then zsum (fun d => zb (2 ≤ zpc (f d))) 400
  else if k = 3 then (if zlf f 400 < 0 then 0 else zrf f (zlf f 400) (400 - zlf f 400).toNat) else if k = 4 then zlf f 400 else if k = 5 then zfw (zwk f) 56 else if k = 6 then zwk f (zfw (zwk f) 56) else if k = 7 then zdd c 400 else c (zdd c 400)
theorem zdd_lt (c : Int → Int) : ∀ k : Nat, 0 < k → zdd c k < k := by
  intro k
  induction k with
  | zero => intro h; omega
  | succ k ih =>
    intro _
    show (if zdm c k < c k then (k : Int) else zdd c k) < ((k + 1 : Nat) : Int)
    split
    · omega
    · by_cases h : 0 < k
      · have := ih h
        omega
      · have e : k = 0 := by omega
        subst e
        show (0 : Int) < _
        omega
theorem zyr_0 {c f : Int → Int} : zyr c f 0 = zsum c 400 := by
  unfold zyr
  rw [if_pos rfl]
theorem zyr_1 {c f : Int → Int} : zyr c f 1 = zsum (fun d => zb (1 ≤ zpc (f d))) 400 := by
  unfold zyr
  rw [if_neg (by decide), if_pos rfl]
theorem zyr_2 {c f : Int → Int} : zyr c f 2 = zsum (fun d => zb (2 ≤ zpc (f d))) 400 := by
  unfold zyr
  rw [if_neg (by decide), if_neg (by decide), if_pos rfl]
theorem zyr_3 {c f : Int → Int} : zyr c f 3 = (if zlf f 400 < 0 then 0 else zrf f (zlf f 400) (400 - zlf f 400).toNat) := by
  unfold zyr
  rw [if_neg (by decide), if_neg (by decide), if_neg (by decide), if_pos rfl]
theorem zyr_4 {c f : Int → Int} : zyr c f 4 = zlf f 400 := by
  unfold zyr
  rw [if_neg (by decide), if_neg (by decide), if_neg (by decide), if_neg (by decide), if_pos rfl]
theorem zyr_5 {c f : Int → Int} : zyr c f 5 = zfw (zwk f) 56 := by
  unfold zyr
  rw [if_neg (by decide), if_neg (by decide), if_neg (by decide), if_neg (by decide), if_neg (by decide), if_pos rfl]
theorem zyr_6 {c f : Int → Int} : zyr c f 6 = zwk f (zfw (zwk f) 56) := by
  unfold zyr
  rw [if_neg (by decide), if_neg (by decide), if_neg (by decide), if_neg (by decide), if_neg (by decide), if_neg (by decide), if_pos rfl]
theorem zyr_7 {c f : Int → Int} : zyr c f 7 = zdd c 400 := by
  unfold zyr
  rw [if_neg (by decide), if_neg (by decide), if_neg (by decide), if_neg (by decide), if_neg (by decide), if_neg (by decide), if_neg (by decide), if_pos rfl]
theorem zyr_8 {c f : Int → Int} : zyr c f 8 = c (zdd c 400) := by
  unfold zyr
  rw [if_neg (by decide), if_neg (by decide), if_neg (by decide), if_neg (by decide), if_neg (by decide), if_neg (by decide), if_neg (by decide), if_neg (by decide)]
/-- holidays that a seed draws -/
def zdh (s : Int) : Int := ((Int32.ofInt (s * 1103515245 + 12345)).toUInt32 >>> ((Int32.ofInt 9).toUInt32 &&& Int32.toUInt32 31)).toInt32.toInt % 128
theorem zdh_r0 (x : UInt32) : 0 ≤ (x >>> ((Int32.ofInt 9).toUInt32 &&& Int32.toUInt32 31)).toInt32.toInt ∧ (x >>> ((Int32.ofInt 9).toUInt32 &&& Int32.toUInt32 31)).toInt32.toInt ≤ 2147483647 := by
  have e9 : ((Int32.ofInt 9).toUInt32 &&& Int32.toUInt32 31) = 9 := by decide +kernel
  rw [e9]
  have h1 : (x >>> (9 : UInt32)).toNat = x.toNat >>> 9 := by
    rw [UInt32.toNat_shiftRight]
    rfl
  have h2 : x.toNat < 4294967296 := x.toBitVec.isLt
  have h3 : (x >>> (9 : UInt32)).toNat < 8388608 := by
    rw [h1, Nat.shiftRight_eq_div_pow]
    omega
  have h4 : (x >>> (9 : UInt32)).toInt32.toInt = ((x >>> (9 : UInt32)).toNat : Int) := by
    show (x >>> (9 : UInt32)).toBitVec.toInt = _
    rw [BitVec.toInt_eq_toNat_of_lt]
    · rfl
    · show 2 * (x >>> (9 : UInt32)).toNat < 2 ^ 32
      omega
  rw [h4]
  omega
theorem zdh_r (s : Int) : 0 ≤ zdh s ∧ zdh s ≤ 127 := by
  unfold zdh
  omega
section
variable {g : zG} {N : Nat} {M : zM}
set_option maxRecDepth 20000 in
set_option maxHeartbeats 2000000 in
theorem kX9_day (hR : zRo M) {d k : Int} (hd : -2147483648 ≤ d ∧ d ≤ 2147483647) (hk : -2147483648 ≤ k ∧ k ≤ 2147483647) : zK g yX9_day xX9_day [zr 0, zi d, zi k] 75 M (zPq (zi (zif ((0 ≤ d ∧ d ≤ 399) ∧ (0 ≤ k ∧ k ≤ 2)) (if k = 0 then zsn M (M 1 2) d else if k = 1 then zcs M (zsn M (M 1 2)) d else zb (zhd (M 1 2) d)) (-2))) 75 (fun M1 => zFr zSc M M1)) := by
  refine zK_of (ls0 := [zr 0, zi d, zi k]) (by decide) rfl (by decide) rfl (Nat.le_of_ble_eq_true rfl) ?_
  obtain ⟨hS, hW, hU, hh⟩ := id hR
  have hn := hW.1
  refine zV_iload_n (pc := 0) (i := 1) dX9_day_0 rfl rfl ?_
  refine zV_isp (pc := 1) dX9_day_1 klX9_132 mX9_isDay rfl ⟨Nat.zero_le _, Nat.zero_le _⟩ (kX9_isDay (by omega)) rfl rfl (Nat.le_of_ble_eq_true rfl) ?_
  refine zV_if_eqb (pc := 4) (tgt := 16) dX9_day_4 (by decide) (fun c_4 => ?_) (fun c_4 => ?_)
  · refine zV_bipush (pc := 16) dX9_day_16 (by decide) ?_
    refine zV_iret (pc := 18) dX9_day_18 trivial ⟨Nat.zero_le _, Nat.zero_le _⟩ ?_
    first
      | exact ⟨by rw [zif_f (fun q => c_4 q.1)], rfl, zFr.rf⟩
      | exact ⟨by rw [zif_f (fun q => c_13 q.2)], rfl, zFr.rf⟩
      | exact ⟨by rw [zif_t ⟨c_4, c_13⟩, if_pos c_20]; rfl, rfl, zFr.rf⟩
      | exact ⟨by rw [zif_t ⟨c_4, c_13⟩, if_neg (by omega), if_pos c_20, zcs_fr hW hU f1], rfl, f1.tr (q9.mono (fun _ _ => zSx_c))⟩
      | exact ⟨by rw [zif_t ⟨c_4, c_13⟩, if_neg (by omega), if_neg (by omega), zb_t c_98], rfl, zFr.rf⟩
      | exact ⟨by rw [zif_t ⟨c_4, c_13⟩, if_neg (by omega), if_neg (by omega), zb_f c_98], rfl, zFr.rf⟩
  · refine zV_iload_n (pc := 7) (i := 2) dX9_day_7 rfl rfl ?_
    refine zV_iconst (pc := 8) dX9_day_8 ?_
    refine zV_iconst (pc := 9) dX9_day_9 ?_
    refine zV_isp (pc := 10) dX9_day_10 klX9_119 mX9_within rfl ⟨Nat.zero_le _, Nat.zero_le _⟩ (kX9_within (by omega) (by omega) (by omega)) rfl rfl (Nat.le_of_ble_eq_true rfl) ?_
    refine zV_if_neb (pc := 13) (tgt := 19) dX9_day_13 (by decide) (fun c_13 => ?_) (fun c_13 => ?_)
    · refine zV_iload_n (pc := 19) (i := 2) dX9_day_19 rfl rfl ?_
      rcases (show k = 0 ∨ k = 1 ∨ k = 2  by omega) with c_20 | c_20 | c_20
      · refine zV_lsw (pc := 20) (tgt := 48) dX9_day_20 (by omega) rfl (by first | (rw [c_20]; done) | (rw [c_20]; rfl)) (by decide) ?_
        refine zV_aload_n (pc := 48) (i := 0) dX9_day_48 rfl rfl ?_
        refine zV_get (pc := 49) (j := 0) dX9_day_49 flX9_12 (zOb_of rfl) rfl hS.e0_0 ?_
        refine zV_iload_n (pc := 52) (i := 1) dX9_day_52 rfl rfl ?_
        refine zV_aload_n (pc := 53) (i := 0) dX9_day_53 rfl rfl ?_
        refine zV_get (pc := 54) (j := 0) dX9_day_54 flX9_12 (zOb_of rfl) rfl hS.e0_0 ?_
        refine zV_get (pc := 57) (j := 2) dX9_day_57 flX9_123 (zOb_of rfl) rfl rfl ?_
        refine zV_ivp (pc := 60) (ci := 5) dX9_day_60 klX9_135 mX5_comers ⟨by decide, rfl⟩ rfl ⟨Nat.zero_le _, Nat.zero_le _⟩ (kX5_comers hS hW (by omega) hh) (zOb_of rfl) rfl rfl (Nat.le_of_ble_eq_true rfl) ?_
        refine zV_iret (pc := 63) dX9_day_63 trivial ⟨Nat.zero_le _, Nat.zero_le _⟩ ?_
        first
          | exact ⟨by rw [zif_f (fun q => c_4 q.1)], rfl, zFr.rf⟩
          | exact ⟨by rw [zif_f (fun q => c_13 q.2)], rfl, zFr.rf⟩
          | exact ⟨by rw [zif_t ⟨c_4, c_13⟩, if_pos c_20]; rfl, rfl, zFr.rf⟩
          | exact ⟨by rw [zif_t ⟨c_4, c_13⟩, if_neg (by omega), if_pos c_20, zcs_fr hW hU f1], rfl, f1.tr (q9.mono (fun _ _ => zSx_c))⟩
          | exact ⟨by rw [zif_t ⟨c_4, c_13⟩, if_neg (by omega), if_neg (by omega), zb_t c_98], rfl, zFr.rf⟩
          | exact ⟨by rw [zif_t ⟨c_4, c_13⟩, if_neg (by omega), if_neg (by omega), zb_f c_98], rfl, zFr.rf⟩
      · refine zV_lsw (pc := 20) (tgt := 64) dX9_day_20 (by omega) rfl (by first | (rw [c_20]; done) | (rw [c_20]; rfl)) (by decide) ?_
        refine zV_aload_n (pc := 64) (i := 0) dX9_day_64 rfl rfl ?_
        refine zV_get (pc := 65) (j := 6) dX9_day_65 flX9_93 (zOb_of rfl) rfl hS.e0_6 ?_
        refine zV_aload_n (pc := 68) (i := 0) dX9_day_68 rfl rfl ?_
        refine zV_get (pc := 69) (j := 0) dX9_day_69 flX9_12 (zOb_of rfl) rfl hS.e0_0 ?_
        refine zV_get (pc := 72) (j := 2) dX9_day_72 flX9_123 (zOb_of rfl) rfl rfl ?_
        refine zV_ivn (pc := 75) (ci := 0) dX9_day_75 klX9_139 mX0_fill ⟨by decide, rfl⟩ rfl ⟨Nat.zero_le _, Nat.zero_le _⟩ (kX0_fill hS hW hh) (zOb_of rfl) rfl rfl (Nat.le_of_ble_eq_true rfl) (fun M1 q => ?_)
        obtain ⟨q1, q2, q3⟩ := q
        have f1 : zFr zSc M M1 := q3.mono (fun a j e => by unfold zSc; omega)
        have hR1 := (hR.fr f1).1
        have h6 : ∀ d : Int, 0 ≤ d → d < 400 → 0 ≤ zsn M (M 1 2) d ∧ zsn M (M 1 2) d < 64 := fun d _ _ => zsn_r hn _ d
        refine zV_aload_n (pc := 78) (i := 0) dX9_day_78 rfl rfl ?_
        refine zV_get (pc := 79) (j := 6) dX9_day_79 flX9_93 (zOb_of rfl) rfl hR1.1.e0_6 ?_
        refine zV_iload_n (pc := 82) (i := 1) dX9_day_82 rfl rfl ?_
        refine zV_ivq (pc := 83) (ci := 0) dX9_day_83 klX9_143 mX0_costsOf ⟨by decide, rfl⟩ rfl ⟨Nat.zero_le _, Nat.zero_le _⟩ (kX0_costsOf hR1.1 q2 h6 hR1.2.1 hR1.2.2.1 (by omega)) (zOb_of rfl) rfl rfl (Nat.le_of_ble_eq_true rfl) (fun M2 q9 => ?_)
        refine zV_iret (pc := 86) dX9_day_86 trivial ⟨Nat.zero_le _, Nat.zero_le _⟩ ?_
        first
          | exact ⟨by rw [zif_f (fun q => c_4 q.1)], rfl, zFr.rf⟩
          | exact ⟨by rw [zif_f (fun q => c_13 q.2)], rfl, zFr.rf⟩
          | exact ⟨by rw [zif_t ⟨c_4, c_13⟩, if_pos c_20]; rfl, rfl, zFr.rf⟩
          | exact ⟨by rw [zif_t ⟨c_4, c_13⟩, if_neg (by omega), if_pos c_20, zcs_fr hW hU f1], rfl, f1.tr (q9.mono (fun _ _ => zSx_c))⟩
          | exact ⟨by rw [zif_t ⟨c_4, c_13⟩, if_neg (by omega), if_neg (by omega), zb_t c_98], rfl, zFr.rf⟩
          | exact ⟨by rw [zif_t ⟨c_4, c_13⟩, if_neg (by omega), if_neg (by omega), zb_f c_98], rfl, zFr.rf⟩
      · refine zV_lsw (pc := 20) (tgt := 87) dX9_day_20 (by omega) rfl (by first | (rw [c_20]; done) | (rw [c_20]; rfl)) (by decide) ?_
        refine zV_iload_n (pc := 87) (i := 1) dX9_day_87 rfl rfl ?_
        refine zV_aload_n (pc := 88) (i := 0) dX9_day_88 rfl rfl ?_
        refine zV_get (pc := 89) (j := 0) dX9_day_89 flX9_12 (zOb_of rfl) rfl hS.e0_0 ?_
        refine zV_get (pc := 92) (j := 2) dX9_day_92 flX9_123 (zOb_of rfl) rfl rfl ?_
        refine zV_isp (pc := 95) dX9_day_95 klX9_146 mX9_isHoliday rfl ⟨Nat.zero_le _, Nat.zero_le _⟩ (kX9_isHoliday (by omega) hh) rfl rfl (Nat.le_of_ble_eq_true rfl) ?_
        refine zV_if_eqb (pc := 98) (tgt := 105) dX9_day_98 (by decide) (fun c_98 => ?_) (fun c_98 => ?_)
        · refine zV_iconst (pc := 105) dX9_day_105 ?_
          refine zV_iret (pc := 106) dX9_day_106 trivial ⟨Nat.zero_le _, Nat.zero_le _⟩ ?_
          first
            | exact ⟨by rw [zif_f (fun q => c_4 q.1)], rfl, zFr.rf⟩
            | exact ⟨by rw [zif_f (fun q => c_13 q.2)], rfl, zFr.rf⟩
            | exact ⟨by rw [zif_t ⟨c_4, c_13⟩, if_pos c_20]; rfl, rfl, zFr.rf⟩
            | exact ⟨by rw [zif_t ⟨c_4, c_13⟩, if_neg (by omega), if_pos c_20, zcs_fr hW hU f1], rfl, f1.tr (q9.mono (fun _ _ => zSx_c))⟩
            | exact ⟨by rw [zif_t ⟨c_4, c_13⟩, if_neg (by omega), if_neg (by omega), zb_t c_98], rfl, zFr.rf⟩
            | exact ⟨by rw [zif_t ⟨c_4, c_13⟩, if_neg (by omega), if_neg (by omega), zb_f c_98], rfl, zFr.rf⟩
        · refine zV_iconst (pc := 101) dX9_day_101 ?_
          refine zV_goto (pc := 102) (tgt := 106) dX9_day_102 (by decide) ?_
          refine zV_iret (pc := 106) dX9_day_106 trivial ⟨Nat.zero_le _, Nat.zero_le _⟩ ?_
          first
            | exact ⟨by rw [zif_f (fun q => c_4 q.1)], rfl, zFr.rf⟩
            | exact ⟨by rw [zif_f (fun q => c_13 q.2)], rfl, zFr.rf⟩
            | exact ⟨by rw [zif_t ⟨c_4, c_13⟩, if_pos c_20]; rfl, rfl, zFr.rf⟩
            | exact ⟨by rw [zif_t ⟨c_4, c_13⟩, if_neg (by omega), if_pos c_20, zcs_fr hW hU f1], rfl, f1.tr (q9.mono (fun _ _ => zSx_c))⟩
            | exact ⟨by rw [zif_t ⟨c_4, c_13⟩, if_neg (by omega), if_neg (by omega), zb_t c_98], rfl, zFr.rf⟩
            | exact ⟨by rw [zif_t ⟨c_4, c_13⟩, if_neg (by omega), if_neg (by omega), zb_f c_98], rfl, zFr.rf⟩
    · refine zV_bipush (pc := 16) dX9_day_16 (by decide) ?_
      refine zV_iret (pc := 18) dX9_day_18 trivial ⟨Nat.zero_le _, Nat.zero_le _⟩ ?_
      first
        | exact ⟨by rw [zif_f (fun q => c_4 q.1)], rfl, zFr.rf⟩
        | exact ⟨by rw [zif_f (fun q => c_13 q.2)], rfl, zFr.rf⟩
        | exact ⟨by rw [zif_t ⟨c_4, c_13⟩, if_pos c_20]; rfl, rfl, zFr.rf⟩
        | exact ⟨by rw [zif_t ⟨c_4, c_13⟩, if_neg (by omega), if_pos c_20, zcs_fr hW hU f1], rfl, f1.tr (q9.mono (fun _ _ => zSx_c))⟩
        | exact ⟨by rw [zif_t ⟨c_4, c_13⟩, if_neg (by omega), if_neg (by omega), zb_t c_98], rfl, zFr.rf⟩
        | exact ⟨by rw [zif_t ⟨c_4, c_13⟩, if_neg (by omega), if_neg (by omega), zb_f c_98], rfl, zFr.rf⟩
set_option maxRecDepth 20000 in
set_option maxHeartbeats 2000000 in
theorem kX9_ncL (hR : zRo M) {t a : Int} (ht : 0 ≤ t ∧ t < M 1 1) (ha : 0 ≤ a ∧ a ≤ 400) : ∀ (k : Nat) (d : Int), d + k = 400 → 0 ≤ d → zfst (fun d => zct (zTc M) (M 1 2) d t) a (400 - a).toNat = zfst (fun d => zct (zTc M) (M 1 2) d t) d k → zV g xX9_nextComing (zPp (zi (zfst (fun d => zct (zTc M) (M 1 2) d t) a (400 - a).toNat)) 75 M) 2 [zr 0, zr (3 + t), zi a, zi d] [] 75 M 0 0 := by
  intro k
  induction k with
  | zero =>
    intro d h0 h1 h2
    obtain ⟨hS, hW, hU, hh⟩ := id hR
    have hn := hW.1
    refine zV_iload_n (pc := 2) (i := 3) dX9_nextComing_2 rfl rfl ?_
    refine zV_sipush (pc := 3) dX9_nextComing_3 (by decide) ?_
    refine zV_icmp_ge (pc := 6) (tgt := 32) dX9_nextComing_6 (by decide) (by omega) (fun c_6 => ?_) (fun c_6 => absurd (by omega) c_6)
    refine zV_iconst (pc := 32) dX9_nextComing_32 ?_
    refine zV_iret (pc := 33) dX9_nextComing_33 trivial ⟨Nat.zero_le _, Nat.zero_le _⟩ ?_
    exact zPe (by rw [h2]; rfl)
  | succ k ih =>
    intro d h0 h1 h2
    obtain ⟨hS, hW, hU, hh⟩ := id hR
    have hn := hW.1
    refine zV_iload_n (pc := 2) (i := 3) dX9_nextComing_2 rfl rfl ?_
    refine zV_sipush (pc := 3) dX9_nextComing_3 (by decide) ?_
    refine zV_icmp_ge (pc := 6) (tgt := 32) dX9_nextComing_6 (by decide) (by omega) (fun c_6 => absurd c_6 (by omega)) (fun c_6 => ?_)
    refine zV_aload_n (pc := 9) (i := 1) dX9_nextComing_9 rfl rfl ?_
    refine zV_iload_n (pc := 10) (i := 3) dX9_nextComing_10 rfl rfl ?_
    refine zV_aload_n (pc := 11) (i := 0) dX9_nextComing_11 rfl rfl ?_
    refine zV_get (pc := 12) (j := 0) dX9_nextComing_12 flX9_12 (zOb_of rfl) rfl hS.e0_0 ?_
    refine zV_get (pc := 15) (j := 2) dX9_nextComing_15 flX9_123 (zOb_of rfl) rfl rfl ?_
    refine zV_ivp (pc := 18) (ci := 8) dX9_nextComing_18 klX9_153 mX8_comes ⟨by decide, rfl⟩ rfl ⟨Nat.zero_le _, Nat.zero_le _⟩ (kX8_comes (zOb_th (by omega)) (hW.2 t (by omega) (by omega)).1 (hW.2 t (by omega) (by omega)).2.1 (hW.2 t (by omega) (by omega)).2.2.1 (hW.2 t (by omega) (by omega)).2.2.2 (by omega) hh) (zOb_th (by omega)) rfl rfl (Nat.le_of_ble_eq_true rfl) ?_
    refine zV_if_eqb (pc := 21) (tgt := 26) dX9_nextComing_21 (by decide) (fun c_21 => ?_) (fun c_21 => ?_)
    · refine zV_iinc (pc := 26) dX9_nextComing_26 rfl rfl ?_
      try dsimp only [List.set_cons_succ, List.set_cons_zero]
      refine zV_goto (pc := 29) (tgt := 2) dX9_nextComing_29 (by decide) ?_
      exact ih (d + 1) (by omega) (by omega) (by rw [h2]; exact zfst_f (q := fun d => zct (zTc M) (M 1 2) d t) c_21)
    · refine zV_iload_n (pc := 24) (i := 3) dX9_nextComing_24 rfl rfl ?_
      refine zV_iret (pc := 25) dX9_nextComing_25 trivial ⟨Nat.zero_le _, Nat.zero_le _⟩ ?_
      exact zPe (by rw [h2]; exact (zfst_t (q := fun d => zct (zTc M) (M 1 2) d t) c_21).symm)
set_option maxRecDepth 20000 in
set_option maxHeartbeats 2000000 in
theorem kX9_nextComing (hR : zRo M) {t a : Int} (ht : 0 ≤ t ∧ t < M 1 1) (ha : 0 ≤ a ∧ a ≤ 400) : zK g yX9_nextComing xX9_nextComing [zr 0, zr (3 + t), zi a] 75 M (zPp (zi (zfst (fun d => zct (zTc M) (M 1 2) d t) a (400 - a).toNat)) 75 M) := by
  refine zK_of (ls0 := [zr 0, zr (3 + t), zi a, (3, 0)]) (by decide) rfl (by decide) rfl (Nat.le_of_ble_eq_true rfl) ?_
  obtain ⟨hS, hW, hU, hh⟩ := id hR
  have hn := hW.1
  refine zV_iload_n (pc := 0) (i := 2) dX9_nextComing_0 rfl rfl ?_
  refine zV_istore_n (pc := 1) (i := 3) dX9_nextComing_1 rfl rfl ?_
  try dsimp only [List.set_cons_succ, List.set_cons_zero]
  exact kX9_ncL hR ht ha (400 - a).toNat a (by omega) (by omega) rfl
set_option maxRecDepth 20000 in
set_option maxHeartbeats 2000000 in
theorem kX9_when (hR : zRo M) {t a : Int} (ht : -2147483648 ≤ t ∧ t ≤ 2147483647) (ha : -2147483648 ≤ a ∧ a ≤ 2147483647) : zK g yX9_when xX9_when [zr 0, zi t, zi a] 75 M (zPp (zi (zif ((0 ≤ t ∧ t < M 1 1) ∧ (0 ≤ a ∧ a ≤ 399)) (zfst (fun d => zct (zTc M) (M 1 2) d t) a (400 - a).toNat) (-2))) 75 M) := by
  refine zK_of (ls0 := [zr 0, zi t, zi a]) (by decide) rfl (by decide) rfl (Nat.le_of_ble_eq_true rfl) ?_
  obtain ⟨hS, hW, hU, hh⟩ := id hR
  have hn := hW.1
  refine zV_aload_n (pc := 0) (i := 0) dX9_when_0 rfl rfl ?_
  refine zV_get (pc := 1) (j := 0) dX9_when_1 flX9_12 (zOb_of rfl) rfl hS.e0_0 ?_
  refine zV_iload_n (pc := 4) (i := 1) dX9_when_4 rfl rfl ?_
  refine zV_ivp (pc := 5) (ci := 5) dX9_when_5 klX9_100 mX5_has ⟨by decide, rfl⟩ rfl ⟨Nat.zero_le _, Nat.zero_le _⟩ (kX5_has hS hn (by omega)) (zOb_of rfl) rfl rfl (Nat.le_of_ble_eq_true rfl) ?_
  refine zV_if_eqb (pc := 8) (tgt := 18) dX9_when_8 (by decide) (fun c_8 => ?_) (fun c_8 => ?_)
  · refine zV_bipush (pc := 18) dX9_when_18 (by decide) ?_
    refine zV_iret (pc := 20) dX9_when_20 trivial ⟨Nat.zero_le _, Nat.zero_le _⟩ ?_
    first
      | exact zPe (zif_t ⟨c_8, c_15⟩).symm
      | exact zPe (zif_f (fun q => c_8 q.1)).symm
      | exact zPe (zif_f (fun q => c_15 q.2)).symm
  · refine zV_iload_n (pc := 11) (i := 2) dX9_when_11 rfl rfl ?_
    refine zV_isp (pc := 12) dX9_when_12 klX9_132 mX9_isDay rfl ⟨Nat.zero_le _, Nat.zero_le _⟩ (kX9_isDay (by omega)) rfl rfl (Nat.le_of_ble_eq_true rfl) ?_
    refine zV_if_neb (pc := 15) (tgt := 21) dX9_when_15 (by decide) (fun c_15 => ?_) (fun c_15 => ?_)
    · refine zV_aload_n (pc := 21) (i := 0) dX9_when_21 rfl rfl ?_
      refine zV_aload_n (pc := 22) (i := 0) dX9_when_22 rfl rfl ?_
      refine zV_get (pc := 23) (j := 0) dX9_when_23 flX9_12 (zOb_of rfl) rfl hS.e0_0 ?_
      refine zV_get (pc := 26) (j := 0) dX9_when_26 flX9_108 (zOb_of rfl) rfl hS.e1_0 ?_
      refine zV_iload_n (pc := 29) (i := 1) dX9_when_29 rfl rfl ?_
      refine zV_aald (pc := 30) dX9_when_30 (zAr_of rfl : zAr 75 2 2 6) ⟨rfl, rfl⟩ (by omega) (hS.th (by omega)) ?_
      refine zV_iload_n (pc := 31) (i := 2) dX9_when_31 rfl rfl ?_
      refine zV_ivp (pc := 32) (ci := 9) dX9_when_32 klX9_149 mX9_nextComing ⟨by decide, rfl⟩ rfl ⟨Nat.zero_le _, Nat.zero_le _⟩ (kX9_nextComing hR c_8 (by omega)) (zOb_of rfl) rfl rfl (Nat.le_of_ble_eq_true rfl) ?_
      refine zV_iret (pc := 35) dX9_when_35 trivial ⟨Nat.zero_le _, Nat.zero_le _⟩ ?_
      first
        | exact zPe (zif_t ⟨c_8, c_15⟩).symm
        | exact zPe (zif_f (fun q => c_8 q.1)).symm
        | exact zPe (zif_f (fun q => c_15 q.2)).symm
    · refine zV_bipush (pc := 18) dX9_when_18 (by decide) ?_
      refine zV_iret (pc := 20) dX9_when_20 trivial ⟨Nat.zero_le _, Nat.zero_le _⟩ ?_
      first
        | exact zPe (zif_t ⟨c_8, c_15⟩).symm
        | exact zPe (zif_f (fun q => c_8 q.1)).symm
        | exact zPe (zif_f (fun q => c_15 q.2)).symm
set_option maxRecDepth 20000 in
set_option maxHeartbeats 2000000 in
theorem kX9_oftL (hR : zRo M) {t m : Int} (ht : 0 ≤ t ∧ t < M 1 1) (hm : 0 ≤ m ∧ m ≤ 400) {z9 : Int} (hz : z9 = zsum (fun d => zb (zct (zTc M) (M 1 2) d t)) m.toNat) : ∀ (k : Nat) (d c : Int), d + k = m → 0 ≤ d → c = zsum (fun d => zb (zct (zTc M) (M 1 2) d t)) d.toNat → zV g xX9_often (zPp (zi z9) 75 M) 30 [zr 0, zi t, zi m, zi c, zi d] [] 75 M 0 0 := by
  intro k
  induction k with
  | zero =>
    intro d c h0 h1 h2
    obtain ⟨hS, hW, hU, hh⟩ := id hR
    have hn := hW.1
    refine zV_iload (pc := 30) dX9_often_30 rfl ?_
    refine zV_iload_n (pc := 32) (i := 2) dX9_often_32 rfl rfl ?_
    refine zV_icmp_ge (pc := 33) (tgt := 69) dX9_often_33 (by decide) (by omega) (fun c_33 => ?_) (fun c_33 => absurd (by omega) c_33)
    refine zV_iload_n (pc := 69) (i := 3) dX9_often_69 rfl rfl ?_
    refine zV_iret (pc := 70) dX9_often_70 trivial ⟨Nat.zero_le _, Nat.zero_le _⟩ ?_
    rw [show d = m by omega] at h2
    exact zPe (by rw [h2, hz])
  | succ k ih =>
    intro d c h0 h1 h2
    obtain ⟨hS, hW, hU, hh⟩ := id hR
    have hn := hW.1
    refine zV_iload (pc := 30) dX9_often_30 rfl ?_
    refine zV_iload_n (pc := 32) (i := 2) dX9_often_32 rfl rfl ?_
    refine zV_icmp_ge (pc := 33) (tgt := 69) dX9_often_33 (by decide) (by omega) (fun c_33 => absurd c_33 (by omega)) (fun c_33 => ?_)
    refine zV_aload_n (pc := 36) (i := 0) dX9_often_36 rfl rfl ?_
    refine zV_get (pc := 37) (j := 0) dX9_often_37 flX9_12 (zOb_of rfl) rfl hS.e0_0 ?_
    refine zV_get (pc := 40) (j := 0) dX9_often_40 flX9_108 (zOb_of rfl) rfl hS.e1_0 ?_
    refine zV_iload_n (pc := 43) (i := 1) dX9_often_43 rfl rfl ?_
    refine zV_aald (pc := 44) dX9_often_44 (zAr_of rfl : zAr 75 2 2 6) ⟨rfl, rfl⟩ (by omega) (hS.th (by omega)) ?_
    refine zV_iload (pc := 45) dX9_often_45 rfl ?_
    refine zV_aload_n (pc := 47) (i := 0) dX9_often_47 rfl rfl ?_
    refine zV_get (pc := 48) (j := 0) dX9_often_48 flX9_12 (zOb_of rfl) rfl hS.e0_0 ?_
    refine zV_get (pc := 51) (j := 2) dX9_often_51 flX9_123 (zOb_of rfl) rfl rfl ?_
    refine zV_ivp (pc := 54) (ci := 8) dX9_often_54 klX9_153 mX8_comes ⟨by decide, rfl⟩ rfl ⟨Nat.zero_le _, Nat.zero_le _⟩ (kX8_comes (zOb_th (by omega)) (hW.2 t (by omega) (by omega)).1 (hW.2 t (by omega) (by omega)).2.1 (hW.2 t (by omega) (by omega)).2.2.1 (hW.2 t (by omega) (by omega)).2.2.2 (by omega) hh) (zOb_th (by omega)) rfl rfl (Nat.le_of_ble_eq_true rfl) ?_
    refine zV_if_eqb (pc := 57) (tgt := 63) dX9_often_57 (by decide) (fun c_57 => ?_) (fun c_57 => ?_)
    · refine zV_iinc (pc := 63) dX9_often_63 rfl rfl ?_
      refine zV_goto (pc := 66) (tgt := 30) dX9_often_66 (by decide) ?_
      first
        | exact ih (d + 1) _ (by omega) (by omega) (by rw [h2, zsum_n (by omega)]; exact congrArg (fun x => zsum (fun d => zb (zct (zTc M) (M 1 2) d t)) d.toNat + x) (zb_t (q := zct (zTc M) (M 1 2) d t) c_57).symm)
        | exact ih (d + 1) _ (by omega) (by omega) (by rw [h2, zsum_n (by omega), zb_f (q := zct (zTc M) (M 1 2) d t) c_57, Int.add_zero])
    · refine zV_iinc (pc := 60) dX9_often_60 rfl rfl ?_
      try dsimp only [List.set_cons_succ, List.set_cons_zero]
      refine zV_iinc (pc := 63) dX9_often_63 rfl rfl ?_
      refine zV_goto (pc := 66) (tgt := 30) dX9_often_66 (by decide) ?_
      first
        | exact ih (d + 1) _ (by omega) (by omega) (by rw [h2, zsum_n (by omega)]; exact congrArg (fun x => zsum (fun d => zb (zct (zTc M) (M 1 2) d t)) d.toNat + x) (zb_t (q := zct (zTc M) (M 1 2) d t) c_57).symm)
        | exact ih (d + 1) _ (by omega) (by omega) (by rw [h2, zsum_n (by omega), zb_f (q := zct (zTc M) (M 1 2) d t) c_57, Int.add_zero])
set_option maxRecDepth 20000 in
set_option maxHeartbeats 2000000 in
theorem kX9_often (hR : zRo M) {t m : Int} (ht : -2147483648 ≤ t ∧ t ≤ 2147483647) (hm : -2147483648 ≤ m ∧ m ≤ 2147483647) : zK g yX9_often xX9_often [zr 0, zi t, zi m] 75 M (zPp (zi (zif ((0 ≤ t ∧ t < M 1 1) ∧ (0 ≤ m ∧ m ≤ 400)) (zsum (fun d => zb (zct (zTc M) (M 1 2) d t)) m.toNat) (-2))) 75 M) := by
  refine zK_of (ls0 := [zr 0, zi t, zi m, (3, 0), (3, 0)]) (by decide) rfl (by decide) rfl (Nat.le_of_ble_eq_true rfl) ?_
  obtain ⟨hS, hW, hU, hh⟩ := id hR
  have hn := hW.1
  refine zV_aload_n (pc := 0) (i := 0) dX9_often_0 rfl rfl ?_
  refine zV_get (pc := 1) (j := 0) dX9_often_1 flX9_12 (zOb_of rfl) rfl hS.e0_0 ?_
  refine zV_iload_n (pc := 4) (i := 1) dX9_often_4 rfl rfl ?_
  refine zV_ivp (pc := 5) (ci := 5) dX9_often_5 klX9_100 mX5_has ⟨by decide, rfl⟩ rfl ⟨Nat.zero_le _, Nat.zero_le _⟩ (kX5_has hS hn (by omega)) (zOb_of rfl) rfl rfl (Nat.le_of_ble_eq_true rfl) ?_
  refine zV_if_eqb (pc := 8) (tgt := 22) dX9_often_8 (by decide) (fun c_8 => ?_) (fun c_8 => ?_)
  · refine zV_bipush (pc := 22) dX9_often_22 (by decide) ?_
    refine zV_iret (pc := 24) dX9_often_24 trivial ⟨Nat.zero_le _, Nat.zero_le _⟩ ?_
    first
      | exact zPe (zif_f (fun q => c_8 q.1)).symm
      | exact zPe (zif_f (fun q => c_19 q.2)).symm
  · refine zV_iload_n (pc := 11) (i := 2) dX9_often_11 rfl rfl ?_
    refine zV_iconst (pc := 12) dX9_often_12 ?_
    refine zV_sipush (pc := 13) dX9_often_13 (by decide) ?_
    refine zV_isp (pc := 16) dX9_often_16 klX9_119 mX9_within rfl ⟨Nat.zero_le _, Nat.zero_le _⟩ (kX9_within (by omega) (by omega) (by omega)) rfl rfl (Nat.le_of_ble_eq_true rfl) ?_
    refine zV_if_neb (pc := 19) (tgt := 25) dX9_often_19 (by decide) (fun c_19 => ?_) (fun c_19 => ?_)
    · refine zV_iconst (pc := 25) dX9_often_25 ?_
      refine zV_istore_n (pc := 26) (i := 3) dX9_often_26 rfl rfl ?_
      try dsimp only [List.set_cons_succ, List.set_cons_zero]
      refine zV_iconst (pc := 27) dX9_often_27 ?_
      refine zV_istore (pc := 28) dX9_often_28 rfl ?_
      try dsimp only [List.set_cons_succ, List.set_cons_zero]
      exact kX9_oftL hR c_8 c_19 (zif_t ⟨c_8, c_19⟩) m.toNat 0 0 (by omega) (by omega) rfl
    · refine zV_bipush (pc := 22) dX9_often_22 (by decide) ?_
      refine zV_iret (pc := 24) dX9_often_24 trivial ⟨Nat.zero_le _, Nat.zero_le _⟩ ?_
      first
        | exact zPe (zif_f (fun q => c_8 q.1)).symm
        | exact zPe (zif_f (fun q => c_19 q.2)).symm
set_option maxRecDepth 20000 in
set_option maxHeartbeats 2000000 in
theorem kX9_drawnHolidays {s : Int} : zK g yX9_drawnHolidays xX9_drawnHolidays [zi s] N M (zPp (zi (zdh s)) N M) := by
  refine zK_of (ls0 := [zi s, (3, 0)]) (by decide) rfl (by decide) rfl (Nat.le_of_ble_eq_true rfl) ?_
  refine zV_iload_n (pc := 0) (i := 0) dX9_drawnHolidays_0 rfl rfl ?_
  refine zV_ldcw (pc := 1) dX9_drawnHolidays_1 kiX9_273 ?_
  refine zV_imul (pc := 4) dX9_drawnHolidays_4 ?_
  refine zV_sipush (pc := 5) dX9_drawnHolidays_5 (by decide) ?_
  refine zV_iadd (pc := 8) dX9_drawnHolidays_8 ?_
  refine zV_istore_n (pc := 9) (i := 1) dX9_drawnHolidays_9 rfl rfl ?_
  try dsimp only [List.set_cons_succ, List.set_cons_zero]
  refine zV_iload_n (pc := 10) (i := 1) dX9_drawnHolidays_10 rfl rfl ?_
  refine zV_bipush (pc := 11) dX9_drawnHolidays_11 (by decide) ?_
  refine zV_iushr (pc := 13) dX9_drawnHolidays_13 (zot _) ?_
  refine zV_sipush (pc := 14) dX9_drawnHolidays_14 (by decide) ?_
  refine zV_iremN (pc := 17) dX9_drawnHolidays_17 (zdh_r0 _) (by decide) ?_
  refine zV_iret (pc := 18) dX9_drawnHolidays_18 trivial ⟨Nat.zero_le _, Nat.zero_le _⟩ ?_
  exact ⟨rfl, rfl, rfl⟩
set_option maxRecDepth 20000 in
set_option maxHeartbeats 2000000 in
theorem kX9_drawn (hR : zRo M) {s : Int} : zK g yX9_drawn xX9_drawn [zr 0, zi s] 75 M (zPq (zi (zsum (zcs M (zsn M (zdh s))) 400)) 75 (fun M1 => zFr zSc M M1)) := by
  refine zK_of (ls0 := [zr 0, zi s]) (by decide) rfl (by decide) rfl (Nat.le_of_ble_eq_true rfl) ?_
  obtain ⟨hS, hW, hU, hh⟩ := id hR
  have hn := hW.1
  refine zV_aload_n (pc := 0) (i := 0) dX9_drawn_0 rfl rfl ?_
  refine zV_get (pc := 1) (j := 6) dX9_drawn_1 flX9_93 (zOb_of rfl) rfl hS.e0_6 ?_
  refine zV_iload_n (pc := 4) (i := 1) dX9_drawn_4 rfl rfl ?_
  refine zV_isp (pc := 5) dX9_drawn_5 klX9_270 mX9_drawnHolidays rfl ⟨Nat.zero_le _, Nat.zero_le _⟩ kX9_drawnHolidays rfl rfl (Nat.le_of_ble_eq_true rfl) ?_
  refine zV_ivn (pc := 8) (ci := 0) dX9_drawn_8 klX9_139 mX0_fill ⟨by decide, rfl⟩ rfl ⟨Nat.zero_le _, Nat.zero_le _⟩ (kX0_fill hS hW (zdh_r s)) (zOb_of rfl) rfl rfl (Nat.le_of_ble_eq_true rfl) (fun M1 q => ?_)
  obtain ⟨q1, q2, q3⟩ := q
  have f1 : zFr zSc M M1 := q3.mono (fun a j e => by unfold zSc; omega)
  have hR1 := (hR.fr f1).1
  have h6 : ∀ d : Int, 0 ≤ d → d < 400 → 0 ≤ zsn M (zdh s) d ∧ zsn M (zdh s) d < 64 := fun d _ _ => zsn_r hn _ d
  refine zV_aload_n (pc := 11) (i := 0) dX9_drawn_11 rfl rfl ?_
  refine zV_get (pc := 12) (j := 6) dX9_drawn_12 flX9_93 (zOb_of rfl) rfl hR1.1.e0_6 ?_
  refine zV_ivq (pc := 15) (ci := 0) dX9_drawn_15 klX9_156 mX0_allCosts ⟨by decide, rfl⟩ rfl ⟨Nat.zero_le _, Nat.zero_le _⟩ (kX0_allCosts hR1.1 q2 h6 hR1.2.1 hR1.2.2.1) (zOb_of rfl) rfl rfl (Nat.le_of_ble_eq_true rfl) (fun M2 q9 => ?_)
  refine zV_iret (pc := 18) dX9_drawn_18 trivial ⟨Nat.zero_le _, Nat.zero_le _⟩ ?_
  exact ⟨by rw [show zcs M1 (zsn M (zdh s)) = zcs M (zsn M (zdh s)) from funext (fun d => zcs_fr hW hU f1 _ d)], rfl, f1.tr (q9.mono (fun _ _ => zSx_c))⟩
set_option maxRecDepth 20000 in
set_option maxHeartbeats 2000000 in
theorem kX9_year (hR : zRo M) {k : Int} (hk : -2147483648 ≤ k ∧ k ≤ 2147483647) : zK g yX9_year xX9_year [zr 0, zi k] 75 M (zPq (zi (zif (0 ≤ k ∧ k ≤ 8) (zyr (zcs M (zsn M (M 1 2))) (zsn M (M 1 2)) k) (-2))) 75 (fun M1 => zFr zSc M M1)) := by
  refine zK_of (ls0 := [zr 0, zi k]) (by decide) rfl (by decide) rfl (Nat.le_of_ble_eq_true rfl) ?_
  obtain ⟨hS, hW, hU, hh⟩ := id hR
  have hn := hW.1
  refine zV_iload_n (pc := 0) (i := 1) dX9_year_0 rfl rfl ?_
  refine zV_iconst (pc := 1) dX9_year_1 ?_
  refine zV_bipush (pc := 2) dX9_year_2 (by decide) ?_
  refine zV_isp (pc := 4) dX9_year_4 klX9_119 mX9_within rfl ⟨Nat.zero_le _, Nat.zero_le _⟩ (kX9_within (by omega) (by omega) (by omega)) rfl rfl (Nat.le_of_ble_eq_true rfl) ?_
  refine zV_if_neb (pc := 7) (tgt := 13) dX9_year_7 (by decide) (fun c_7 => ?_) (fun c_7 => ?_)
  · refine zV_aload_n (pc := 13) (i := 0) dX9_year_13 rfl rfl ?_
    refine zV_get (pc := 14) (j := 6) dX9_year_14 flX9_93 (zOb_of rfl) rfl hS.e0_6 ?_
    refine zV_aload_n (pc := 17) (i := 0) dX9_year_17 rfl rfl ?_
    refine zV_get (pc := 18) (j := 0) dX9_year_18 flX9_12 (zOb_of rfl) rfl hS.e0_0 ?_
    refine zV_get (pc := 21) (j := 2) dX9_year_21 flX9_123 (zOb_of rfl) rfl rfl ?_
    refine zV_ivn (pc := 24) (ci := 0) dX9_year_24 klX9_139 mX0_fill ⟨by decide, rfl⟩ rfl ⟨Nat.zero_le _, Nat.zero_le _⟩ (kX0_fill hS hW hh) (zOb_of rfl) rfl rfl (Nat.le_of_ble_eq_true rfl) (fun M1 q => ?_)
    obtain ⟨q1, q2, q3⟩ := q
    have f1 : zFr zSc M M1 := q3.mono (fun a j e => by unfold zSc; omega)
    have hR1 := (hR.fr f1).1
    have h6 : ∀ d : Int, 0 ≤ d → d < 400 → 0 ≤ zsn M (M 1 2) d ∧ zsn M (M 1 2) d < 64 := fun d _ _ => zsn_r hn _ d
    have eC : zcs M1 (zsn M (M 1 2)) = zcs M (zsn M (M 1 2)) := funext (fun d => zcs_fr hW hU f1 _ d)
    have hfw := zfw_r (zwk (zsn M (M 1 2))) 56
    have hlr := zlm_r (zsn M (M 1 2)) 400
    have hdd := zdm_r (by decide) (zcs_r hW (zsn M (M 1 2))) 400
    have hdl := zdd_lt (zcs M (zsn M (M 1 2))) 400 (by decide)
    refine zV_iload_n (pc := 27) (i := 1) dX9_year_27 rfl rfl ?_
    rcases (show k = 0 ∨ k = 1 ∨ k = 2 ∨ k = 3 ∨ k = 4 ∨ k = 5 ∨ k = 6 ∨ k = 7 ∨ k = 8  by omega) with c_28 | c_28 | c_28 | c_28 | c_28 | c_28 | c_28 | c_28 | c_28
    · refine zV_tin (pc := 28) (tgt := 76) 0 dX9_year_28 (by omega) (by decide) (by decide) rfl (by decide) ?_
      refine zV_aload_n (pc := 76) (i := 0) dX9_year_76 rfl rfl ?_
      refine zV_get (pc := 77) (j := 6) dX9_year_77 flX9_93 (zOb_of rfl) rfl hR1.1.e0_6 ?_
      refine zV_ivq (pc := 80) (ci := 0) dX9_year_80 klX9_156 mX0_allCosts ⟨by decide, rfl⟩ rfl ⟨Nat.zero_le _, Nat.zero_le _⟩ (kX0_allCosts hR1.1 q2 h6 hR1.2.1 hR1.2.2.1) (zOb_of rfl) rfl rfl (Nat.le_of_ble_eq_true rfl) (fun M2 q9 => ?_)
      refine zV_iret (pc := 83) dX9_year_83 trivial ⟨Nat.zero_le _, Nat.zero_le _⟩ ?_
      exact ⟨by rw [zif_t c_7, c_28, zyr_0, eC], rfl, f1.tr (q9.mono (fun _ _ => zSx_c))⟩
    · refine zV_tin (pc := 28) (tgt := 84) 1 dX9_year_28 (by omega) (by decide) (by decide) rfl (by decide) ?_
      refine zV_aload_n (pc := 84) (i := 0) dX9_year_84 rfl rfl ?_
      refine zV_get (pc := 85) (j := 6) dX9_year_85 flX9_93 (zOb_of rfl) rfl hR1.1.e0_6 ?_
      refine zV_iconst (pc := 88) dX9_year_88 ?_
      refine zV_ivp (pc := 89) (ci := 0) dX9_year_89 klX9_159 mX0_daysWith ⟨by decide, rfl⟩ rfl ⟨Nat.zero_le _, Nat.zero_le _⟩ (kX0_daysWith hR1.1 q2 h6 (by omega)) (zOb_of rfl) rfl rfl (Nat.le_of_ble_eq_true rfl) ?_
      refine zV_iret (pc := 92) dX9_year_92 trivial ⟨Nat.zero_le _, Nat.zero_le _⟩ ?_
      exact ⟨by rw [zif_t c_7, c_28, zyr_1], rfl, f1⟩
    · refine zV_tin (pc := 28) (tgt := 93) 2 dX9_year_28 (by omega) (by decide) (by decide) rfl (by decide) ?_
      refine zV_aload_n (pc := 93) (i := 0) dX9_year_93 rfl rfl ?_
      refine zV_get (pc := 94) (j := 6) dX9_year_94 flX9_93 (zOb_of rfl) rfl hR1.1.e0_6 ?_
      refine zV_iconst (pc := 97) dX9_year_97 ?_
      refine zV_ivp (pc := 98) (ci := 0) dX9_year_98 klX9_159 mX0_daysWith ⟨by decide, rfl⟩ rfl ⟨Nat.zero_le _, Nat.zero_le _⟩ (kX0_daysWith hR1.1 q2 h6 (by omega)) (zOb_of rfl) rfl rfl (Nat.le_of_ble_eq_true rfl) ?_
      refine zV_iret (pc := 101) dX9_year_101 trivial ⟨Nat.zero_le _, Nat.zero_le _⟩ ?_
      exact ⟨by rw [zif_t c_7, c_28, zyr_2], rfl, f1⟩
    · refine zV_tin (pc := 28) (tgt := 102) 3 dX9_year_28 (by omega) (by decide) (by decide) rfl (by decide) ?_
      refine zV_aload_n (pc := 102) (i := 0) dX9_year_102 rfl rfl ?_
      refine zV_get (pc := 103) (j := 6) dX9_year_103 flX9_93 (zOb_of rfl) rfl hR1.1.e0_6 ?_
      refine zV_aload_n (pc := 106) (i := 0) dX9_year_106 rfl rfl ?_
      refine zV_get (pc := 107) (j := 6) dX9_year_107 flX9_93 (zOb_of rfl) rfl hR1.1.e0_6 ?_
      refine zV_ivp (pc := 110) (ci := 0) dX9_year_110 klX9_162 mX0_longestRest ⟨by decide, rfl⟩ rfl ⟨Nat.zero_le _, Nat.zero_le _⟩ (kX0_longestRest hR1.1 q2 h6) (zOb_of rfl) rfl rfl (Nat.le_of_ble_eq_true rfl) ?_
      refine zV_ivp (pc := 113) (ci := 0) dX9_year_113 klX9_165 mX0_restFrom ⟨by decide, rfl⟩ rfl ⟨Nat.zero_le _, Nat.zero_le _⟩ (kX0_restFrom hR1.1 q2 h6 (by omega)) (zOb_of rfl) rfl rfl (Nat.le_of_ble_eq_true rfl) ?_
      refine zV_iret (pc := 116) dX9_year_116 trivial ⟨Nat.zero_le _, Nat.zero_le _⟩ ?_
      exact ⟨by rw [zif_t c_7, c_28, zyr_3], rfl, f1⟩
    · refine zV_tin (pc := 28) (tgt := 117) 4 dX9_year_28 (by omega) (by decide) (by decide) rfl (by decide) ?_
      refine zV_aload_n (pc := 117) (i := 0) dX9_year_117 rfl rfl ?_
      refine zV_get (pc := 118) (j := 6) dX9_year_118 flX9_93 (zOb_of rfl) rfl hR1.1.e0_6 ?_
      refine zV_ivp (pc := 121) (ci := 0) dX9_year_121 klX9_162 mX0_longestRest ⟨by decide, rfl⟩ rfl ⟨Nat.zero_le _, Nat.zero_le _⟩ (kX0_longestRest hR1.1 q2 h6) (zOb_of rfl) rfl rfl (Nat.le_of_ble_eq_true rfl) ?_
      refine zV_iret (pc := 124) dX9_year_124 trivial ⟨Nat.zero_le _, Nat.zero_le _⟩ ?_
      exact ⟨by rw [zif_t c_7, c_28, zyr_4], rfl, f1⟩
    · refine zV_tin (pc := 28) (tgt := 125) 5 dX9_year_28 (by omega) (by decide) (by decide) rfl (by decide) ?_
      refine zV_aload_n (pc := 125) (i := 0) dX9_year_125 rfl rfl ?_
      refine zV_get (pc := 126) (j := 6) dX9_year_126 flX9_93 (zOb_of rfl) rfl hR1.1.e0_6 ?_
      refine zV_ivp (pc := 129) (ci := 0) dX9_year_129 klX9_168 mX0_fullestWeek ⟨by decide, rfl⟩ rfl ⟨Nat.zero_le _, Nat.zero_le _⟩ (kX0_fullestWeek hR1.1 q2 h6) (zOb_of rfl) rfl rfl (Nat.le_of_ble_eq_true rfl) ?_
      refine zV_iret (pc := 132) dX9_year_132 trivial ⟨Nat.zero_le _, Nat.zero_le _⟩ ?_
      exact ⟨by rw [zif_t c_7, c_28, zyr_5], rfl, f1⟩
    · refine zV_tin (pc := 28) (tgt := 133) 6 dX9_year_28 (by omega) (by decide) (by decide) rfl (by decide) ?_
      refine zV_aload_n (pc := 133) (i := 0) dX9_year_133 rfl rfl ?_
      refine zV_get (pc := 134) (j := 6) dX9_year_134 flX9_93 (zOb_of rfl) rfl hR1.1.e0_6 ?_
      refine zV_aload_n (pc := 137) (i := 0) dX9_year_137 rfl rfl ?_
      refine zV_get (pc := 138) (j := 6) dX9_year_138 flX9_93 (zOb_of rfl) rfl hR1.1.e0_6 ?_
      refine zV_ivp (pc := 141) (ci := 0) dX9_year_141 klX9_168 mX0_fullestWeek ⟨by decide, rfl⟩ rfl ⟨Nat.zero_le _, Nat.zero_le _⟩ (kX0_fullestWeek hR1.1 q2 h6) (zOb_of rfl) rfl rfl (Nat.le_of_ble_eq_true rfl) ?_
      refine zV_ivp (pc := 144) (ci := 0) dX9_year_144 klX9_171 mX0_comersInWeek ⟨by decide, rfl⟩ rfl ⟨Nat.zero_le _, Nat.zero_le _⟩ (kX0_comersInWeek hR1.1 q2 h6 (by omega)) (zOb_of rfl) rfl rfl (Nat.le_of_ble_eq_true rfl) ?_
      refine zV_iret (pc := 147) dX9_year_147 trivial ⟨Nat.zero_le _, Nat.zero_le _⟩ ?_
      exact ⟨by rw [zif_t c_7, c_28, zyr_6], rfl, f1⟩
    · refine zV_tin (pc := 28) (tgt := 148) 7 dX9_year_28 (by omega) (by decide) (by decide) rfl (by decide) ?_
      refine zV_aload_n (pc := 148) (i := 0) dX9_year_148 rfl rfl ?_
      refine zV_get (pc := 149) (j := 6) dX9_year_149 flX9_93 (zOb_of rfl) rfl hR1.1.e0_6 ?_
      refine zV_ivq (pc := 152) (ci := 0) dX9_year_152 klX9_174 mX0_dearestDay ⟨by decide, rfl⟩ rfl ⟨Nat.zero_le _, Nat.zero_le _⟩ (kX0_dearestDay hR1.1 q2 h6 hR1.2.1 hR1.2.2.1) (zOb_of rfl) rfl rfl (Nat.le_of_ble_eq_true rfl) (fun M2 q9 => ?_)
      have hR2 := (hR1.fr (q9.mono (fun _ _ => zSx_c))).1
      have hC2 := zCo.fr q2 q9
      refine zV_iret (pc := 155) dX9_year_155 trivial ⟨Nat.zero_le _, Nat.zero_le _⟩ ?_
      exact ⟨by rw [zif_t c_7, c_28, zyr_7, eC], rfl, f1.tr (q9.mono (fun _ _ => zSx_c))⟩
    · refine zV_tout (pc := 28) (tgt := 156) dX9_year_28 (by omega) (by omega) (by decide) ?_
      refine zV_aload_n (pc := 156) (i := 0) dX9_year_156 rfl rfl ?_
      refine zV_get (pc := 157) (j := 6) dX9_year_157 flX9_93 (zOb_of rfl) rfl hR1.1.e0_6 ?_
      refine zV_aload_n (pc := 160) (i := 0) dX9_year_160 rfl rfl ?_
      refine zV_get (pc := 161) (j := 6) dX9_year_161 flX9_93 (zOb_of rfl) rfl hR1.1.e0_6 ?_
      refine zV_ivq (pc := 164) (ci := 0) dX9_year_164 klX9_174 mX0_dearestDay ⟨by decide, rfl⟩ rfl ⟨Nat.zero_le _, Nat.zero_le _⟩ (kX0_dearestDay hR1.1 q2 h6 hR1.2.1 hR1.2.2.1) (zOb_of rfl) rfl rfl (Nat.le_of_ble_eq_true rfl) (fun M2 q9 => ?_)
      have hR2 := (hR1.fr (q9.mono (fun _ _ => zSx_c))).1
      have hC2 := zCo.fr q2 q9
      refine zV_ivq (pc := 167) (ci := 0) dX9_year_167 klX9_143 mX0_costsOf ⟨by decide, rfl⟩ rfl ⟨Nat.zero_le _, Nat.zero_le _⟩ (kX0_costsOf hR2.1 hC2 h6 hR2.2.1 hR2.2.2.1 (by rw [eC]; omega)) (zOb_of rfl) rfl rfl (Nat.le_of_ble_eq_true rfl) (fun M3 r9 => ?_)
      refine zV_iret (pc := 170) dX9_year_170 trivial ⟨Nat.zero_le _, Nat.zero_le _⟩ ?_
      exact ⟨by rw [zif_t c_7, c_28, zyr_8, zcs_fr hR1.2.1 hR1.2.2.1 (q9.mono (fun _ _ => zSx_c)), eC], rfl, f1.tr ((q9.tr r9).mono (fun _ _ => zSx_c))⟩
  · refine zV_bipush (pc := 10) dX9_year_10 (by decide) ?_
    refine zV_iret (pc := 12) dX9_year_12 trivial ⟨Nat.zero_le _, Nat.zero_le _⟩ ?_
    exact ⟨by rw [zif_f c_7], rfl, zFr.rf⟩
end
