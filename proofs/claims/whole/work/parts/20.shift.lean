/-! THE CLASS: one thing shifted: shift, goodShift; chance (printed by wip/whole/p20.py) -/
/-- thing t, shifted by s, comes on d -/
def zsq (M : zM) (h t s d : Int) : Prop := zcm (M (3 + t) 0) (M (3 + t) 1) (M (3 + t) 2) ((M (3 + t) 3 + s) % 60) h d
theorem zwb_r {x t : Int} {q : Prop} (hx : 0 ≤ x ∧ x < 64) (ht : 0 ≤ t ∧ t < 6) : 0 ≤ zwb x t q ∧ zwb x t q < 64 := by
  unfold zwb
  have hb := zb_r q
  rcases (show t = 0 ∨ t = 1 ∨ t = 2 ∨ t = 3 ∨ t = 4 ∨ t = 5 by omega) with rfl | rfl | rfl | rfl | rfl | rfl
  · show 0 ≤ x - x / 1 % 2 * 1 + zb q * 1 ∧ x - x / 1 % 2 * 1 + zb q * 1 < 64
    omega
  · show 0 ≤ x - x / 2 % 2 * 2 + zb q * 2 ∧ x - x / 2 % 2 * 2 + zb q * 2 < 64
    omega
  · show 0 ≤ x - x / 4 % 2 * 4 + zb q * 4 ∧ x - x / 4 % 2 * 4 + zb q * 4 < 64
    omega
  · show 0 ≤ x - x / 8 % 2 * 8 + zb q * 8 ∧ x - x / 8 % 2 * 8 + zb q * 8 < 64
    omega
  · show 0 ≤ x - x / 16 % 2 * 16 + zb q * 16 ∧ x - x / 16 % 2 * 16 + zb q * 16 < 64
    omega
  · show 0 ≤ x - x / 32 % 2 * 32 + zb q * 32 ∧ x - x / 32 % 2 * 32 + zb q * 32 < 64
    omega
theorem zwb_w {x t : Int} {q r : Prop} (hx : 0 ≤ x ∧ x < 64) (ht : 0 ≤ t ∧ t < 6) : zwb (zwb x t q) t r = zwb x t r := by
  unfold zwb
  have hb := zb_r q
  rcases (show t = 0 ∨ t = 1 ∨ t = 2 ∨ t = 3 ∨ t = 4 ∨ t = 5 by omega) with rfl | rfl | rfl | rfl | rfl | rfl
  · show (x - x / 1 % 2 * 1 + zb q * 1) - (x - x / 1 % 2 * 1 + zb q * 1) / 1 % 2 * 1 + zb r * 1 = x - x / 1 % 2 * 1 + zb r * 1
    omega
  · show (x - x / 2 % 2 * 2 + zb q * 2) - (x - x / 2 % 2 * 2 + zb q * 2) / 2 % 2 * 2 + zb r * 2 = x - x / 2 % 2 * 2 + zb r * 2
    omega
  · show (x - x / 4 % 2 * 4 + zb q * 4) - (x - x / 4 % 2 * 4 + zb q * 4) / 4 % 2 * 4 + zb r * 4 = x - x / 4 % 2 * 4 + zb r * 4
    omega
  · show (x - x / 8 % 2 * 8 + zb q * 8) - (x - x / 8 % 2 * 8 + zb q * 8) / 8 % 2 * 8 + zb r * 8 = x - x / 8 % 2 * 8 + zb r * 8
    omega
  · show (x - x / 16 % 2 * 16 + zb q * 16) - (x - x / 16 % 2 * 16 + zb q * 16) / 16 % 2 * 16 + zb r * 16 = x - x / 16 % 2 * 16 + zb r * 16
    omega
  · show (x - x / 32 % 2 * 32 + zb q * 32) - (x - x / 32 % 2 * 32 + zb q * 32) / 32 % 2 * 32 + zb r * 32 = x - x / 32 % 2 * 32 + zb r * 32
    omega
theorem zU_to {M : zM} {a d v : Int} {F : Int → Int} (h : ∀ e : Int, 0 ≤ e → e < d → M a e = F e) (hv : v = F d) : ∀ e : Int, 0 ≤ e → e < d + 1 → zU M a d v a e = F e := by
  intro e e0 e1
  by_cases he : e = d
  · rw [he, zU_s, hv]
  · rw [zU_j _ _ _ _ he]
    exact h e e0 (by omega)
theorem zU_fm {M : zM} {a d v n : Int} {F : Int → Int} (h : ∀ e : Int, d ≤ e → e < n → M a e = F e) : ∀ e : Int, d + 1 ≤ e → e < n → zU M a d v a e = F e := by
  intro e e0 e1
  rw [zU_j _ _ _ _ (by omega)]
  exact h e (by omega) e1
def zS56 (a j : Int) : Prop := a = 56 ∨ a = 57
theorem zS56_c {a j : Int} (h : zS56 a j) : zSc a j := by
  unfold zS56 at h
  unfold zSc
  omega
/-- the year, with thing t shifted by s -/
noncomputable def zfs (M : zM) (h t s : Int) : Int → Int := fun d => zwb (zsn M h d) t (zsq M h t s d)
theorem zfs_r {M : zM} (hn : 0 ≤ M 1 1 ∧ M 1 1 ≤ 6) {h t s : Int} (ht : 0 ≤ t ∧ t < M 1 1) (d : Int) : 0 ≤ zfs M h t s d ∧ zfs M h t s d < 64 := zwb_r (zsn_r hn h d) (by omega)
/-- the first least of C 0 .. C k -/
def zgl (c : Int → Int) : Nat → Int
  | 0 => c 0
  | k + 1 => if c (k + 1) < zgl c k then c (k + 1) else zgl c k
def zgb (c : Int → Int) : Nat → Int
  | 0 => 0
  | k + 1 => if c (k + 1) < zgl c k then k + 1 else zgb c k
theorem zgl_t {c : Int → Int} {s : Int} (h : 1 ≤ s) (hq : c s < zgl c (s - 1).toNat) : zgl c s.toNat = c s ∧ zgb c s.toNat = s := by
  rw [show s.toNat = (s - 1).toNat + 1 by omega]
  have e : (((s - 1).toNat : Nat) : Int) + 1 = s := by omega
  have hq' : c ((((s - 1).toNat : Nat) : Int) + 1) < zgl c (s - 1).toNat := by rw [e]; exact hq
  exact ⟨(if_pos hq').trans (by rw [e]), (if_pos hq').trans e⟩
theorem zgl_f {c : Int → Int} {s : Int} (h : 1 ≤ s) (hq : ¬ c s < zgl c (s - 1).toNat) : zgl c s.toNat = zgl c (s - 1).toNat ∧ zgb c s.toNat = zgb c (s - 1).toNat := by
  rw [show s.toNat = (s - 1).toNat + 1 by omega]
  have e : (((s - 1).toNat : Nat) : Int) + 1 = s := by omega
  have hq' : ¬ c ((((s - 1).toNat : Nat) : Int) + 1) < zgl c (s - 1).toNat := by rw [e]; exact hq
  exact ⟨if_neg hq', if_neg hq'⟩
section
variable {g : zG} {N : Nat} {M : zM}
set_option maxRecDepth 20000 in
set_option maxHeartbeats 2000000 in
theorem kX0_psL (hS : zSt M) {f : Int → Int} (hC : zCo M f) (h6 : ∀ d : Int, 0 ≤ d → d < 400 → 0 ≤ f d ∧ f d < 64) (hW : zWf M) {h t s : Int} (hh : 0 ≤ h ∧ h ≤ 127) (h5 : M 52 5 = h) (ht : 0 ≤ t ∧ t < M 1 1) (hs : 0 ≤ s ∧ s ≤ 59) : ∀ (k : Nat) (d : Int) (w5 : zv) (M2 : zM), d + k = 400 → 0 ≤ d → (∀ e : Int, 0 ≤ e → e < d → M2 57 e = zwb (f e) t (zsq M h t s e)) → (∀ e : Int, d ≤ e → e < 400 → M2 57 e = f e) → zFr zS56 M M2 → (M2 56 0 = M (3 + t) 0 ∧ M2 56 1 = M (3 + t) 1 ∧ M2 56 2 = M (3 + t) 2 ∧ M2 56 3 = (M (3 + t) 3 + s) % 60) → zV g xX0_putShifted (zPn 75 (fun M1 => zCo M1 (fun d => zwb (f d) t (zsq M h t s d)) ∧ zFr zS56 M M1)) 36 [zr 52, zi t, zi s, zi (2 ^ t.toNat), zi d, w5] [] 75 M2 0 0 := by
  intro k
  induction k with
  | zero =>
    intro d w5 M2 h0 h1 h2 h3 h4 h5a
    have hn := hW.1
    have hF : zFr zSc M M2 := h4.mono (fun _ _ => zS56_c)
    have hS2 : zSt M2 := hS.fr hF zSc_st
    have h52 : M2 52 5 = h := (h4 52 5 (by unfold zS56; omega)).trans h5
    have hth := hW.2 t ht.1 ht.2
    unfold zTh at hth
    obtain ⟨g0, g1, g2, g3⟩ := h5a
    refine zV_iload (pc := 36) dX0_putShifted_36 rfl ?_
    refine zV_sipush (pc := 38) dX0_putShifted_38 (by decide) ?_
    refine zV_icmp_ge (pc := 41) (tgt := 95) dX0_putShifted_41 (by decide) (by omega) (fun c_41 => ?_) (fun c_41 => absurd (by omega) c_41)
    refine zV_vret (pc := 95) dX0_putShifted_95 trivial ⟨Nat.zero_le _, Nat.zero_le _⟩ ?_
    exact ⟨rfl, rfl, fun e e0 e1 => h2 e e0 (by omega), h4⟩
  | succ k ih =>
    intro d w5 M2 h0 h1 h2 h3 h4 h5a
    have hn := hW.1
    have hF : zFr zSc M M2 := h4.mono (fun _ _ => zS56_c)
    have hS2 : zSt M2 := hS.fr hF zSc_st
    have h52 : M2 52 5 = h := (h4 52 5 (by unfold zS56; omega)).trans h5
    have hth := hW.2 t ht.1 ht.2
    unfold zTh at hth
    obtain ⟨g0, g1, g2, g3⟩ := h5a
    refine zV_iload (pc := 36) dX0_putShifted_36 rfl ?_
    refine zV_sipush (pc := 38) dX0_putShifted_38 (by decide) ?_
    refine zV_icmp_ge (pc := 41) (tgt := 95) dX0_putShifted_41 (by decide) (by omega) (fun c_41 => absurd c_41 (by omega)) (fun c_41 => ?_)
    refine zV_aload_n (pc := 44) (i := 0) dX0_putShifted_44 rfl rfl ?_
    refine zV_get (pc := 45) (j := 4) dX0_putShifted_45 flX0_25 (zOb_of rfl) rfl hS2.e52_4 ?_
    refine zV_iload (pc := 48) dX0_putShifted_48 rfl ?_
    refine zV_iald (pc := 50) dX0_putShifted_50 (zAr_of rfl : zAr 75 57 0 400) (by omega) (h3 d (by omega) (by omega)) ?_
    refine zV_iload_n (pc := 51) (i := 3) dX0_putShifted_51 rfl rfl ?_
    refine zV_iconst (pc := 52) dX0_putShifted_52 ?_
    refine zV_ixor (pc := 53) dX0_putShifted_53 (zot _) ?_
    refine zV_iand (pc := 54) dX0_putShifted_54 ((congrArg (fun x => Int32.ofInt (f d) &&& x) (Int32.ofInt_toInt _)).trans (z_clr (t := t) (h6 d (by omega) (by omega)) (by omega)).1) ?_
    refine zV_istore (pc := 55) dX0_putShifted_55 rfl ?_
    try dsimp only [List.set_cons_succ, List.set_cons_zero]
    refine zV_aload_n (pc := 57) (i := 0) dX0_putShifted_57 rfl rfl ?_
    refine zV_get (pc := 58) (j := 4) dX0_putShifted_58 flX0_25 (zOb_of rfl) rfl hS2.e52_4 ?_
    refine zV_iload (pc := 61) dX0_putShifted_61 rfl ?_
    refine zV_aload_n (pc := 63) (i := 0) dX0_putShifted_63 rfl rfl ?_
    refine zV_get (pc := 64) (j := 3) dX0_putShifted_64 flX0_21 (zOb_of rfl) rfl hS2.e52_3 ?_
    refine zV_iload (pc := 67) dX0_putShifted_67 rfl ?_
    refine zV_aload_n (pc := 69) (i := 0) dX0_putShifted_69 rfl rfl ?_
    refine zV_get (pc := 70) (j := 5) dX0_putShifted_70 flX0_37 (zOb_of rfl) rfl h52 ?_
    refine zV_ivp (pc := 73) (ci := 8) dX0_putShifted_73 klX0_58 mX8_comes ⟨by decide, rfl⟩ rfl ⟨Nat.zero_le _, Nat.zero_le _⟩ (kX8_comes (a := 56) (zOb_of rfl) (by rw [g0]; exact hth.1) (by rw [g1]; exact hth.2.1) (by rw [g2]; exact hth.2.2.1) (by rw [g3]; omega) (by omega) hh) (zOb_of rfl) rfl rfl (Nat.le_of_ble_eq_true rfl) ?_
    refine zV_if_eqb (pc := 76) (tgt := 86) dX0_putShifted_76 (by decide) (fun c_76 => ?_) (fun c_76 => ?_)
    · refine zV_iload (pc := 86) dX0_putShifted_86 rfl ?_
      refine zV_iast (pc := 88) dX0_putShifted_88 (zAr_of rfl : zAr 75 57 0 400) (by omega) ?_
      refine zV_iinc (pc := 89) dX0_putShifted_89 rfl rfl ?_
      refine zV_goto (pc := 92) (tgt := 36) dX0_putShifted_92 (by decide) ?_
      rw [g0, g1, g2, g3] at c_76
      first
        | exact ih (d + 1) _ _ (by omega) (by omega) (zU_to (F := fun e => zwb (f e) t (zsq M h t s e)) h2 (by show _ = zwb (f d) t (zsq M h t s d); unfold zwb; rw [zb_t (q := zsq M h t s d) c_76, Int.one_mul])) (zU_fm h3) (zFr.up h4 (Or.inr rfl)) ⟨(zU_a _ _ _ _ (by decide)).trans g0, (zU_a _ _ _ _ (by decide)).trans g1, (zU_a _ _ _ _ (by decide)).trans g2, (zU_a _ _ _ _ (by decide)).trans g3⟩
        | exact ih (d + 1) _ _ (by omega) (by omega) (zU_to (F := fun e => zwb (f e) t (zsq M h t s e)) h2 (by show _ = zwb (f d) t (zsq M h t s d); unfold zwb; rw [zb_f (q := zsq M h t s d) c_76, Int.zero_mul, Int.add_zero])) (zU_fm h3) (zFr.up h4 (Or.inr rfl)) ⟨(zU_a _ _ _ _ (by decide)).trans g0, (zU_a _ _ _ _ (by decide)).trans g1, (zU_a _ _ _ _ (by decide)).trans g2, (zU_a _ _ _ _ (by decide)).trans g3⟩
    · refine zV_iload (pc := 79) dX0_putShifted_79 rfl ?_
      refine zV_iload_n (pc := 81) (i := 3) dX0_putShifted_81 rfl rfl ?_
      refine zV_ior (pc := 82) dX0_putShifted_82 (z_clr (t := t) (h6 d (by omega) (by omega)) (by omega)).2 ?_
      refine zV_goto (pc := 83) (tgt := 88) dX0_putShifted_83 (by decide) ?_
      refine zV_iast (pc := 88) dX0_putShifted_88 (zAr_of rfl : zAr 75 57 0 400) (by omega) ?_
      refine zV_iinc (pc := 89) dX0_putShifted_89 rfl rfl ?_
      refine zV_goto (pc := 92) (tgt := 36) dX0_putShifted_92 (by decide) ?_
      rw [g0, g1, g2, g3] at c_76
      first
        | exact ih (d + 1) _ _ (by omega) (by omega) (zU_to (F := fun e => zwb (f e) t (zsq M h t s e)) h2 (by show _ = zwb (f d) t (zsq M h t s d); unfold zwb; rw [zb_t (q := zsq M h t s d) c_76, Int.one_mul])) (zU_fm h3) (zFr.up h4 (Or.inr rfl)) ⟨(zU_a _ _ _ _ (by decide)).trans g0, (zU_a _ _ _ _ (by decide)).trans g1, (zU_a _ _ _ _ (by decide)).trans g2, (zU_a _ _ _ _ (by decide)).trans g3⟩
        | exact ih (d + 1) _ _ (by omega) (by omega) (zU_to (F := fun e => zwb (f e) t (zsq M h t s e)) h2 (by show _ = zwb (f d) t (zsq M h t s d); unfold zwb; rw [zb_f (q := zsq M h t s d) c_76, Int.zero_mul, Int.add_zero])) (zU_fm h3) (zFr.up h4 (Or.inr rfl)) ⟨(zU_a _ _ _ _ (by decide)).trans g0, (zU_a _ _ _ _ (by decide)).trans g1, (zU_a _ _ _ _ (by decide)).trans g2, (zU_a _ _ _ _ (by decide)).trans g3⟩
set_option maxRecDepth 20000 in
set_option maxHeartbeats 2000000 in
theorem kX0_putShifted (hS : zSt M) {f : Int → Int} (hC : zCo M f) (h6 : ∀ d : Int, 0 ≤ d → d < 400 → 0 ≤ f d ∧ f d < 64) (hW : zWf M) {h t s : Int} (hh : 0 ≤ h ∧ h ≤ 127) (h5 : M 52 5 = h) (ht : 0 ≤ t ∧ t < M 1 1) (hs : 0 ≤ s ∧ s ≤ 59) : zK g yX0_putShifted xX0_putShifted [zr 52, zi t, zi s] 75 M (zPn 75 (fun M1 => zCo M1 (fun d => zwb (f d) t (zsq M h t s d)) ∧ zFr zS56 M M1)) := by
  refine zK_of (ls0 := [zr 52, zi t, zi s, (3, 0), (3, 0), (3, 0)]) (by decide) rfl (by decide) rfl (Nat.le_of_ble_eq_true rfl) ?_
  have hn := hW.1
  have hth := hW.2 t ht.1 ht.2
  unfold zTh at hth
  refine zV_aload_n (pc := 0) (i := 0) dX0_putShifted_0 rfl rfl ?_
  refine zV_get (pc := 1) (j := 0) dX0_putShifted_1 flX0_29 (zOb_of rfl) rfl hS.e52_0 ?_
  refine zV_iload_n (pc := 4) (i := 1) dX0_putShifted_4 rfl rfl ?_
  refine zV_ivp (pc := 5) (ci := 5) dX0_putShifted_5 klX0_46 mX5_has ⟨by decide, rfl⟩ rfl ⟨Nat.zero_le _, Nat.zero_le _⟩ (kX5_has hS hn (by omega)) (zOb_of rfl) rfl rfl (Nat.le_of_ble_eq_true rfl) ?_
  refine zV_if_neb (pc := 8) (tgt := 12) dX0_putShifted_8 (by decide) (fun c_8 => ?_) (fun c_8 => absurd ht c_8)
  refine zV_aload_n (pc := 12) (i := 0) dX0_putShifted_12 rfl rfl ?_
  refine zV_get (pc := 13) (j := 3) dX0_putShifted_13 flX0_21 (zOb_of rfl) rfl hS.e52_3 ?_
  refine zV_aload_n (pc := 16) (i := 0) dX0_putShifted_16 rfl rfl ?_
  refine zV_get (pc := 17) (j := 0) dX0_putShifted_17 flX0_29 (zOb_of rfl) rfl hS.e52_0 ?_
  refine zV_get (pc := 20) (j := 0) dX0_putShifted_20 flX0_50 (zOb_of rfl) rfl hS.e1_0 ?_
  refine zV_iload_n (pc := 23) (i := 1) dX0_putShifted_23 rfl rfl ?_
  refine zV_aald (pc := 24) dX0_putShifted_24 (zAr_of rfl : zAr 75 2 2 6) ⟨rfl, rfl⟩ (by omega) (hS.th (by omega)) ?_
  refine zV_iload_n (pc := 25) (i := 2) dX0_putShifted_25 rfl rfl ?_
  refine zV_ivn (pc := 26) (ci := 8) dX0_putShifted_26 klX0_54 mX8_becomeShifted ⟨by decide, rfl⟩ rfl ⟨Nat.zero_le _, Nat.zero_le _⟩ (kX8_becomeShifted (a := 56) (b := 3 + t) (zOb_of rfl) (zOb_th (by omega)) (by omega) hth.2.2.2 hs) (zOb_of rfl) rfl rfl (Nat.le_of_ble_eq_true rfl) (fun M1 q => ?_)
  obtain ⟨q0, q1, q2, q3, q4⟩ := q
  refine zV_iconst (pc := 29) dX0_putShifted_29 ?_
  refine zV_iload_n (pc := 30) (i := 1) dX0_putShifted_30 rfl rfl ?_
  refine zV_ishl (pc := 31) dX0_putShifted_31 (z_shl (n := t.toNat) (by omega) (by omega)) ?_
  refine zV_istore_n (pc := 32) (i := 3) dX0_putShifted_32 rfl rfl ?_
  try dsimp only [List.set_cons_succ, List.set_cons_zero]
  refine zV_iconst (pc := 33) dX0_putShifted_33 ?_
  refine zV_istore (pc := 34) dX0_putShifted_34 rfl ?_
  try dsimp only [List.set_cons_succ, List.set_cons_zero]
  exact kX0_psL hS hC h6 hW hh h5 ht hs 400 0 _ M1 (by omega) (by omega) (fun e e0 e1 => absurd e0 (by omega)) (fun e e0 e1 => (q4 57 e (show ¬ ((57 : Int) = 56) by decide)).trans (hC e e0 e1)) (q4.mono (fun a j e => Or.inl e)) ⟨q0, q1, q2, q3⟩
/-- a loop over shifts stands at M1 -/
def zLs (M : zM) (t : Int) (M1 : zM) (f : Int → Int) : Prop := zFr zSc M M1 ∧ M1 52 5 = M 1 2 ∧ zCo M1 f ∧ (∀ d : Int, 0 ≤ d → d < 400 → 0 ≤ f d ∧ f d < 64) ∧ ∀ (d : Int) (q : Prop), 0 ≤ d → d < 400 → zwb (f d) t q = zwb (zsn M (M 1 2) d) t q
theorem zsq_fr {M M1 : zM} (h : zFr zSc M M1) {ho t s d : Int} (ht : 0 ≤ t ∧ t < 6) : zsq M1 ho t s d = zsq M ho t s d := by
  have hA := zAg.of h
  unfold zsq
  rw [hA.2 t 0 ht.1 ht.2, hA.2 t 1 ht.1 ht.2, hA.2 t 2 ht.1 ht.2, hA.2 t 3 ht.1 ht.2]
theorem zLs.next {M M1 M2 : zM} {t s : Int} {f : Int → Int} (hW : zWf M) (ht : 0 ≤ t ∧ t < M 1 1) (h : zLs M t M1 f) (q1 : zCo M2 (fun d => zwb (f d) t (zsq M1 (M 1 2) t s d))) (q2 : zFr zS56 M1 M2) : zLs M t M2 (zfs M (M 1 2) t s) := by
  have hn := hW.1
  obtain ⟨a1, a2, a3, a4, a5⟩ := h
  refine ⟨a1.tr (q2.mono (fun _ _ => zS56_c)), (q2 52 5 (by unfold zS56; omega)).trans a2, fun d d0 d1 => ?_, fun d d0 d1 => zfs_r hn ht d, fun d q d0 d1 => zwb_w (zsn_r hn _ d) (by omega)⟩
  rw [q1 d d0 d1]
  show zwb (f d) t (zsq M1 (M 1 2) t s d) = _
  rw [zsq_fr a1 (by omega), a5 d _ d0 d1]
  rfl
set_option maxRecDepth 20000 in
set_option maxHeartbeats 2000000 in
theorem kX9_shL (hR : zRo M) {t : Int} (ht : 0 ≤ t ∧ t < M 1 1) : ∀ (k : Nat) (s : Int) (M1 : zM) (f : Int → Int), s + k = 60 → 0 ≤ s → zLs M t M1 f → zfst (fun s => ¬ zcw (zfs M (M 1 2) t s) t 400) 0 60 = zfst (fun s => ¬ zcw (zfs M (M 1 2) t s) t 400) s k → zV g xX9_shift (zPq (zi (zfst (fun s => ¬ zcw (zfs M (M 1 2) t s) t 400) 0 60)) 75 (fun M1 => zFr zSc M M1)) 30 [zr 0, zi t, zi s] [] 75 M1 0 0 := by
  intro k
  induction k with
  | zero =>
    intro s M1 f h0 h1 h2 h3
    obtain ⟨hS, hW, hU, hh⟩ := id hR
    have hn := hW.1
    have hR1 := hR.fr h2.1
    have hA1 := zAg.of h2.1
    refine zV_iload_n (pc := 30) (i := 2) dX9_shift_30 rfl rfl ?_
    refine zV_bipush (pc := 31) dX9_shift_31 (by decide) ?_
    refine zV_icmp_ge (pc := 33) (tgt := 64) dX9_shift_33 (by decide) (by omega) (fun c_33 => ?_) (fun c_33 => absurd (by omega) c_33)
    refine zV_iconst (pc := 64) dX9_shift_64 ?_
    refine zV_iret (pc := 65) dX9_shift_65 trivial ⟨Nat.zero_le _, Nat.zero_le _⟩ ?_
    exact ⟨by rw [h3]; rfl, rfl, h2.1⟩
  | succ k ih =>
    intro s M1 f h0 h1 h2 h3
    obtain ⟨hS, hW, hU, hh⟩ := id hR
    have hn := hW.1
    have hR1 := hR.fr h2.1
    have hA1 := zAg.of h2.1
    refine zV_iload_n (pc := 30) (i := 2) dX9_shift_30 rfl rfl ?_
    refine zV_bipush (pc := 31) dX9_shift_31 (by decide) ?_
    refine zV_icmp_ge (pc := 33) (tgt := 64) dX9_shift_33 (by decide) (by omega) (fun c_33 => absurd c_33 (by omega)) (fun c_33 => ?_)
    refine zV_aload_n (pc := 36) (i := 0) dX9_shift_36 rfl rfl ?_
    refine zV_get (pc := 37) (j := 6) dX9_shift_37 flX9_93 (zOb_of rfl) rfl hR1.1.1.e0_6 ?_
    refine zV_iload_n (pc := 40) (i := 1) dX9_shift_40 rfl rfl ?_
    refine zV_iload_n (pc := 41) (i := 2) dX9_shift_41 rfl rfl ?_
    refine zV_ivn (pc := 42) (ci := 0) dX9_shift_42 klX9_215 mX0_putShifted ⟨by decide, rfl⟩ rfl ⟨Nat.zero_le _, Nat.zero_le _⟩ (kX0_putShifted hR1.1.1 h2.2.2.1 h2.2.2.2.1 hR1.1.2.1 (h := M 1 2) hh h2.2.1 (by rw [hA1.1]; exact ht) (by omega)) (zOb_of rfl) rfl rfl (Nat.le_of_ble_eq_true rfl) (fun M2 q => ?_)
    have hN := zLs.next hW ht h2 q.1 q.2
    have hR2 := hR.fr hN.1
    refine zV_aload_n (pc := 45) (i := 0) dX9_shift_45 rfl rfl ?_
    refine zV_get (pc := 46) (j := 6) dX9_shift_46 flX9_93 (zOb_of rfl) rfl hR2.1.1.e0_6 ?_
    refine zV_iload_n (pc := 49) (i := 1) dX9_shift_49 rfl rfl ?_
    refine zV_ivp (pc := 50) (ci := 0) dX9_shift_50 klX9_218 mX0_comesWithOthers ⟨by decide, rfl⟩ rfl ⟨Nat.zero_le _, Nat.zero_le _⟩ (kX0_comesWithOthers hR2.1.1 hN.2.2.1 hN.2.2.2.1 (by omega)) (zOb_of rfl) rfl rfl (Nat.le_of_ble_eq_true rfl) ?_
    refine zV_if_neb (pc := 53) (tgt := 58) dX9_shift_53 (by decide) (fun c_53 => ?_) (fun c_53 => ?_)
    · refine zV_iinc (pc := 58) dX9_shift_58 rfl rfl ?_
      try dsimp only [List.set_cons_succ, List.set_cons_zero]
      refine zV_goto (pc := 61) (tgt := 30) dX9_shift_61 (by decide) ?_
      exact ih (s + 1) M2 _ (by omega) (by omega) hN (by rw [h3, zfst_f (q := fun s => ¬ zcw (zfs M (M 1 2) t s) t 400) (fun e => e c_53)])
    · refine zV_iload_n (pc := 56) (i := 2) dX9_shift_56 rfl rfl ?_
      refine zV_iret (pc := 57) dX9_shift_57 trivial ⟨Nat.zero_le _, Nat.zero_le _⟩ ?_
      exact ⟨by rw [h3, zfst_t (q := fun s => ¬ zcw (zfs M (M 1 2) t s) t 400) c_53], rfl, hN.1⟩
set_option maxRecDepth 20000 in
set_option maxHeartbeats 2000000 in
theorem kX9_shift (hR : zRo M) {t : Int} (ht : -2147483648 ≤ t ∧ t ≤ 2147483647) : zK g yX9_shift xX9_shift [zr 0, zi t] 75 M (zPq (zi (zif (0 ≤ t ∧ t < M 1 1) (zfst (fun s => ¬ zcw (zfs M (M 1 2) t s) t 400) 0 60) (-2))) 75 (fun M1 => zFr zSc M M1)) := by
  refine zK_of (ls0 := [zr 0, zi t, (3, 0)]) (by decide) rfl (by decide) rfl (Nat.le_of_ble_eq_true rfl) ?_
  obtain ⟨hS, hW, hU, hh⟩ := id hR
  have hn := hW.1
  refine zV_aload_n (pc := 0) (i := 0) dX9_shift_0 rfl rfl ?_
  refine zV_get (pc := 1) (j := 0) dX9_shift_1 flX9_12 (zOb_of rfl) rfl hS.e0_0 ?_
  refine zV_iload_n (pc := 4) (i := 1) dX9_shift_4 rfl rfl ?_
  refine zV_ivp (pc := 5) (ci := 5) dX9_shift_5 klX9_100 mX5_has ⟨by decide, rfl⟩ rfl ⟨Nat.zero_le _, Nat.zero_le _⟩ (kX5_has hS hn (by omega)) (zOb_of rfl) rfl rfl (Nat.le_of_ble_eq_true rfl) ?_
  refine zV_if_neb (pc := 8) (tgt := 14) dX9_shift_8 (by decide) (fun c_8 => ?_) (fun c_8 => ?_)
  · refine zV_aload_n (pc := 14) (i := 0) dX9_shift_14 rfl rfl ?_
    refine zV_get (pc := 15) (j := 6) dX9_shift_15 flX9_93 (zOb_of rfl) rfl hS.e0_6 ?_
    refine zV_aload_n (pc := 18) (i := 0) dX9_shift_18 rfl rfl ?_
    refine zV_get (pc := 19) (j := 0) dX9_shift_19 flX9_12 (zOb_of rfl) rfl hS.e0_0 ?_
    refine zV_get (pc := 22) (j := 2) dX9_shift_22 flX9_123 (zOb_of rfl) rfl rfl ?_
    refine zV_ivn (pc := 25) (ci := 0) dX9_shift_25 klX9_139 mX0_fill ⟨by decide, rfl⟩ rfl ⟨Nat.zero_le _, Nat.zero_le _⟩ (kX0_fill hS hW hh) (zOb_of rfl) rfl rfl (Nat.le_of_ble_eq_true rfl) (fun M1 q => ?_)
    obtain ⟨q1, q2, q3⟩ := q
    have f1 : zFr zSc M M1 := q3.mono (fun a j e => by unfold zSc; omega)
    have h6 : ∀ d : Int, 0 ≤ d → d < 400 → 0 ≤ zsn M (M 1 2) d ∧ zsn M (M 1 2) d < 64 := fun d _ _ => zsn_r hn _ d
    refine zV_iconst (pc := 28) dX9_shift_28 ?_
    refine zV_istore_n (pc := 29) (i := 2) dX9_shift_29 rfl rfl ?_
    try dsimp only [List.set_cons_succ, List.set_cons_zero]
    exact (kX9_shL hR c_8 60 0 M1 _ (by omega) (by omega) ⟨f1, q1, q2, h6, fun d q d0 d1 => rfl⟩ rfl).mono (fun v N9 M9 q => ⟨by rw [zif_t c_8]; exact q.1, q.2⟩)
  · refine zV_bipush (pc := 11) dX9_shift_11 (by decide) ?_
    refine zV_iret (pc := 13) dX9_shift_13 trivial ⟨Nat.zero_le _, Nat.zero_le _⟩ ?_
    exact ⟨by rw [zif_f c_8], rfl, zFr.rf⟩
/-- costs and minds, thing t shifted by s -/
noncomputable def zgC (M : zM) (t s : Int) : Int := zsum (zcs M (zfs M (M 1 2) t s)) 400 + ztx M 2 (znm 0 t 0 (zTc M t 2) s (zTc M t 1))
theorem zgC_r {M : zM} (hW : zWf M) (t s : Int) : 0 ≤ zgC M t s ∧ zgC M t s ≤ 600000 := by
  have h1 := zsum_b (f := zcs M (zfs M (M 1 2) t s)) (m := 1300) (n := 400) (fun k _ _ => zcs_r hW _ k)
  have h2 := ztx_r M 2 (znm 0 t 0 (zTc M t 2) s (zTc M t 1))
  unfold zgC
  omega
theorem zgl_r {c : Int → Int} {m : Int} (h : ∀ d, 0 ≤ c d ∧ c d ≤ m) : ∀ k : Nat, 0 ≤ zgl c k ∧ zgl c k ≤ m := by
  intro k
  induction k with
  | zero => exact h 0
  | succ k ih =>
    have h1 := h (k + 1)
    show 0 ≤ (if c (k + 1) < zgl c k then c (k + 1) else zgl c k) ∧ (if c (k + 1) < zgl c k then c (k + 1) else zgl c k) ≤ m
    split <;> omega
set_option maxRecDepth 20000 in
set_option maxHeartbeats 2000000 in
theorem kX9_gsL (hR : zRo M) {t m : Int} (ht : 0 ≤ t ∧ t < M 1 1) (hm : 0 ≤ m ∧ m ≤ 1) : ∀ (k : Nat) (s a b : Int) (w6 : zv) (M1 : zM) (f : Int → Int), s + k = 60 → 0 ≤ s → zLs M t M1 f → (1 ≤ s → a = zgb (zgC M t) (s - 1).toNat ∧ b = zgl (zgC M t) (s - 1).toNat) → zV g xX9_goodShift (zPq (zi (if m = 0 then zgb (zgC M t) 59 else zgl (zgC M t) 59)) 75 (fun M1 => zFr zSc M M1)) 45 [zr 0, zi t, zi m, zi a, zi b, zi s, w6] [] 75 M1 0 0 := by
  intro k
  induction k with
  | zero =>
    intro s a b w6 M1 f h0 h1 h2 h3
    obtain ⟨hS, hW, hU, hh⟩ := id hR
    have hn := hW.1
    have hR1 := hR.fr h2.1
    have hA1 := zAg.of h2.1
    refine zV_iload (pc := 45) dX9_goodShift_45 rfl ?_
    refine zV_bipush (pc := 47) dX9_goodShift_47 (by decide) ?_
    refine zV_icmp_ge (pc := 49) (tgt := 107) dX9_goodShift_49 (by decide) (by omega) (fun c_49 => ?_) (fun c_49 => absurd (by omega) c_49)
    refine zV_iload_n (pc := 107) (i := 2) dX9_goodShift_107 rfl rfl ?_
    refine zV_if_ne (pc := 108) (tgt := 115) dX9_goodShift_108 (by decide) (by omega) (fun c_108 => ?_) (fun c_108 => ?_)
    · refine zV_iload (pc := 115) dX9_goodShift_115 rfl ?_
      refine zV_iret (pc := 117) dX9_goodShift_117 trivial ⟨Nat.zero_le _, Nat.zero_le _⟩ ?_
      have h7 := h3 (by omega)
      rw [show s - 1 = 59 by omega] at h7
      first
        | exact ⟨by rw [if_pos c_108, h7.1]; rfl, rfl, h2.1⟩
        | exact ⟨by rw [if_neg c_108, h7.2]; rfl, rfl, h2.1⟩
    · refine zV_iload_n (pc := 111) (i := 3) dX9_goodShift_111 rfl rfl ?_
      refine zV_goto (pc := 112) (tgt := 117) dX9_goodShift_112 (by decide) ?_
      refine zV_iret (pc := 117) dX9_goodShift_117 trivial ⟨Nat.zero_le _, Nat.zero_le _⟩ ?_
      have h7 := h3 (by omega)
      rw [show s - 1 = 59 by omega] at h7
      first
        | exact ⟨by rw [if_pos c_108, h7.1]; rfl, rfl, h2.1⟩
        | exact ⟨by rw [if_neg c_108, h7.2]; rfl, rfl, h2.1⟩
  | succ k ih =>
    intro s a b w6 M1 f h0 h1 h2 h3
    obtain ⟨hS, hW, hU, hh⟩ := id hR
    have hn := hW.1
    have hR1 := hR.fr h2.1
    have hA1 := zAg.of h2.1
    refine zV_iload (pc := 45) dX9_goodShift_45 rfl ?_
    refine zV_bipush (pc := 47) dX9_goodShift_47 (by decide) ?_
    refine zV_icmp_ge (pc := 49) (tgt := 107) dX9_goodShift_49 (by decide) (by omega) (fun c_49 => absurd c_49 (by omega)) (fun c_49 => ?_)
    refine zV_aload_n (pc := 52) (i := 0) dX9_goodShift_52 rfl rfl ?_
    refine zV_get (pc := 53) (j := 6) dX9_goodShift_53 flX9_93 (zOb_of rfl) rfl hR1.1.1.e0_6 ?_
    refine zV_iload_n (pc := 56) (i := 1) dX9_goodShift_56 rfl rfl ?_
    refine zV_iload (pc := 57) dX9_goodShift_57 rfl ?_
    refine zV_ivn (pc := 59) (ci := 0) dX9_goodShift_59 klX9_215 mX0_putShifted ⟨by decide, rfl⟩ rfl ⟨Nat.zero_le _, Nat.zero_le _⟩ (kX0_putShifted hR1.1.1 h2.2.2.1 h2.2.2.2.1 hR1.1.2.1 (h := M 1 2) hh h2.2.1 (by rw [hA1.1]; exact ht) (by omega)) (zOb_of rfl) rfl rfl (Nat.le_of_ble_eq_true rfl) (fun M2 q => ?_)
    have hN := zLs.next hW ht h2 q.1 q.2
    have hR2 := hR.fr hN.1
    refine zV_aload_n (pc := 62) (i := 0) dX9_goodShift_62 rfl rfl ?_
    refine zV_get (pc := 63) (j := 6) dX9_goodShift_63 flX9_93 (zOb_of rfl) rfl hR2.1.1.e0_6 ?_
    refine zV_ivq (pc := 66) (ci := 0) dX9_goodShift_66 klX9_156 mX0_allCosts ⟨by decide, rfl⟩ rfl ⟨Nat.zero_le _, Nat.zero_le _⟩ (kX0_allCosts hR2.1.1 hN.2.2.1 hN.2.2.2.1 hR2.1.2.1 hR2.1.2.2.1) (zOb_of rfl) rfl rfl (Nat.le_of_ble_eq_true rfl) (fun M3 q3 => ?_)
    have hN3 : zLs M t M3 (zfs M (M 1 2) t s) := ⟨hN.1.tr (q3.mono (fun _ _ => zSx_c)), (q3 52 5 (by unfold zSx; omega)).trans hN.2.1, hN.2.2.1.fr q3, hN.2.2.2.1, hN.2.2.2.2⟩
    have hR3 := hR.fr hN3.1
    have hA3 := zAg.of hN3.1
    refine zV_aload_n (pc := 69) (i := 0) dX9_goodShift_69 rfl rfl ?_
    refine zV_get (pc := 70) (j := 6) dX9_goodShift_70 flX9_93 (zOb_of rfl) rfl hR3.1.1.e0_6 ?_
    refine zV_iload_n (pc := 73) (i := 1) dX9_goodShift_73 rfl rfl ?_
    refine zV_iload (pc := 74) dX9_goodShift_74 rfl ?_
    refine zV_ivq (pc := 76) (ci := 0) dX9_goodShift_76 klX9_225 mX0_mindsOf ⟨by decide, rfl⟩ rfl ⟨Nat.zero_le _, Nat.zero_le _⟩ (kX0_mindsOf hR3.1.1 hR3.1.2.1 hR3.1.2.2.1 (by rw [hA3.1]; exact ht) (by omega)) (zOb_of rfl) rfl rfl (Nat.le_of_ble_eq_true rfl) (fun M4 q4 => ?_)
    have hN4 : zLs M t M4 (zfs M (M 1 2) t s) := ⟨hN3.1.tr (q4.mono (fun _ _ => zSx_c)), (q4 52 5 (by unfold zSx; omega)).trans hN3.2.1, hN3.2.2.1.fr q4, hN3.2.2.2.1, hN3.2.2.2.2⟩
    have eC : zsum (zcs M2 (zfs M (M 1 2) t s)) 400 + ztx M3 2 (znm 0 t 0 (zTc M3 t 2) s (zTc M3 t 1)) = zgC M t s := by
      unfold zgC zTc
      rw [ztx_fr hU hN3.1, hA3.2 t 1 ht.1 (by omega), hA3.2 t 2 ht.1 (by omega), show zcs M2 (zfs M (M 1 2) t s) = zcs M (zfs M (M 1 2) t s) from funext (fun d => zcs_fr hW hU hN.1 _ d)]
    refine zV_iadd (pc := 79) dX9_goodShift_79 ?_
    rw [eC]
    have hc := zgC_r hW t s
    have hl := zgl_r (zgC_r hW t) (s - 1).toNat
    refine zV_istore (pc := 80) dX9_goodShift_80 rfl ?_
    try dsimp only [List.set_cons_succ, List.set_cons_zero]
    refine zV_iload (pc := 82) dX9_goodShift_82 rfl ?_
    refine zV_if_eq (pc := 84) (tgt := 94) dX9_goodShift_84 (by decide) (by omega) (fun c_84 => ?_) (fun c_84 => ?_)
    · refine zV_iload (pc := 94) dX9_goodShift_94 rfl ?_
      refine zV_istore_n (pc := 96) (i := 3) dX9_goodShift_96 rfl rfl ?_
      try dsimp only [List.set_cons_succ, List.set_cons_zero]
      refine zV_iload (pc := 97) dX9_goodShift_97 rfl ?_
      refine zV_istore (pc := 99) dX9_goodShift_99 rfl ?_
      try dsimp only [List.set_cons_succ, List.set_cons_zero]
      refine zV_iinc (pc := 101) dX9_goodShift_101 rfl rfl ?_
      refine zV_goto (pc := 104) (tgt := 45) dX9_goodShift_104 (by decide) ?_
      refine ih (s + 1) _ _ _ M4 _ (by omega) (by omega) hN4 ?_
      intro _
      rw [show s + 1 - 1 = s by omega]
      first
        | (have hs0 : s = 0 := by omega
           subst hs0
           exact ⟨rfl, rfl⟩)
        | (have h8 := zgl_t (c := zgC M t) (s := s) (by omega) (by omega); exact ⟨h8.2.symm, h8.1.symm⟩)
        | (have h8 := zgl_f (c := zgC M t) (s := s) (by omega) (by omega); exact ⟨by rw [h8.2]; exact h7.1, by rw [h8.1]; exact h7.2⟩)
    · refine zV_iload (pc := 87) dX9_goodShift_87 rfl ?_
      refine zV_iload (pc := 89) dX9_goodShift_89 rfl ?_
      have h7 := h3 (by omega)
      refine zV_icmp_ge (pc := 91) (tgt := 101) dX9_goodShift_91 (by decide) (by have h7 := h3 (by omega); omega) (fun c_91 => ?_) (fun c_91 => ?_)
      · refine zV_iinc (pc := 101) dX9_goodShift_101 rfl rfl ?_
        refine zV_goto (pc := 104) (tgt := 45) dX9_goodShift_104 (by decide) ?_
        refine ih (s + 1) _ _ _ M4 _ (by omega) (by omega) hN4 ?_
        intro _
        rw [show s + 1 - 1 = s by omega]
        first
          | (have hs0 : s = 0 := by omega
             subst hs0
             exact ⟨rfl, rfl⟩)
          | (have h8 := zgl_t (c := zgC M t) (s := s) (by omega) (by omega); exact ⟨h8.2.symm, h8.1.symm⟩)
          | (have h8 := zgl_f (c := zgC M t) (s := s) (by omega) (by omega); exact ⟨by rw [h8.2]; exact h7.1, by rw [h8.1]; exact h7.2⟩)
      · refine zV_iload (pc := 94) dX9_goodShift_94 rfl ?_
        refine zV_istore_n (pc := 96) (i := 3) dX9_goodShift_96 rfl rfl ?_
        try dsimp only [List.set_cons_succ, List.set_cons_zero]
        refine zV_iload (pc := 97) dX9_goodShift_97 rfl ?_
        refine zV_istore (pc := 99) dX9_goodShift_99 rfl ?_
        try dsimp only [List.set_cons_succ, List.set_cons_zero]
        refine zV_iinc (pc := 101) dX9_goodShift_101 rfl rfl ?_
        refine zV_goto (pc := 104) (tgt := 45) dX9_goodShift_104 (by decide) ?_
        refine ih (s + 1) _ _ _ M4 _ (by omega) (by omega) hN4 ?_
        intro _
        rw [show s + 1 - 1 = s by omega]
        first
          | (have hs0 : s = 0 := by omega
             subst hs0
             exact ⟨rfl, rfl⟩)
          | (have h8 := zgl_t (c := zgC M t) (s := s) (by omega) (by omega); exact ⟨h8.2.symm, h8.1.symm⟩)
          | (have h8 := zgl_f (c := zgC M t) (s := s) (by omega) (by omega); exact ⟨by rw [h8.2]; exact h7.1, by rw [h8.1]; exact h7.2⟩)
set_option maxRecDepth 20000 in
set_option maxHeartbeats 2000000 in
theorem kX9_goodShift (hR : zRo M) {t m : Int} (ht : -2147483648 ≤ t ∧ t ≤ 2147483647) (hm : -2147483648 ≤ m ∧ m ≤ 2147483647) : zK g yX9_goodShift xX9_goodShift [zr 0, zi t, zi m] 75 M (zPq (zi (zif ((0 ≤ t ∧ t < M 1 1) ∧ (0 ≤ m ∧ m ≤ 1)) (if m = 0 then zgb (zgC M t) 59 else zgl (zgC M t) 59) (-2))) 75 (fun M1 => zFr zSc M M1)) := by
  refine zK_of (ls0 := [zr 0, zi t, zi m, (3, 0), (3, 0), (3, 0), (3, 0)]) (by decide) rfl (by decide) rfl (Nat.le_of_ble_eq_true rfl) ?_
  obtain ⟨hS, hW, hU, hh⟩ := id hR
  have hn := hW.1
  refine zV_aload_n (pc := 0) (i := 0) dX9_goodShift_0 rfl rfl ?_
  refine zV_get (pc := 1) (j := 0) dX9_goodShift_1 flX9_12 (zOb_of rfl) rfl hS.e0_0 ?_
  refine zV_iload_n (pc := 4) (i := 1) dX9_goodShift_4 rfl rfl ?_
  refine zV_ivp (pc := 5) (ci := 5) dX9_goodShift_5 klX9_100 mX5_has ⟨by decide, rfl⟩ rfl ⟨Nat.zero_le _, Nat.zero_le _⟩ (kX5_has hS hn (by omega)) (zOb_of rfl) rfl rfl (Nat.le_of_ble_eq_true rfl) ?_
  refine zV_if_eqb (pc := 8) (tgt := 20) dX9_goodShift_8 (by decide) (fun c_8 => ?_) (fun c_8 => ?_)
  · refine zV_bipush (pc := 20) dX9_goodShift_20 (by decide) ?_
    refine zV_iret (pc := 22) dX9_goodShift_22 trivial ⟨Nat.zero_le _, Nat.zero_le _⟩ ?_
    first
      | exact ⟨by rw [zif_f (fun q => c_8 q.1)], rfl, zFr.rf⟩
      | exact ⟨by rw [zif_f (fun q => c_17 q.2)], rfl, zFr.rf⟩
  · refine zV_iload_n (pc := 11) (i := 2) dX9_goodShift_11 rfl rfl ?_
    refine zV_iconst (pc := 12) dX9_goodShift_12 ?_
    refine zV_iconst (pc := 13) dX9_goodShift_13 ?_
    refine zV_isp (pc := 14) dX9_goodShift_14 klX9_119 mX9_within rfl ⟨Nat.zero_le _, Nat.zero_le _⟩ (kX9_within (by omega) (by omega) (by omega)) rfl rfl (Nat.le_of_ble_eq_true rfl) ?_
    refine zV_if_neb (pc := 17) (tgt := 23) dX9_goodShift_17 (by decide) (fun c_17 => ?_) (fun c_17 => ?_)
    · refine zV_aload_n (pc := 23) (i := 0) dX9_goodShift_23 rfl rfl ?_
      refine zV_get (pc := 24) (j := 6) dX9_goodShift_24 flX9_93 (zOb_of rfl) rfl hS.e0_6 ?_
      refine zV_aload_n (pc := 27) (i := 0) dX9_goodShift_27 rfl rfl ?_
      refine zV_get (pc := 28) (j := 0) dX9_goodShift_28 flX9_12 (zOb_of rfl) rfl hS.e0_0 ?_
      refine zV_get (pc := 31) (j := 2) dX9_goodShift_31 flX9_123 (zOb_of rfl) rfl rfl ?_
      refine zV_ivn (pc := 34) (ci := 0) dX9_goodShift_34 klX9_139 mX0_fill ⟨by decide, rfl⟩ rfl ⟨Nat.zero_le _, Nat.zero_le _⟩ (kX0_fill hS hW hh) (zOb_of rfl) rfl rfl (Nat.le_of_ble_eq_true rfl) (fun M1 q => ?_)
      obtain ⟨q1, q2, q3⟩ := q
      have f1 : zFr zSc M M1 := q3.mono (fun a j e => by unfold zSc; omega)
      have h6 : ∀ d : Int, 0 ≤ d → d < 400 → 0 ≤ zsn M (M 1 2) d ∧ zsn M (M 1 2) d < 64 := fun d _ _ => zsn_r hn _ d
      refine zV_iconst (pc := 37) dX9_goodShift_37 ?_
      refine zV_istore_n (pc := 38) (i := 3) dX9_goodShift_38 rfl rfl ?_
      try dsimp only [List.set_cons_succ, List.set_cons_zero]
      refine zV_iconst (pc := 39) dX9_goodShift_39 ?_
      refine zV_istore (pc := 40) dX9_goodShift_40 rfl ?_
      try dsimp only [List.set_cons_succ, List.set_cons_zero]
      refine zV_iconst (pc := 42) dX9_goodShift_42 ?_
      refine zV_istore (pc := 43) dX9_goodShift_43 rfl ?_
      try dsimp only [List.set_cons_succ, List.set_cons_zero]
      exact (kX9_gsL hR c_8 c_17 60 0 0 0 _ M1 _ (by omega) (by omega) ⟨f1, q1, q2, h6, fun d q d0 d1 => rfl⟩ (fun e => absurd e (by omega))).mono (fun v N9 M9 q => ⟨by rw [zif_t ⟨c_8, c_17⟩]; exact q.1, q.2⟩)
    · refine zV_bipush (pc := 20) dX9_goodShift_20 (by decide) ?_
      refine zV_iret (pc := 22) dX9_goodShift_22 trivial ⟨Nat.zero_le _, Nat.zero_le _⟩ ?_
      first
        | exact ⟨by rw [zif_f (fun q => c_8 q.1)], rfl, zFr.rf⟩
        | exact ⟨by rw [zif_f (fun q => c_17 q.2)], rfl, zFr.rf⟩
end
