/-! meet, every (printed by wip/whole/p31.py) -/
/-- d is a day with all things below i of the set s -/
def zmc (T : Int → Int → Int) (s i d : Int) : Prop := 0 ≤ d ∧ ∀ e : Int, 0 ≤ e → e < i → zbt s e → T e 3 ≤ d ∧ (d - T e 3) % T e 2 = 0
theorem zmc_0 {T : Int → Int → Int} {s d : Int} : zmc T s 0 d ↔ zmR 0 1 d := by
  constructor
  · rintro ⟨h, -⟩
    exact ⟨d.toNat, by omega⟩
  · rintro ⟨k, rfl⟩
    exact ⟨by omega, fun e e0 e1 => by omega⟩
theorem zmc_n {T : Int → Int → Int} {s i d : Int} (hi : 0 ≤ i) (hb : ¬ zbt s i) : zmc T s (i + 1) d ↔ zmc T s i d := by
  constructor
  · rintro ⟨h, h2⟩
    exact ⟨h, fun e e0 e1 hb => h2 e e0 (by omega) hb⟩
  · rintro ⟨h, h2⟩
    refine ⟨h, fun e e0 e1 hb2 => ?_⟩
    by_cases ee : e = i
    · subst ee
      exact absurd hb2 hb
    · exact h2 e e0 (by omega) hb2
theorem zmc_y {T : Int → Int → Int} {s i d : Int} (hi : 0 ≤ i) (hb : zbt s i) : zmc T s (i + 1) d ↔ (zmc T s i d ∧ T i 3 ≤ d ∧ (d - T i 3) % T i 2 = 0) := by
  constructor
  · rintro ⟨h, h2⟩
    exact ⟨⟨h, fun e e0 e1 hb => h2 e e0 (by omega) hb⟩, h2 i hi (by omega) hb⟩
  · rintro ⟨⟨h, h2⟩, h3⟩
    refine ⟨h, fun e e0 e1 hb2 => ?_⟩
    by_cases ee : e = i
    · subst ee
      exact h3
    · exact h2 e e0 (by omega) hb2
def z60 (i : Int) : Int := if i ≤ 0 then 1 else if i = 1 then 60 else if i = 2 then 3600 else if i = 3 then 216000 else if i = 4 then 12960000 else if i = 5 then 777600000 else 46656000000
theorem z60_s {i : Int} (h : 0 ≤ i ∧ i < 6) : z60 (i + 1) = 60 * z60 i := by
  rcases (show i = 0 ∨ i = 1 ∨ i = 2 ∨ i = 3 ∨ i = 4 ∨ i = 5 by omega) with rfl | rfl | rfl | rfl | rfl | rfl <;> decide
theorem z60_b {i : Int} : 1 ≤ z60 i ∧ z60 i ≤ 46656000000 := by
  unfold z60
  repeat' split
  all_goals omega
/-- how many days the days meant may lie at -/
def zmB (f s i : Int) : Prop := (0 ≤ f ∧ f ≤ 60 + 2 * z60 i) ∧ 1 ≤ s ∧ s ≤ z60 i
theorem zmB_n {f s i : Int} (h : zmB f s i) (hi : 0 ≤ i ∧ i < 6) : zmB f s (i + 1) := by
  have := z60_s hi
  have := z60_b (i := i)
  unfold zmB at h ⊢
  omega
/-- the round of the set's days, one thing more -/
theorem zm_step {T : Int → Int → Int} {S i f s t f1 s1 : Int} (hi : 0 ≤ i ∧ i < 6) (hb : zbt S i) (hB : zmB f s i) (h : ∀ d, zmc T S i d ↔ zmR f s d) (hp : 1 ≤ T i 2 ∧ T i 2 ≤ 60) (hb3 : 0 ≤ T i 3 ∧ T i 3 ≤ 59) (ht : 0 ≤ t ∧ t < T i 2) (h0 : (f + t * s - T i 3) % T i 2 = 0) (hm : ∀ j : Int, 0 ≤ j → j < t → (f + j * s - T i 3) % T i 2 ≠ 0) (e1 : s1 = s / zgc s (T i 2) * T i 2) (e0 : f1 = zna (f + t * s) (T i 3) (s / zgc s (T i 2) * T i 2)) : zmB f1 s1 (i + 1) ∧ ∀ d, zmc T S (i + 1) d ↔ zmR f1 s1 d := by
  have hB' := hB
  unfold zmB at hB'
  have hg := zgc_p (a := s) (b := T i 2) (Or.inl (by omega))
  have hq0 : 1 ≤ s / zgc s (T i 2) := by
    have := Int.ediv_le_ediv hg (zgc_le (a := s) (b := T i 2) (by omega))
    rw [Int.ediv_self (by omega)] at this
    exact this
  have hq1 : s / zgc s (T i 2) ≤ s := Int.ediv_le_self _ (by omega)
  have hn0 : 1 * T i 2 ≤ s / zgc s (T i 2) * T i 2 := Int.mul_le_mul_of_nonneg_right hq0 (by omega)
  have hn1 : s / zgc s (T i 2) * T i 2 ≤ s * 60 := Int.le_trans (Int.mul_le_mul_of_nonneg_right hq1 (by omega)) (Int.mul_le_mul_of_nonneg_left hp.2 (by omega))
  have hts : 0 ≤ t * s ∧ t * s ≤ 59 * s := ⟨Int.mul_nonneg (by omega) (by omega), Int.mul_le_mul_of_nonneg_right (by omega) (by omega)⟩
  have z1 := z60_s hi
  have z2 := z60_b (i := i)
  have key := fun d => zmt_in (d := d) hB'.2.1 hp.1 ht.1 h0 hm
  rw [← e1] at e0 hn0 hn1 key
  have nb := zna_b (d := f + t * s) (b := T i 3) (s := s1) (by omega) (by omega)
  rw [← e0] at nb
  refine ⟨by unfold zmB; omega, fun d => ?_⟩
  rw [zmc_y hi.1 hb, h]
  have k2 : (zmR f s d ∧ T i 3 ≤ d ∧ (d - T i 3) % T i 2 = 0) ↔ (zmR (f + t * s) s1 d ∧ T i 3 ≤ d) := by
    constructor
    · rintro ⟨a, b, c⟩
      exact ⟨(key d).mp ⟨a, c⟩, b⟩
    · rintro ⟨a, b⟩
      have := (key d).mpr a
      exact ⟨this.1, b, this.2⟩
  rw [k2]
  unfold zna at e0
  by_cases hc : T i 3 ≤ f + t * s
  · rw [if_pos hc] at e0
    rw [e0]
    refine ⟨fun q => q.1, fun q => ⟨q, ?_⟩⟩
    obtain ⟨k, rfl⟩ := q
    have : 0 ≤ (k : Int) * s1 := Int.mul_nonneg (by omega) (by omega)
    omega
  · rw [if_neg hc] at e0
    rw [zmt_ah (by omega) (by omega), e0]
/-- .. or none is left -/
theorem zm_stop {T : Int → Int → Int} {S i n f s : Int} (hi : 0 ≤ i) (hin : i < n) (hb : zbt S i) (h : ∀ d, zmc T S i d ↔ zmR f s d) (hp : 1 ≤ T i 2) (hm : ∀ j : Int, 0 ≤ j → j < T i 2 → (f + j * s - T i 3) % T i 2 ≠ 0) (d : Int) : ¬ zmc T S n d := by
  rintro ⟨h1, h2⟩
  have a : zmc T S i d := ⟨h1, fun e e0 e1 hb => h2 e e0 (by omega) hb⟩
  exact zmt_no hp hm ⟨(h d).mp a, (h2 i hi hin hb).2⟩
theorem zmc_m {T : Int → Int → Int} {S i n f s : Int} (hi : 0 ≤ i ∧ i < 6) (hb : ¬ zbt S i) (h : ∀ d, zmc T S (min i n) d ↔ zmR f s d) : ∀ d, zmc T S (min (i + 1) n) d ↔ zmR f s d := by
  by_cases c : i < n
  · rw [show min i n = i by omega] at h
    rw [show min (i + 1) n = i + 1 by omega]
    exact fun d => (zmc_n hi.1 hb).trans (h d)
  · rw [show min (i + 1) n = min i n by omega]
    exact h
theorem zmB_m {f s i n : Int} (hi : 0 ≤ i ∧ i < 6) (h : zmB f s (min i n)) : zmB f s (min (i + 1) n) := by
  by_cases c : i < n
  · rw [show min i n = i by omega] at h
    rw [show min (i + 1) n = i + 1 by omega]
    exact zmB_n h hi
  · rw [show min (i + 1) n = min i n by omega]
    exact h
section
variable {g : zG} {N : Nat} {M : zM}
set_option maxRecDepth 20000 in
set_option maxHeartbeats 2000000 in
theorem kX9_fmL (hR : zRo M) {S : Int} (hs : 0 ≤ S ∧ S ≤ 2147483647) : ∀ (k : Nat) (i : Int) (M1 : zM), i + k = 6 → 0 ≤ i → zFr zSc M M1 → (∀ d, zmc (zTc M) S (min i (M 1 1)) d ↔ zmR (M1 20 0) (M1 20 1) d) → zmB (M1 20 0) (M1 20 1) (min i (M 1 1)) → zV g xX9_findMeeting (fun w N' M1 => N' = 75 ∧ zFr zSc M M1 ∧ ((w = some (zi 0) ∧ ∀ d, ¬ zmc (zTc M) S (M 1 1) d) ∨ (w = some (zi 1) ∧ (∀ d, zmc (zTc M) S (M 1 1) d ↔ zmR (M1 20 0) (M1 20 1) d) ∧ zmB (M1 20 0) (M1 20 1) (M 1 1)))) 22 [zr 0, zi S, zi i] [] 75 M1 0 0 := by
  intro k
  induction k with
  | zero =>
    intro i M1 h0 h1 h2 h3 h4
    obtain ⟨hS, hW, hU, hh⟩ := id hR
    have hn := hW.1
    have hR1 := (hR.fr h2).1
    have hS1 := hR1.1
    have hA := zAg.of h2
    have hA1 : M1 1 1 = M 1 1 := hA.1
    have hB := h4
    unfold zmB at hB
    have zb1 := z60_b (i := min i (M 1 1))
    refine zV_iload_n (pc := 22) (i := 2) dX9_findMeeting_22 rfl rfl ?_
    refine zV_bipush (pc := 23) dX9_findMeeting_23 (by decide) ?_
    refine zV_icmp_ge (pc := 25) (tgt := 74) dX9_findMeeting_25 (by decide) (by omega) (fun c_25 => ?_) (fun c_25 => absurd (by omega) c_25)
    refine zV_iconst (pc := 74) dX9_findMeeting_74 ?_
    refine zV_iret (pc := 75) dX9_findMeeting_75 (by first | exact zok_b1 | exact zok_b0 | exact zok_b) ⟨Nat.zero_le _, Nat.zero_le _⟩ ?_
    rw [show min i (M 1 1) = M 1 1 by omega] at h3 h4
    exact ⟨rfl, h2, Or.inr ⟨rfl, h3, h4⟩⟩
  | succ k ih =>
    intro i M1 h0 h1 h2 h3 h4
    obtain ⟨hS, hW, hU, hh⟩ := id hR
    have hn := hW.1
    have hR1 := (hR.fr h2).1
    have hS1 := hR1.1
    have hA := zAg.of h2
    have hA1 : M1 1 1 = M 1 1 := hA.1
    have hB := h4
    unfold zmB at hB
    have zb1 := z60_b (i := min i (M 1 1))
    refine zV_iload_n (pc := 22) (i := 2) dX9_findMeeting_22 rfl rfl ?_
    refine zV_bipush (pc := 23) dX9_findMeeting_23 (by decide) ?_
    refine zV_icmp_ge (pc := 25) (tgt := 74) dX9_findMeeting_25 (by decide) (by omega) (fun c_25 => absurd c_25 (by omega)) (fun c_25 => ?_)
    refine zV_iload_n (pc := 28) (i := 1) dX9_findMeeting_28 rfl rfl ?_
    refine zV_iload_n (pc := 29) (i := 2) dX9_findMeeting_29 rfl rfl ?_
    refine zV_isp (pc := 30) dX9_findMeeting_30 klX9_195 mX9_hasBit rfl ⟨Nat.zero_le _, Nat.zero_le _⟩ (kX9_hasBit (by omega) (by omega)) rfl rfl (Nat.le_of_ble_eq_true rfl) ?_
    refine zV_if_eqb (pc := 33) (tgt := 68) dX9_findMeeting_33 (by decide) (fun c_33 => ?_) (fun c_33 => ?_)
    · refine zV_iinc (pc := 68) dX9_findMeeting_68 rfl rfl ?_
      try dsimp only [List.set_cons_succ, List.set_cons_zero]
      refine zV_goto (pc := 71) (tgt := 22) dX9_findMeeting_71 (by decide) ?_
      first
        | exact ih (i + 1) M1 (by omega) (by omega) h2 (zmc_m (by omega) c_33 h3) (zmB_m (by omega) h4)
        | exact ih (i + 1) M1 (by omega) (by omega) h2 (by rw [show min (i + 1) (M 1 1) = min i (M 1 1) by omega]; exact h3) (by rw [show min (i + 1) (M 1 1) = min i (M 1 1) by omega]; exact h4)
    · refine zV_aload_n (pc := 36) (i := 0) dX9_findMeeting_36 rfl rfl ?_
      refine zV_get (pc := 37) (j := 0) dX9_findMeeting_37 flX9_12 (zOb_of rfl) rfl hS1.e0_0 ?_
      refine zV_iload_n (pc := 40) (i := 2) dX9_findMeeting_40 rfl rfl ?_
      refine zV_ivp (pc := 41) (ci := 5) dX9_findMeeting_41 klX9_100 mX5_has ⟨by decide, rfl⟩ rfl ⟨Nat.zero_le _, Nat.zero_le _⟩ (kX5_has hS1 hR1.2.1.1 (by omega)) (zOb_of rfl) rfl rfl (Nat.le_of_ble_eq_true rfl) ?_
      refine zV_if_eqb (pc := 44) (tgt := 68) dX9_findMeeting_44 (by decide) (fun c_44 => ?_) (fun c_44 => ?_)
      · refine zV_iinc (pc := 68) dX9_findMeeting_68 rfl rfl ?_
        try dsimp only [List.set_cons_succ, List.set_cons_zero]
        refine zV_goto (pc := 71) (tgt := 22) dX9_findMeeting_71 (by decide) ?_
        first
          | exact ih (i + 1) M1 (by omega) (by omega) h2 (zmc_m (by omega) c_33 h3) (zmB_m (by omega) h4)
          | exact ih (i + 1) M1 (by omega) (by omega) h2 (by rw [show min (i + 1) (M 1 1) = min i (M 1 1) by omega]; exact h3) (by rw [show min (i + 1) (M 1 1) = min i (M 1 1) by omega]; exact h4)
      · rw [show min i (M 1 1) = i by omega] at h3 h4 hB zb1
        refine zV_aload_n (pc := 47) (i := 0) dX9_findMeeting_47 rfl rfl ?_
        refine zV_get (pc := 48) (j := 7) dX9_findMeeting_48 flX9_35 (zOb_of rfl) rfl hS1.e0_7 ?_
        refine zV_aload_n (pc := 51) (i := 0) dX9_findMeeting_51 rfl rfl ?_
        refine zV_get (pc := 52) (j := 0) dX9_findMeeting_52 flX9_12 (zOb_of rfl) rfl hS1.e0_0 ?_
        refine zV_get (pc := 55) (j := 0) dX9_findMeeting_55 flX9_108 (zOb_of rfl) rfl hS1.e1_0 ?_
        refine zV_iload_n (pc := 58) (i := 2) dX9_findMeeting_58 rfl rfl ?_
        refine zV_aald (pc := 59) dX9_findMeeting_59 (zAr_of rfl : zAr 75 2 2 6) ⟨rfl, rfl⟩ (by omega) (hS1.th (by omega)) ?_
        have hti := hW.2 i h1 (by omega)
        unfold zTh at hti
        have g2 : M1 (3 + i) 2 = M (3 + i) 2 := hA.2 i 2 (by omega) (by omega)
        have g3 : M1 (3 + i) 3 = M (3 + i) 3 := hA.2 i 3 (by omega) (by omega)
        have f2 : zTc M i 2 = M1 (3 + i) 2 := g2.symm
        have f3 : zTc M i 3 = M1 (3 + i) 3 := g3.symm
        refine zV_ivs (pc := 60) (ci := 2) dX9_findMeeting_60 klX9_198 mX2_takeIn ⟨by decide, rfl⟩ rfl ⟨Nat.zero_le _, Nat.zero_le _⟩ (kX2_takeIn (a := 3 + i) (zOb_th (by omega)) (by rw [g2]; omega) (by rw [g3]; omega) (by omega) (by omega) (by omega)) (zOb_of rfl) rfl rfl (Nat.le_of_ble_eq_true rfl) ?_
        rintro w N9 M2 ⟨rfl, ⟨t, t1, t2, t3, rfl, t4, t5, t6⟩ | ⟨t1, rfl, rfl⟩⟩
        · refine zV_if_ne (pc := 63) (tgt := 68) dX9_findMeeting_63 (by decide) (by omega) (fun c_63 => ?_) (fun c_63 => ?_)
          · refine zV_iinc (pc := 68) dX9_findMeeting_68 rfl rfl ?_
            try dsimp only [List.set_cons_succ, List.set_cons_zero]
            refine zV_goto (pc := 71) (tgt := 22) dX9_findMeeting_71 (by decide) ?_
            refine ih (i + 1) M2 (by omega) (by omega) (h2.tr (t6.mono (fun a j e => by unfold zSc; omega))) ?_ ?_
            · rw [show min (i + 1) (M 1 1) = i + 1 by omega]
              exact (zm_step (by omega) c_33 h4 h3 (by rw [f2]; omega) (by rw [f3]; omega) (by rw [f2]; omega) (by rw [f2, f3]; exact t2) (by rw [f2, f3]; exact t3) (by rw [f2]; exact t4) (by rw [f2, f3]; exact t5)).2
            · rw [show min (i + 1) (M 1 1) = i + 1 by omega]
              exact (zm_step (by omega) c_33 h4 h3 (by rw [f2]; omega) (by rw [f3]; omega) (by rw [f2]; omega) (by rw [f2, f3]; exact t2) (by rw [f2, f3]; exact t3) (by rw [f2]; exact t4) (by rw [f2, f3]; exact t5)).1
          · refine zV_iconst (pc := 66) dX9_findMeeting_66 ?_
            refine zV_iret (pc := 67) dX9_findMeeting_67 (by first | exact zok_b1 | exact zok_b0 | exact zok_b) ⟨Nat.zero_le _, Nat.zero_le _⟩ ?_
            exact absurd c_63 (by decide)
        · refine zV_if_ne (pc := 63) (tgt := 68) dX9_findMeeting_63 (by decide) (by omega) (fun c_63 => absurd c_63 (by decide)) (fun c_63 => ?_)
          refine zV_iconst (pc := 66) dX9_findMeeting_66 ?_
          refine zV_iret (pc := 67) dX9_findMeeting_67 (by first | exact zok_b1 | exact zok_b0 | exact zok_b) ⟨Nat.zero_le _, Nat.zero_le _⟩ ?_
          exact ⟨rfl, h2, Or.inl ⟨rfl, fun d => zm_stop h1 (by omega) c_33 h3 (by rw [f2]; omega) (by rw [f2, f3]; exact t1) d⟩⟩
set_option maxRecDepth 20000 in
set_option maxHeartbeats 2000000 in
theorem kX9_findMeeting (hR : zRo M) {S : Int} (hs : -2147483648 ≤ S ∧ S ≤ 2147483647) : zK g yX9_findMeeting xX9_findMeeting [zr 0, zi S] 75 M (fun w N' M1 => N' = 75 ∧ zFr zSc M M1 ∧ ((¬ (0 ≤ S ∧ S / 2 ^ (M 1 1).toNat = 0) ∧ w = some (zi 0)) ∨ ((0 ≤ S ∧ S / 2 ^ (M 1 1).toNat = 0) ∧ ((w = some (zi 0) ∧ ∀ d, ¬ zmc (zTc M) S (M 1 1) d) ∨ (w = some (zi 1) ∧ (∀ d, zmc (zTc M) S (M 1 1) d ↔ zmR (M1 20 0) (M1 20 1) d) ∧ zmB (M1 20 0) (M1 20 1) (M 1 1)))))) := by
  refine zK_of (ls0 := [zr 0, zi S, (3, 0)]) (by decide) rfl (by decide) rfl (Nat.le_of_ble_eq_true rfl) ?_
  obtain ⟨hS, hW, hU, hh⟩ := id hR
  have hn := hW.1
  refine zV_aload_n (pc := 0) (i := 0) dX9_findMeeting_0 rfl rfl ?_
  refine zV_get (pc := 1) (j := 0) dX9_findMeeting_1 flX9_12 (zOb_of rfl) rfl hS.e0_0 ?_
  refine zV_iload_n (pc := 4) (i := 1) dX9_findMeeting_4 rfl rfl ?_
  refine zV_ivp (pc := 5) (ci := 5) dX9_findMeeting_5 klX9_189 mX5_hasAll ⟨by decide, rfl⟩ rfl ⟨Nat.zero_le _, Nat.zero_le _⟩ (kX5_hasAll hS hn hs) (zOb_of rfl) rfl rfl (Nat.le_of_ble_eq_true rfl) ?_
  refine zV_if_neb (pc := 8) (tgt := 13) dX9_findMeeting_8 (by decide) (fun c_8 => ?_) (fun c_8 => ?_)
  · refine zV_aload_n (pc := 13) (i := 0) dX9_findMeeting_13 rfl rfl ?_
    refine zV_get (pc := 14) (j := 7) dX9_findMeeting_14 flX9_35 (zOb_of rfl) rfl hS.e0_7 ?_
    refine zV_ivn (pc := 17) (ci := 2) dX9_findMeeting_17 klX9_192 mX2_start ⟨by decide, rfl⟩ rfl ⟨Nat.zero_le _, Nat.zero_le _⟩ kX2_start (zOb_of rfl) rfl rfl (Nat.le_of_ble_eq_true rfl) (fun M1 q => ?_)
    obtain ⟨q0, q1, q2⟩ := q
    refine zV_iconst (pc := 20) dX9_findMeeting_20 ?_
    refine zV_istore_n (pc := 21) (i := 2) dX9_findMeeting_21 rfl rfl ?_
    try dsimp only [List.set_cons_succ, List.set_cons_zero]
    refine zV.mono (kX9_fmL hR (S := S) (by omega) 6 0 M1 (by omega) (by omega) (q2.mono (fun a j e => by unfold zSc; omega)) (fun d => by rw [show min 0 (M 1 1) = 0 by omega, q0, q1]; exact zmc_0) (by rw [show min 0 (M 1 1) = 0 by omega, q0, q1]; exact ⟨by decide, by decide⟩)) ?_
    exact fun _ _ _ h => ⟨h.1, h.2.1, Or.inr ⟨c_8, h.2.2⟩⟩
  · refine zV_iconst (pc := 11) dX9_findMeeting_11 ?_
    refine zV_iret (pc := 12) dX9_findMeeting_12 (by first | exact zok_b1 | exact zok_b0 | exact zok_b) ⟨Nat.zero_le _, Nat.zero_le _⟩ ?_
    exact ⟨rfl, zFr.rf, Or.inl ⟨c_8, rfl⟩⟩
end
