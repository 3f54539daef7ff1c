/-! THE CLASS: what a text tells (printed by wip/whole/p14.py) -/
theorem zstp_n {nm : Int → Int} {s : Int} {stk : List Int} (h : 0 ≤ s) : zstp nm s stk = if stk.length < 31 then s :: stk else stk := if_pos h
theorem zstp_m {nm : Int → Int} {s : Int} {stk : List Int} (h : s < 0) (h2 : -1 - s < 6) : zstp nm s stk = if stk.length < 31 then nm (-1 - s) :: stk else stk := by
  unfold zstp
  rw [if_neg (by omega), if_pos h2]
theorem zstp_1 {nm : Int → Int} {s : Int} {stk : List Int} (h : s = -13 ∨ s = -19) : zstp nm s stk = zchg s stk := by
  unfold zstp
  rw [if_neg (by omega), if_neg (by omega), if_pos h]
theorem zstp_2 {nm : Int → Int} {s : Int} {stk : List Int} (h : s < -6) (h2 : ¬ (s = -13 ∨ s = -19)) : zstp nm s stk = zcmb s stk := by
  unfold zstp
  rw [if_neg (by omega), if_neg (by omega), if_neg h2]
theorem zstp_cn {nm nm' : Int → Int} {s : Int} {stk : List Int} (h : ∀ j : Int, 0 ≤ j → j < 6 → nm j = nm' j) : zstp nm s stk = zstp nm' s stk := by
  by_cases h0 : 0 ≤ s
  · rw [zstp_n h0, zstp_n h0]
  · by_cases h1 : -1 - s < 6
    · rw [zstp_m (by omega) h1, zstp_m (by omega) h1, h _ (by omega) h1]
    · unfold zstp
      rw [if_neg h0, if_neg h0, if_neg h1, if_neg h1]
/-- n steps from place i on -/
noncomputable def zrun (sp nm : Int → Int) : Int → Nat → List Int → List Int
  | _, 0, stk => stk
  | i, n + 1, stk => zrun sp nm (i + 1) n (zstp nm (sp i) stk)
def zbot (stk : List Int) : Int := stk.reverse.headD 0
def zE (e : Int → Int) (k : Int) : Int := if k < 0 then 0 else e k
def zc99 (v : Int) : Int := max 0 (min v 99)
theorem zc99_r (v : Int) : 0 ≤ zc99 v ∧ zc99 v ≤ 99 := by
  unfold zc99
  omega
/-- what part k of a text with steps sp, ends e, tells, as the names are nm -/
noncomputable def ztl (sp e : Int → Int) (k : Int) (nm : Int → Int) : Int := zc99 (zbot (zrun sp nm (zE e (k - 1)) (zE e k - zE e (k - 1)).toNat []))
theorem zSk.bot {M : zM} {stk : List Int} (h : zSk M stk) (h0 : stk ≠ []) : M 55 0 = zbot stk := by
  unfold zbot
  cases e : stk.reverse with
  | nil => exact absurd (List.reverse_eq_nil_iff.mp e) h0
  | cons x r => exact h.2.2.1 0 x (by rw [e]; rfl)
theorem zSk.nil {M : zM} (h : M 53 2 = 0) : zSk M [] := ⟨h, Nat.zero_le _, fun j x hx => by simp at hx, fun x hx => by simp at hx⟩
theorem zSk.rng {M : zM} {stk : List Int} (h : zSk M stk) : -2147483648 ≤ zbot stk ∧ zbot stk ≤ 2147483647 := by
  unfold zbot
  cases e : stk.reverse with
  | nil => exact ⟨by decide, by decide⟩
  | cons x r => exact h.2.2.2 x (by rw [← List.mem_reverse, e]; exact List.mem_cons_self)
theorem zRk_st : ∀ q ∈ zstL, ¬ zRk q.1 q.2.1 := by
  unfold zRk
  decide
/-- the names, all told -/
def znm (day thing many period rest number : Int) : Int → Int := fun j => if j = 0 then day else if j = 1 then thing else if j = 2 then many else if j = 3 then period else if j = 4 then rest else number
def zNm (M : zM) (nm : Int → Int) : Prop := ∀ j : Int, 0 ≤ j → j < 6 → M 54 j = nm j ∧ -2147483648 ≤ nm j ∧ nm j ≤ 2147483647
section
variable {g : zG} {N : Nat} {M : zM}
set_option maxRecDepth 20000 in
set_option maxHeartbeats 2000000 in
theorem kX4_nameDay (hS : zSt M) {x y z : Int} (hx : -2147483648 ≤ x ∧ x ≤ 2147483647) (hy : -2147483648 ≤ y ∧ y ≤ 2147483647) (hz : -2147483648 ≤ z ∧ z ≤ 2147483647) : zK g yX4_nameDay xX4_nameDay [zr 53, zi x, zi y, zi z] 75 M (zPn 75 (fun M1 => M1 54 0 = x ∧ M1 54 2 = y ∧ M1 54 4 = z ∧ (∀ j : Int, j ≠ 0 → j ≠ 2 → j ≠ 4 → M1 54 j = M 54 j) ∧ zFr (fun a _ => a = 54) M M1)) := by
  refine zK_of (ls0 := [zr 53, zi x, zi y, zi z]) (by decide) rfl (by decide) rfl (Nat.le_of_ble_eq_true rfl) ?_
  refine zV_aload_n (pc := 0) (i := 0) dX4_nameDay_0 rfl rfl ?_
  refine zV_get (pc := 1) (j := 0) dX4_nameDay_1 flX4_9 (zOb_of rfl) rfl hS.e53_0 ?_
  refine zV_iconst (pc := 4) dX4_nameDay_4 ?_
  refine zV_iload_n (pc := 5) (i := 1) dX4_nameDay_5 rfl rfl ?_
  refine zV_iast (pc := 6) dX4_nameDay_6 (zAr_of rfl : zAr 75 54 0 6) (by omega) ?_
  refine zV_aload_n (pc := 7) (i := 0) dX4_nameDay_7 rfl rfl ?_
  refine zV_get (pc := 8) (j := 0) dX4_nameDay_8 flX4_9 (zOb_of rfl) rfl ((zU_a _ _ _ _ (by decide)).trans hS.e53_0) ?_
  refine zV_iconst (pc := 11) dX4_nameDay_11 ?_
  refine zV_iload_n (pc := 12) (i := 2) dX4_nameDay_12 rfl rfl ?_
  refine zV_iast (pc := 13) dX4_nameDay_13 (zAr_of rfl : zAr 75 54 0 6) (by omega) ?_
  refine zV_aload_n (pc := 14) (i := 0) dX4_nameDay_14 rfl rfl ?_
  refine zV_get (pc := 15) (j := 0) dX4_nameDay_15 flX4_9 (zOb_of rfl) rfl ((zU_a _ _ _ _ (by decide)).trans ((zU_a _ _ _ _ (by decide)).trans hS.e53_0)) ?_
  refine zV_iconst (pc := 18) dX4_nameDay_18 ?_
  refine zV_iload_n (pc := 19) (i := 3) dX4_nameDay_19 rfl rfl ?_
  refine zV_iast (pc := 20) dX4_nameDay_20 (zAr_of rfl : zAr 75 54 0 6) (by omega) ?_
  refine zV_vret (pc := 21) dX4_nameDay_21 trivial ⟨Nat.zero_le _, Nat.zero_le _⟩ ?_
  refine ⟨rfl, rfl, ?_, ?_, ?_, ?_, zFr.up (zFr.up (zFr.up zFr.rf rfl) rfl) rfl⟩
  · simp [zU]
  · simp [zU]
  · simp [zU]
  · intro j h1 h2 h3
    simp [zU, h1, h2, h3]
set_option maxRecDepth 20000 in
set_option maxHeartbeats 2000000 in
theorem kX4_nameThing (hS : zSt M) {x y z : Int} (hx : -2147483648 ≤ x ∧ x ≤ 2147483647) (hy : -2147483648 ≤ y ∧ y ≤ 2147483647) (hz : -2147483648 ≤ z ∧ z ≤ 2147483647) : zK g yX4_nameThing xX4_nameThing [zr 53, zi x, zi y, zi z] 75 M (zPn 75 (fun M1 => M1 54 1 = x ∧ M1 54 3 = y ∧ M1 54 5 = z ∧ (∀ j : Int, j ≠ 1 → j ≠ 3 → j ≠ 5 → M1 54 j = M 54 j) ∧ zFr (fun a _ => a = 54) M M1)) := by
  refine zK_of (ls0 := [zr 53, zi x, zi y, zi z]) (by decide) rfl (by decide) rfl (Nat.le_of_ble_eq_true rfl) ?_
  refine zV_aload_n (pc := 0) (i := 0) dX4_nameThing_0 rfl rfl ?_
  refine zV_get (pc := 1) (j := 0) dX4_nameThing_1 flX4_9 (zOb_of rfl) rfl hS.e53_0 ?_
  refine zV_iconst (pc := 4) dX4_nameThing_4 ?_
  refine zV_iload_n (pc := 5) (i := 1) dX4_nameThing_5 rfl rfl ?_
  refine zV_iast (pc := 6) dX4_nameThing_6 (zAr_of rfl : zAr 75 54 0 6) (by omega) ?_
  refine zV_aload_n (pc := 7) (i := 0) dX4_nameThing_7 rfl rfl ?_
  refine zV_get (pc := 8) (j := 0) dX4_nameThing_8 flX4_9 (zOb_of rfl) rfl ((zU_a _ _ _ _ (by decide)).trans hS.e53_0) ?_
  refine zV_iconst (pc := 11) dX4_nameThing_11 ?_
  refine zV_iload_n (pc := 12) (i := 2) dX4_nameThing_12 rfl rfl ?_
  refine zV_iast (pc := 13) dX4_nameThing_13 (zAr_of rfl : zAr 75 54 0 6) (by omega) ?_
  refine zV_aload_n (pc := 14) (i := 0) dX4_nameThing_14 rfl rfl ?_
  refine zV_get (pc := 15) (j := 0) dX4_nameThing_15 flX4_9 (zOb_of rfl) rfl ((zU_a _ _ _ _ (by decide)).trans ((zU_a _ _ _ _ (by decide)).trans hS.e53_0)) ?_
  refine zV_iconst (pc := 18) dX4_nameThing_18 ?_
  refine zV_iload_n (pc := 19) (i := 3) dX4_nameThing_19 rfl rfl ?_
  refine zV_iast (pc := 20) dX4_nameThing_20 (zAr_of rfl : zAr 75 54 0 6) (by omega) ?_
  refine zV_vret (pc := 21) dX4_nameThing_21 trivial ⟨Nat.zero_le _, Nat.zero_le _⟩ ?_
  refine ⟨rfl, rfl, ?_, ?_, ?_, ?_, zFr.up (zFr.up (zFr.up zFr.rf rfl) rfl) rfl⟩
  · simp [zU]
  · simp [zU]
  · simp [zU]
  · intro j h1 h2 h3
    simp [zU, h1, h2, h3]
set_option maxRecDepth 20000 in
set_option maxHeartbeats 2000000 in
theorem kX7_endOf (hS : zSt M) {t : Int} (ht : 0 ≤ t ∧ t < 6) {k : Int} (hk : -1 ≤ k ∧ k < 3) : zK g yX7_endOf xX7_endOf [zr (26 + 3 * t), zi k] 75 M (zPp (zi (zE (M (28 + 3 * t)) k)) 75 M) := by
  refine zK_of (ls0 := [zr (26 + 3 * t), zi k]) (by decide) rfl (by decide) rfl (Nat.le_of_ble_eq_true rfl) ?_
  refine zV_iload_n (pc := 0) (i := 1) dX7_endOf_0 rfl rfl ?_
  refine zV_if_lt (pc := 1) (tgt := 22) dX7_endOf_1 (by decide) (by omega) (fun c_1 => ?_) (fun c_1 => ?_)
  · refine zV_iconst (pc := 22) dX7_endOf_22 ?_
    refine zV_iret (pc := 23) dX7_endOf_23 trivial ⟨Nat.zero_le _, Nat.zero_le _⟩ ?_
    first
      | (exfalso; omega)
      | exact zPe (by unfold zE; rw [if_neg (by omega)])
      | exact zPe (by unfold zE; rw [if_pos (by omega)])
  · refine zV_iload_n (pc := 4) (i := 1) dX7_endOf_4 rfl rfl ?_
    refine zV_aload_n (pc := 5) (i := 0) dX7_endOf_5 rfl rfl ?_
    refine zV_get (pc := 6) (j := 1) dX7_endOf_6 flX7_15 (zOb_tx ht) rfl (hS.tse ht) ?_
    refine zV_alen (pc := 9) dX7_endOf_9 (zAr_te ht) ?_
    refine zV_icmp_ge (pc := 10) (tgt := 22) dX7_endOf_10 (by decide) (by omega) (fun c_10 => ?_) (fun c_10 => ?_)
    · refine zV_iconst (pc := 22) dX7_endOf_22 ?_
      refine zV_iret (pc := 23) dX7_endOf_23 trivial ⟨Nat.zero_le _, Nat.zero_le _⟩ ?_
      first
        | (exfalso; omega)
        | exact zPe (by unfold zE; rw [if_neg (by omega)])
        | exact zPe (by unfold zE; rw [if_pos (by omega)])
    · refine zV_aload_n (pc := 13) (i := 0) dX7_endOf_13 rfl rfl ?_
      refine zV_get (pc := 14) (j := 1) dX7_endOf_14 flX7_15 (zOb_tx ht) rfl (hS.tse ht) ?_
      refine zV_iload_n (pc := 17) (i := 1) dX7_endOf_17 rfl rfl ?_
      refine zV_iald (pc := 18) dX7_endOf_18 (zAr_te ht) (by omega) rfl ?_
      refine zV_goto (pc := 19) (tgt := 23) dX7_endOf_19 (by decide) ?_
      refine zV_iret (pc := 23) dX7_endOf_23 trivial ⟨Nat.zero_le _, Nat.zero_le _⟩ ?_
      first
        | (exfalso; omega)
        | exact zPe (by unfold zE; rw [if_neg (by omega)])
        | exact zPe (by unfold zE; rw [if_pos (by omega)])
set_option maxRecDepth 20000 in
set_option maxHeartbeats 2000000 in
theorem kX7_startOf (hS : zSt M) {t : Int} (ht : 0 ≤ t ∧ t < 6) {k : Int} (hk : 0 ≤ k ∧ k < 3) : zK g yX7_startOf xX7_startOf [zr (26 + 3 * t), zi k] 75 M (zPp (zi (zE (M (28 + 3 * t)) (k - 1))) 75 M) := by
  refine zK_of (ls0 := [zr (26 + 3 * t), zi k]) (by decide) rfl (by decide) rfl (Nat.le_of_ble_eq_true rfl) ?_
  refine zV_aload_n (pc := 0) (i := 0) dX7_startOf_0 rfl rfl ?_
  refine zV_iload_n (pc := 1) (i := 1) dX7_startOf_1 rfl rfl ?_
  refine zV_iconst (pc := 2) dX7_startOf_2 ?_
  refine zV_isub (pc := 3) dX7_startOf_3 ?_
  refine zV_ivp (pc := 4) (ci := 7) dX7_startOf_4 klX7_22 mX7_endOf ⟨by decide, rfl⟩ rfl ⟨Nat.zero_le _, Nat.zero_le _⟩ (kX7_endOf hS ht (by omega)) (zOb_tx ht) rfl rfl (Nat.le_of_ble_eq_true rfl) ?_
  refine zV_iret (pc := 7) dX7_startOf_7 trivial ⟨Nat.zero_le _, Nat.zero_le _⟩ ?_
  exact ⟨rfl, rfl, rfl⟩
set_option maxRecDepth 20000 in
set_option maxHeartbeats 2000000 in
theorem kX4_take (hS : zSt M) {nm : Int → Int} (hN : zNm M nm) {stk : List Int} (hK : zSk M stk) {s : Int} (hs : -2147483648 ≤ s ∧ s ≤ 2147483647) : zK g yX4_take xX4_take [zr 53, zi s] 75 M (zPn 75 (fun M1 => zSk M1 (zstp nm s stk) ∧ zFr zRk M M1)) := by
  refine zK_of (ls0 := [zr 53, zi s, (3, 0)]) (by decide) rfl (by decide) rfl (Nat.le_of_ble_eq_true rfl) ?_
  refine zV_iconst (pc := 0) dX4_take_0 ?_
  refine zV_iload_n (pc := 1) (i := 1) dX4_take_1 rfl rfl ?_
  refine zV_isub (pc := 2) dX4_take_2 ?_
  refine zV_istore_n (pc := 3) (i := 2) dX4_take_3 rfl rfl ?_
  try dsimp only [List.set_cons_succ, List.set_cons_zero]
  refine zV_iload_n (pc := 4) (i := 1) dX4_take_4 rfl rfl ?_
  refine zV_if_lt (pc := 5) (tgt := 16) dX4_take_5 (by decide) (by omega) (fun c_5 => ?_) (fun c_5 => ?_)
  · refine zV_iload_n (pc := 16) (i := 2) dX4_take_16 rfl rfl ?_
    refine zV_aload_n (pc := 17) (i := 0) dX4_take_17 rfl rfl ?_
    refine zV_get (pc := 18) (j := 0) dX4_take_18 flX4_9 (zOb_of rfl) rfl hS.e53_0 ?_
    refine zV_alen (pc := 21) dX4_take_21 (zAr_of rfl : zAr 75 54 0 6) ?_
    refine zV_icmp_ge (pc := 22) (tgt := 38) dX4_take_22 (by decide) (by omega) (fun c_22 => ?_) (fun c_22 => ?_)
    · refine zV_iload_n (pc := 38) (i := 1) dX4_take_38 rfl rfl ?_
      refine zV_bipush (pc := 39) dX4_take_39 (by decide) ?_
      refine zV_icmp_eq (pc := 41) (tgt := 50) dX4_take_41 (by decide) (by omega) (fun c_41 => ?_) (fun c_41 => ?_)
      · refine zV_aload_n (pc := 50) (i := 0) dX4_take_50 rfl rfl ?_
        refine zV_iload_n (pc := 51) (i := 1) dX4_take_51 rfl rfl ?_
        refine zV_ivn (pc := 52) (ci := 4) dX4_take_52 klX4_50 mX4_change ⟨by decide, rfl⟩ rfl ⟨Nat.zero_le _, Nat.zero_le _⟩ (kX4_change hS hK hs) (zOb_of rfl) rfl rfl (Nat.le_of_ble_eq_true rfl) (fun M1 q => ?_)
        refine zV_goto (pc := 55) (tgt := 63) dX4_take_55 (by decide) ?_
        refine zV_vret (pc := 63) dX4_take_63 trivial ⟨Nat.zero_le _, Nat.zero_le _⟩ ?_
        first
          | exact ⟨rfl, rfl, by rw [zstp_n (by omega)]; exact q.1, q.2⟩
          | exact ⟨rfl, rfl, by rw [zstp_m (by omega) (by omega)]; exact q.1, q.2⟩
          | exact ⟨rfl, rfl, by rw [zstp_1 (by omega)]; exact q.1, q.2⟩
          | exact ⟨rfl, rfl, by rw [zstp_2 (by omega) (by omega)]; exact q.1, q.2⟩
      · refine zV_iload_n (pc := 44) (i := 1) dX4_take_44 rfl rfl ?_
        refine zV_bipush (pc := 45) dX4_take_45 (by decide) ?_
        refine zV_icmp_ne (pc := 47) (tgt := 58) dX4_take_47 (by decide) (by omega) (fun c_47 => ?_) (fun c_47 => ?_)
        · refine zV_aload_n (pc := 58) (i := 0) dX4_take_58 rfl rfl ?_
          refine zV_iload_n (pc := 59) (i := 1) dX4_take_59 rfl rfl ?_
          refine zV_ivn (pc := 60) (ci := 4) dX4_take_60 klX4_53 mX4_combine ⟨by decide, rfl⟩ rfl ⟨Nat.zero_le _, Nat.zero_le _⟩ (kX4_combine hS hK hs) (zOb_of rfl) rfl rfl (Nat.le_of_ble_eq_true rfl) (fun M1 q => ?_)
          refine zV_vret (pc := 63) dX4_take_63 trivial ⟨Nat.zero_le _, Nat.zero_le _⟩ ?_
          first
            | exact ⟨rfl, rfl, by rw [zstp_n (by omega)]; exact q.1, q.2⟩
            | exact ⟨rfl, rfl, by rw [zstp_m (by omega) (by omega)]; exact q.1, q.2⟩
            | exact ⟨rfl, rfl, by rw [zstp_1 (by omega)]; exact q.1, q.2⟩
            | exact ⟨rfl, rfl, by rw [zstp_2 (by omega) (by omega)]; exact q.1, q.2⟩
        · refine zV_aload_n (pc := 50) (i := 0) dX4_take_50 rfl rfl ?_
          refine zV_iload_n (pc := 51) (i := 1) dX4_take_51 rfl rfl ?_
          refine zV_ivn (pc := 52) (ci := 4) dX4_take_52 klX4_50 mX4_change ⟨by decide, rfl⟩ rfl ⟨Nat.zero_le _, Nat.zero_le _⟩ (kX4_change hS hK hs) (zOb_of rfl) rfl rfl (Nat.le_of_ble_eq_true rfl) (fun M1 q => ?_)
          refine zV_goto (pc := 55) (tgt := 63) dX4_take_55 (by decide) ?_
          refine zV_vret (pc := 63) dX4_take_63 trivial ⟨Nat.zero_le _, Nat.zero_le _⟩ ?_
          first
            | exact ⟨rfl, rfl, by rw [zstp_n (by omega)]; exact q.1, q.2⟩
            | exact ⟨rfl, rfl, by rw [zstp_m (by omega) (by omega)]; exact q.1, q.2⟩
            | exact ⟨rfl, rfl, by rw [zstp_1 (by omega)]; exact q.1, q.2⟩
            | exact ⟨rfl, rfl, by rw [zstp_2 (by omega) (by omega)]; exact q.1, q.2⟩
    · refine zV_aload_n (pc := 25) (i := 0) dX4_take_25 rfl rfl ?_
      refine zV_aload_n (pc := 26) (i := 0) dX4_take_26 rfl rfl ?_
      refine zV_get (pc := 27) (j := 0) dX4_take_27 flX4_9 (zOb_of rfl) rfl hS.e53_0 ?_
      refine zV_iload_n (pc := 30) (i := 2) dX4_take_30 rfl rfl ?_
      refine zV_iald (pc := 31) dX4_take_31 (zAr_of rfl : zAr 75 54 0 6) (by omega) (hN _ (by omega) (by omega)).1 ?_
      refine zV_ivn (pc := 32) (ci := 4) dX4_take_32 klX4_47 mX4_push ⟨by decide, rfl⟩ rfl ⟨Nat.zero_le _, Nat.zero_le _⟩ (kX4_push hS hK (hN _ (by omega) (by omega)).2) (zOb_of rfl) rfl rfl (Nat.le_of_ble_eq_true rfl) (fun M1 q => ?_)
      refine zV_goto (pc := 35) (tgt := 63) dX4_take_35 (by decide) ?_
      refine zV_vret (pc := 63) dX4_take_63 trivial ⟨Nat.zero_le _, Nat.zero_le _⟩ ?_
      first
        | exact ⟨rfl, rfl, by rw [zstp_n (by omega)]; exact q.1, q.2⟩
        | exact ⟨rfl, rfl, by rw [zstp_m (by omega) (by omega)]; exact q.1, q.2⟩
        | exact ⟨rfl, rfl, by rw [zstp_1 (by omega)]; exact q.1, q.2⟩
        | exact ⟨rfl, rfl, by rw [zstp_2 (by omega) (by omega)]; exact q.1, q.2⟩
  · refine zV_aload_n (pc := 8) (i := 0) dX4_take_8 rfl rfl ?_
    refine zV_iload_n (pc := 9) (i := 1) dX4_take_9 rfl rfl ?_
    refine zV_ivn (pc := 10) (ci := 4) dX4_take_10 klX4_47 mX4_push ⟨by decide, rfl⟩ rfl ⟨Nat.zero_le _, Nat.zero_le _⟩ (kX4_push hS hK hs) (zOb_of rfl) rfl rfl (Nat.le_of_ble_eq_true rfl) (fun M1 q => ?_)
    refine zV_goto (pc := 13) (tgt := 63) dX4_take_13 (by decide) ?_
    refine zV_vret (pc := 63) dX4_take_63 trivial ⟨Nat.zero_le _, Nat.zero_le _⟩ ?_
    first
      | exact ⟨rfl, rfl, by rw [zstp_n (by omega)]; exact q.1, q.2⟩
      | exact ⟨rfl, rfl, by rw [zstp_m (by omega) (by omega)]; exact q.1, q.2⟩
      | exact ⟨rfl, rfl, by rw [zstp_1 (by omega)]; exact q.1, q.2⟩
      | exact ⟨rfl, rfl, by rw [zstp_2 (by omega) (by omega)]; exact q.1, q.2⟩
set_option maxRecDepth 20000 in
set_option maxHeartbeats 2000000 in
theorem kX4_tellsL (hS : zSt M) {t : Int} (ht : 0 ≤ t ∧ t < 6) {k : Int} (hk : 0 ≤ k ∧ k < 3) {nm : Int → Int} (hN : zNm M nm) (hE : ∀ j : Int, 0 ≤ j → j < 3 → 0 ≤ M (28 + 3 * t) j ∧ M (28 + 3 * t) j ≤ 160) (hP : ∀ j : Int, 0 ≤ j → j < 160 → -2147483648 ≤ M (27 + 3 * t) j ∧ M (27 + 3 * t) j ≤ 2147483647) {e : Int} (he : e ≤ 160) : ∀ (k9 : Nat) (i : Int) (stk : List Int) (M1 : zM), i + k9 = e → 0 ≤ i → zSk M1 stk → zrun (M (27 + 3 * t)) nm (zE (M (28 + 3 * t)) (k - 1)) (zE (M (28 + 3 * t)) k - zE (M (28 + 3 * t)) (k - 1)).toNat [] = zrun (M (27 + 3 * t)) nm i k9 stk → zFr zRk M M1 → zV g xX4_tells (zPq (zi (ztl (M (27 + 3 * t)) (M (28 + 3 * t)) k nm)) 75 (fun M1 => zFr zRk M M1)) 30 [zr 53, zr (26 + 3 * t), zi k, zi e, zi i] [] 75 M1 0 0 := by
  intro k9
  induction k9 with
  | zero =>
    intro i stk M1 h0 h1 h2 h3 h4
    have hS1 : zSt M1 := hS.fr h4 zRk_st
    have hN1 : zNm M1 nm := fun j j0 j1 => ⟨(h4 54 j (by unfold zRk; omega)).trans (hN j j0 j1).1, (hN j j0 j1).2⟩
    have eP : M1 (27 + 3 * t) i = M (27 + 3 * t) i := h4 _ _ (by unfold zRk; omega)
    refine zV_iload (pc := 30) dX4_tells_30 rfl ?_
    refine zV_iload_n (pc := 32) (i := 3) dX4_tells_32 rfl rfl ?_
    refine zV_icmp_ge (pc := 33) (tgt := 53) dX4_tells_33 (by decide) (by omega) (fun c_33 => ?_) (fun c_33 => absurd (by omega) c_33)
    refine zV_aload_n (pc := 53) (i := 0) dX4_tells_53 rfl rfl ?_
    refine zV_get (pc := 54) (j := 2) dX4_tells_54 flX4_18 (zOb_of rfl) rfl h2.1 ?_
    refine zV_if_le (pc := 57) (tgt := 69) dX4_tells_57 (by decide) (by have := h2.2.1; omega) (fun c_57 => ?_) (fun c_57 => ?_)
    · refine zV_iconst (pc := 69) dX4_tells_69 ?_
      refine zV_istore (pc := 70) dX4_tells_70 rfl ?_
      try dsimp only [List.set_cons_succ, List.set_cons_zero]
      refine zV_iconst (pc := 72) dX4_tells_72 ?_
      refine zV_iload (pc := 73) dX4_tells_73 rfl ?_
      refine zV_bipush (pc := 75) dX4_tells_75 (by decide) ?_
      refine zV_mmin (pc := 77) dX4_tells_77 klX4_31 (by have := h2.rng; omega) (by decide) ⟨Nat.zero_le _, Nat.zero_le _⟩ (Nat.le_of_ble_eq_true rfl) ?_
      refine zV_mmax (pc := 80) dX4_tells_80 klX4_40 (by have := h2.rng; omega) (by decide) ⟨Nat.zero_le _, Nat.zero_le _⟩ (Nat.le_of_ble_eq_true rfl) ?_
      refine zV_iret (pc := 83) dX4_tells_83 trivial ⟨Nat.zero_le _, Nat.zero_le _⟩ ?_
      refine ⟨?_, rfl, h4⟩
      unfold ztl zc99
      rw [h3]
      first
        | rfl
        | (have e9 : stk = [] := by
             cases stk with
             | nil => rfl
             | cons x r => exact absurd c_57 (by show ¬ ((r.length + 1 : Nat) : Int) ≤ 0; omega)
           subst e9
           rfl)
    · refine zV_aload_n (pc := 60) (i := 0) dX4_tells_60 rfl rfl ?_
      refine zV_get (pc := 61) (j := 1) dX4_tells_61 flX4_15 (zOb_of rfl) rfl hS1.e53_1 ?_
      refine zV_iconst (pc := 64) dX4_tells_64 ?_
      refine zV_iald (pc := 65) dX4_tells_65 (zAr_of rfl : zAr 75 55 0 31) (by omega) (h2.bot (fun e => by rw [e] at c_57; exact c_57 (Int.le_refl _))) ?_
      refine zV_goto (pc := 66) (tgt := 70) dX4_tells_66 (by decide) ?_
      refine zV_istore (pc := 70) dX4_tells_70 rfl ?_
      try dsimp only [List.set_cons_succ, List.set_cons_zero]
      refine zV_iconst (pc := 72) dX4_tells_72 ?_
      refine zV_iload (pc := 73) dX4_tells_73 rfl ?_
      refine zV_bipush (pc := 75) dX4_tells_75 (by decide) ?_
      refine zV_mmin (pc := 77) dX4_tells_77 klX4_31 (by have := h2.rng; omega) (by decide) ⟨Nat.zero_le _, Nat.zero_le _⟩ (Nat.le_of_ble_eq_true rfl) ?_
      refine zV_mmax (pc := 80) dX4_tells_80 klX4_40 (by have := h2.rng; omega) (by decide) ⟨Nat.zero_le _, Nat.zero_le _⟩ (Nat.le_of_ble_eq_true rfl) ?_
      refine zV_iret (pc := 83) dX4_tells_83 trivial ⟨Nat.zero_le _, Nat.zero_le _⟩ ?_
      refine ⟨?_, rfl, h4⟩
      unfold ztl zc99
      rw [h3]
      first
        | rfl
        | (have e9 : stk = [] := by
             cases stk with
             | nil => rfl
             | cons x r => exact absurd c_57 (by show ¬ ((r.length + 1 : Nat) : Int) ≤ 0; omega)
           subst e9
           rfl)
  | succ k9 ih =>
    intro i stk M1 h0 h1 h2 h3 h4
    have hS1 : zSt M1 := hS.fr h4 zRk_st
    have hN1 : zNm M1 nm := fun j j0 j1 => ⟨(h4 54 j (by unfold zRk; omega)).trans (hN j j0 j1).1, (hN j j0 j1).2⟩
    have eP : M1 (27 + 3 * t) i = M (27 + 3 * t) i := h4 _ _ (by unfold zRk; omega)
    refine zV_iload (pc := 30) dX4_tells_30 rfl ?_
    refine zV_iload_n (pc := 32) (i := 3) dX4_tells_32 rfl rfl ?_
    refine zV_icmp_ge (pc := 33) (tgt := 53) dX4_tells_33 (by decide) (by omega) (fun c_33 => absurd c_33 (by omega)) (fun c_33 => ?_)
    refine zV_aload_n (pc := 36) (i := 0) dX4_tells_36 rfl rfl ?_
    refine zV_aload_n (pc := 37) (i := 1) dX4_tells_37 rfl rfl ?_
    refine zV_get (pc := 38) (j := 0) dX4_tells_38 flX4_28 (zOb_tx ht) rfl (hS1.tss ht) ?_
    refine zV_iload (pc := 41) dX4_tells_41 rfl ?_
    refine zV_iald (pc := 43) dX4_tells_43 (zAr_ts ht) (by omega) eP ?_
    refine zV_ivn (pc := 44) (ci := 4) dX4_tells_44 klX4_43 mX4_take ⟨by decide, rfl⟩ rfl ⟨Nat.zero_le _, Nat.zero_le _⟩ (kX4_take hS1 hN1 h2 (hP i (by omega) (by omega))) (zOb_of rfl) rfl rfl (Nat.le_of_ble_eq_true rfl) (fun M2 q => ?_)
    refine zV_iinc (pc := 47) dX4_tells_47 rfl rfl ?_
    try dsimp only [List.set_cons_succ, List.set_cons_zero]
    refine zV_goto (pc := 50) (tgt := 30) dX4_tells_50 (by decide) ?_
    exact ih (i + 1) _ M2 (by omega) (by omega) q.1 h3 (h4.tr q.2)
end
