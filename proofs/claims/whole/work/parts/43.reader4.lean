/-! THE CLASS'S READER: ONE, NOT, all levels; read, text (printed by wip/whole/p43.py) -/
section
variable {g : zG} {N : Nat} {M : zM}
set_option maxRecDepth 20000 in
set_option maxHeartbeats 2000000 in
theorem kX3_readOne0 {t z : Int} {tp : Int → Int} {d : Nat} (ht : 0 ≤ t ∧ t < 6) (hT : ztp tp z) (hd : 11 ≤ d) : zKf g yX3_readOne (xX3_readOne d) t tp z 5 (zOne0 tp z) := by
  intro M s L hC hr hz hL hlen
  refine zK_of (ls0 := [zr 18, zi 5]) (by decide) rfl (fun h => Bool.noConfusion (show false = true from h)) rfl (Nat.le_of_ble_eq_true rfl) ?_
  have hS := hC.1
  have h187 := hC.2.1
  have hzz := hT.1
  have er := hr
  obtain ⟨e4, e5, e3, e2, e6⟩ := er
  have hk4 := hz.2.2.2.2.1
  refine zV_aload_n (pc := 0) (i := 0) dX3_readOne_0 rfl rfl ?_
  refine zV_get (pc := 1) (j := 4) dX3_readOne_1 flX3_47 (zOb_of rfl) rfl e4 ?_
  refine zV_iconst (pc := 4) dX3_readOne_4 ?_
  refine zV_icmp_ne (pc := 5) (tgt := 26) dX3_readOne_5 (by decide) (by omega) (fun c_5 => ?_) (fun c_5 => ?_)
  · refine zV_aload_n (pc := 26) (i := 0) dX3_readOne_26 rfl rfl ?_
    refine zV_get (pc := 27) (j := 4) dX3_readOne_27 flX3_47 (zOb_of rfl) rfl e4 ?_
    refine zV_iconst (pc := 30) dX3_readOne_30 ?_
    refine zV_icmp_ne (pc := 31) (tgt := 54) dX3_readOne_31 (by decide) (by omega) (fun c_31 => ?_) (fun c_31 => ?_)
    · refine zV_aload_n (pc := 54) (i := 0) dX3_readOne_54 rfl rfl ?_
      refine zV_get (pc := 55) (j := 4) dX3_readOne_55 flX3_47 (zOb_of rfl) rfl e4 ?_
      refine zV_bipush (pc := 58) dX3_readOne_58 (by decide) ?_
      refine zV_icmp_ne (pc := 60) (tgt := 91) dX3_readOne_60 (by decide) (by omega) (fun c_60 => ?_) (fun c_60 => ?_)
      · refine zV_aload_n (pc := 91) (i := 0) dX3_readOne_91 rfl rfl ?_
        refine zV_get (pc := 92) (j := 4) dX3_readOne_92 flX3_47 (zOb_of rfl) rfl e4 ?_
        refine zV_bipush (pc := 95) dX3_readOne_95 (by decide) ?_
        refine zV_icmp_ne (pc := 97) (tgt := 125) dX3_readOne_97 (by decide) (by omega) (fun c_97 => ?_) (fun c_97 => ?_)
        · have e : zOne0 tp z s = ([], zfl s) := (if_neg c_5).trans (if_neg c_31)
          rw [e]
          refine zV_aload_n (pc := 125) (i := 0) dX3_readOne_125 rfl rfl ?_
          refine zV_ivn (pc := 126) (ci := 3) dX3_readOne_126 klX3_50 mX3_fail ⟨by decide, rfl⟩ (zRm0_z rfl rfl (Nat.le_of_ble_eq_true rfl) (by omega)) ⟨Nat.zero_le _, Nat.zero_le _⟩ (kX3_fail ht hC hT hr hz) (zOb_of rfl) rfl rfl (Nat.le_of_ble_eq_true rfl) (fun M1 q1 => ?_)
          refine zV_vret (pc := 129) dX3_readOne_129 trivial ⟨Nat.zero_le _, Nat.zero_le _⟩ ?_
          first
            | exact ⟨rfl, rfl, q2.1, q1.1.bf ht (q2.2.mono (fun a j y => zAF_B y)), (q1.2.mono (fun a j y => zTF_R y)).tr (q2.2.mono (fun a j y => zAF_R y))⟩
            | (have q5 := q3.1
               rw [List.append_assoc] at q5
               exact ⟨rfl, rfl, q2.1.tf ht q3.2, q5, (f2a.tr q2.2.2).tr (q3.2.mono (fun a j y => zTF_R y))⟩)
            | exact ⟨rfl, rfl, q3.1, q2.2.1.bf ht q3.2, (f2a.tr q2.2.2).tr (q3.2.mono (fun a j y => zBF_R y))⟩
            | exact ⟨rfl, rfl, q1.1, (List.append_nil L).symm ▸ (hL.bf ht q1.2), q1.2.mono (fun a j y => zBF_R y)⟩
        · refine zV_iload_n (pc := 100) (i := 1) dX3_readOne_100 rfl rfl ?_
          refine zV_iconst (pc := 101) dX3_readOne_101 ?_
          refine zV_icmp_ge (pc := 102) (tgt := 125) dX3_readOne_102 (by decide) (by omega) (fun c_102 => ?_) (fun c_102 => absurd (by decide) c_102)
          have e : zOne0 tp z s = ([], zfl s) := (if_neg c_5).trans (if_neg c_31)
          rw [e]
          refine zV_aload_n (pc := 125) (i := 0) dX3_readOne_125 rfl rfl ?_
          refine zV_ivn (pc := 126) (ci := 3) dX3_readOne_126 klX3_50 mX3_fail ⟨by decide, rfl⟩ (zRm0_z rfl rfl (Nat.le_of_ble_eq_true rfl) (by omega)) ⟨Nat.zero_le _, Nat.zero_le _⟩ (kX3_fail ht hC hT hr hz) (zOb_of rfl) rfl rfl (Nat.le_of_ble_eq_true rfl) (fun M1 q1 => ?_)
          refine zV_vret (pc := 129) dX3_readOne_129 trivial ⟨Nat.zero_le _, Nat.zero_le _⟩ ?_
          first
            | exact ⟨rfl, rfl, q2.1, q1.1.bf ht (q2.2.mono (fun a j y => zAF_B y)), (q1.2.mono (fun a j y => zTF_R y)).tr (q2.2.mono (fun a j y => zAF_R y))⟩
            | (have q5 := q3.1
               rw [List.append_assoc] at q5
               exact ⟨rfl, rfl, q2.1.tf ht q3.2, q5, (f2a.tr q2.2.2).tr (q3.2.mono (fun a j y => zTF_R y))⟩)
            | exact ⟨rfl, rfl, q3.1, q2.2.1.bf ht q3.2, (f2a.tr q2.2.2).tr (q3.2.mono (fun a j y => zBF_R y))⟩
            | exact ⟨rfl, rfl, q1.1, (List.append_nil L).symm ▸ (hL.bf ht q1.2), q1.2.mono (fun a j y => zBF_R y)⟩
      · refine zV_iload_n (pc := 63) (i := 1) dX3_readOne_63 rfl rfl ?_
        refine zV_iconst (pc := 64) dX3_readOne_64 ?_
        refine zV_icmp_ge (pc := 65) (tgt := 91) dX3_readOne_65 (by decide) (by omega) (fun c_65 => ?_) (fun c_65 => absurd (by decide) c_65)
        refine zV_aload_n (pc := 91) (i := 0) dX3_readOne_91 rfl rfl ?_
        refine zV_get (pc := 92) (j := 4) dX3_readOne_92 flX3_47 (zOb_of rfl) rfl e4 ?_
        refine zV_bipush (pc := 95) dX3_readOne_95 (by decide) ?_
        refine zV_icmp_ne (pc := 97) (tgt := 125) dX3_readOne_97 (by decide) (by omega) (fun c_97 => ?_) (fun c_97 => ?_)
        · have e : zOne0 tp z s = ([], zfl s) := (if_neg c_5).trans (if_neg c_31)
          rw [e]
          refine zV_aload_n (pc := 125) (i := 0) dX3_readOne_125 rfl rfl ?_
          refine zV_ivn (pc := 126) (ci := 3) dX3_readOne_126 klX3_50 mX3_fail ⟨by decide, rfl⟩ (zRm0_z rfl rfl (Nat.le_of_ble_eq_true rfl) (by omega)) ⟨Nat.zero_le _, Nat.zero_le _⟩ (kX3_fail ht hC hT hr hz) (zOb_of rfl) rfl rfl (Nat.le_of_ble_eq_true rfl) (fun M1 q1 => ?_)
          refine zV_vret (pc := 129) dX3_readOne_129 trivial ⟨Nat.zero_le _, Nat.zero_le _⟩ ?_
          first
            | exact ⟨rfl, rfl, q2.1, q1.1.bf ht (q2.2.mono (fun a j y => zAF_B y)), (q1.2.mono (fun a j y => zTF_R y)).tr (q2.2.mono (fun a j y => zAF_R y))⟩
            | (have q5 := q3.1
               rw [List.append_assoc] at q5
               exact ⟨rfl, rfl, q2.1.tf ht q3.2, q5, (f2a.tr q2.2.2).tr (q3.2.mono (fun a j y => zTF_R y))⟩)
            | exact ⟨rfl, rfl, q3.1, q2.2.1.bf ht q3.2, (f2a.tr q2.2.2).tr (q3.2.mono (fun a j y => zBF_R y))⟩
            | exact ⟨rfl, rfl, q1.1, (List.append_nil L).symm ▸ (hL.bf ht q1.2), q1.2.mono (fun a j y => zBF_R y)⟩
        · refine zV_iload_n (pc := 100) (i := 1) dX3_readOne_100 rfl rfl ?_
          refine zV_iconst (pc := 101) dX3_readOne_101 ?_
          refine zV_icmp_ge (pc := 102) (tgt := 125) dX3_readOne_102 (by decide) (by omega) (fun c_102 => ?_) (fun c_102 => absurd (by decide) c_102)
          have e : zOne0 tp z s = ([], zfl s) := (if_neg c_5).trans (if_neg c_31)
          rw [e]
          refine zV_aload_n (pc := 125) (i := 0) dX3_readOne_125 rfl rfl ?_
          refine zV_ivn (pc := 126) (ci := 3) dX3_readOne_126 klX3_50 mX3_fail ⟨by decide, rfl⟩ (zRm0_z rfl rfl (Nat.le_of_ble_eq_true rfl) (by omega)) ⟨Nat.zero_le _, Nat.zero_le _⟩ (kX3_fail ht hC hT hr hz) (zOb_of rfl) rfl rfl (Nat.le_of_ble_eq_true rfl) (fun M1 q1 => ?_)
          refine zV_vret (pc := 129) dX3_readOne_129 trivial ⟨Nat.zero_le _, Nat.zero_le _⟩ ?_
          first
            | exact ⟨rfl, rfl, q2.1, q1.1.bf ht (q2.2.mono (fun a j y => zAF_B y)), (q1.2.mono (fun a j y => zTF_R y)).tr (q2.2.mono (fun a j y => zAF_R y))⟩
            | (have q5 := q3.1
               rw [List.append_assoc] at q5
               exact ⟨rfl, rfl, q2.1.tf ht q3.2, q5, (f2a.tr q2.2.2).tr (q3.2.mono (fun a j y => zTF_R y))⟩)
            | exact ⟨rfl, rfl, q3.1, q2.2.1.bf ht q3.2, (f2a.tr q2.2.2).tr (q3.2.mono (fun a j y => zBF_R y))⟩
            | exact ⟨rfl, rfl, q1.1, (List.append_nil L).symm ▸ (hL.bf ht q1.2), q1.2.mono (fun a j y => zBF_R y)⟩
    · have e : zOne0 tp z s = ([-1 - s.vl], zadv tp z s) := (if_neg c_5).trans (if_pos c_31)
      rw [e] at hlen ⊢
      have hlen2 : L.length + 1 ≤ 160 := hlen
      refine zV_aload_n (pc := 34) (i := 0) dX3_readOne_34 rfl rfl ?_
      refine zV_get (pc := 35) (j := 7) dX3_readOne_35 flX3_19 (zOb_of rfl) rfl h187 ?_
      refine zV_iconst (pc := 38) dX3_readOne_38 ?_
      refine zV_aload_n (pc := 39) (i := 0) dX3_readOne_39 rfl rfl ?_
      refine zV_get (pc := 40) (j := 5) dX3_readOne_40 flX3_77 (zOb_of rfl) rfl (e5 (by omega)) ?_
      refine zV_isub (pc := 43) dX3_readOne_43 ?_
      refine zV_ivn (pc := 44) (ci := 7) dX3_readOne_44 klX3_59 mX7_add ⟨by decide, rfl⟩ (zRm0_z rfl rfl (Nat.le_of_ble_eq_true rfl) (by omega)) ⟨Nat.zero_le _, Nat.zero_le _⟩ (kX7_add ht hS hL (by omega)) (zOb_tx ht) rfl rfl (Nat.le_of_ble_eq_true rfl) (fun M1 q1 => ?_)
      have hCb := hC.fr ht (q1.2.mono (fun a j y => zTF_R y))
      have hrb := hr.tf ht q1.2
      refine zV_aload_n (pc := 47) (i := 0) dX3_readOne_47 rfl rfl ?_
      refine zV_ivn (pc := 48) (ci := 3) dX3_readOne_48 klX3_34 mX3_advance ⟨by decide, rfl⟩ (zRm0_z rfl rfl (Nat.le_of_ble_eq_true rfl) (by omega)) ⟨Nat.zero_le _, Nat.zero_le _⟩ (kX3_advance ht hCb hT (s := s) (by have := hz.1; omega) hrb.2.2.2.1 hrb.2.2.2.2) (zOb_of rfl) rfl rfl (Nat.le_of_ble_eq_true rfl) (fun M2 q2 => ?_)
      refine zV_goto (pc := 51) (tgt := 129) dX3_readOne_51 (by decide) ?_
      refine zV_vret (pc := 129) dX3_readOne_129 trivial ⟨Nat.zero_le _, Nat.zero_le _⟩ ?_
      first
        | exact ⟨rfl, rfl, q2.1, q1.1.bf ht (q2.2.mono (fun a j y => zAF_B y)), (q1.2.mono (fun a j y => zTF_R y)).tr (q2.2.mono (fun a j y => zAF_R y))⟩
        | (have q5 := q3.1
           rw [List.append_assoc] at q5
           exact ⟨rfl, rfl, q2.1.tf ht q3.2, q5, (f2a.tr q2.2.2).tr (q3.2.mono (fun a j y => zTF_R y))⟩)
        | exact ⟨rfl, rfl, q3.1, q2.2.1.bf ht q3.2, (f2a.tr q2.2.2).tr (q3.2.mono (fun a j y => zBF_R y))⟩
        | exact ⟨rfl, rfl, q1.1, (List.append_nil L).symm ▸ (hL.bf ht q1.2), q1.2.mono (fun a j y => zBF_R y)⟩
  · have e : zOne0 tp z s = ([s.vl], zadv tp z s) := if_pos c_5
    rw [e] at hlen ⊢
    have hlen2 : L.length + 1 ≤ 160 := hlen
    refine zV_aload_n (pc := 8) (i := 0) dX3_readOne_8 rfl rfl ?_
    refine zV_get (pc := 9) (j := 7) dX3_readOne_9 flX3_19 (zOb_of rfl) rfl h187 ?_
    refine zV_aload_n (pc := 12) (i := 0) dX3_readOne_12 rfl rfl ?_
    refine zV_get (pc := 13) (j := 5) dX3_readOne_13 flX3_77 (zOb_of rfl) rfl (e5 (by omega)) ?_
    refine zV_ivn (pc := 16) (ci := 7) dX3_readOne_16 klX3_59 mX7_add ⟨by decide, rfl⟩ (zRm0_z rfl rfl (Nat.le_of_ble_eq_true rfl) (by omega)) ⟨Nat.zero_le _, Nat.zero_le _⟩ (kX7_add ht hS hL (by omega)) (zOb_tx ht) rfl rfl (Nat.le_of_ble_eq_true rfl) (fun M1 q1 => ?_)
    have hCb := hC.fr ht (q1.2.mono (fun a j y => zTF_R y))
    have hrb := hr.tf ht q1.2
    refine zV_aload_n (pc := 19) (i := 0) dX3_readOne_19 rfl rfl ?_
    refine zV_ivn (pc := 20) (ci := 3) dX3_readOne_20 klX3_34 mX3_advance ⟨by decide, rfl⟩ (zRm0_z rfl rfl (Nat.le_of_ble_eq_true rfl) (by omega)) ⟨Nat.zero_le _, Nat.zero_le _⟩ (kX3_advance ht hCb hT (s := s) (by have := hz.1; omega) hrb.2.2.2.1 hrb.2.2.2.2) (zOb_of rfl) rfl rfl (Nat.le_of_ble_eq_true rfl) (fun M2 q2 => ?_)
    refine zV_goto (pc := 23) (tgt := 129) dX3_readOne_23 (by decide) ?_
    refine zV_vret (pc := 129) dX3_readOne_129 trivial ⟨Nat.zero_le _, Nat.zero_le _⟩ ?_
    first
      | exact ⟨rfl, rfl, q2.1, q1.1.bf ht (q2.2.mono (fun a j y => zAF_B y)), (q1.2.mono (fun a j y => zTF_R y)).tr (q2.2.mono (fun a j y => zAF_R y))⟩
      | (have q5 := q3.1
         rw [List.append_assoc] at q5
         exact ⟨rfl, rfl, q2.1.tf ht q3.2, q5, (f2a.tr q2.2.2).tr (q3.2.mono (fun a j y => zTF_R y))⟩)
      | exact ⟨rfl, rfl, q3.1, q2.2.1.bf ht q3.2, (f2a.tr q2.2.2).tr (q3.2.mono (fun a j y => zBF_R y))⟩
      | exact ⟨rfl, rfl, q1.1, (List.append_nil L).symm ▸ (hL.bf ht q1.2), q1.2.mono (fun a j y => zBF_R y)⟩
set_option maxRecDepth 20000 in
set_option maxHeartbeats 2000000 in
theorem kX3_readOneS {t z o : Int} {tp : Int → Int} {d d1 d2 : Nat} {f1 f2 : zσ → zρ} (ht : 0 ≤ t ∧ t < 6) (hT : ztp tp z) (ho : 0 ≤ o ∧ o < 5) (hd : d1 + 1 ≤ d ∧ d2 + 1 ≤ d ∧ 11 ≤ d) (hf1 : zgd z f1) (hf2 : zgd z f2) (hK1 : zKf g yX3_readOne (xX3_readOne d1) t tp z (o + 1) f1) (hK2 : zKf g yX3_readOrs (xX3_readOrs d2) t tp z (o + 1) f2) : zKf g yX3_readOne (xX3_readOne d) t tp z o (zOneS tp z f1 f2) := by
  intro M s L hC hr hz hL hlen
  refine zK_of (ls0 := [zr 18, zi o]) (by decide) rfl (fun h => Bool.noConfusion (show false = true from h)) rfl (Nat.le_of_ble_eq_true rfl) ?_
  have hS := hC.1
  have h187 := hC.2.1
  have hzz := hT.1
  have er := hr
  obtain ⟨e4, e5, e3, e2, e6⟩ := er
  have hk4 := hz.2.2.2.2.1
  refine zV_aload_n (pc := 0) (i := 0) dX3_readOne_0 rfl rfl ?_
  refine zV_get (pc := 1) (j := 4) dX3_readOne_1 flX3_47 (zOb_of rfl) rfl e4 ?_
  refine zV_iconst (pc := 4) dX3_readOne_4 ?_
  refine zV_icmp_ne (pc := 5) (tgt := 26) dX3_readOne_5 (by decide) (by omega) (fun c_5 => ?_) (fun c_5 => ?_)
  · refine zV_aload_n (pc := 26) (i := 0) dX3_readOne_26 rfl rfl ?_
    refine zV_get (pc := 27) (j := 4) dX3_readOne_27 flX3_47 (zOb_of rfl) rfl e4 ?_
    refine zV_iconst (pc := 30) dX3_readOne_30 ?_
    refine zV_icmp_ne (pc := 31) (tgt := 54) dX3_readOne_31 (by decide) (by omega) (fun c_31 => ?_) (fun c_31 => ?_)
    · refine zV_aload_n (pc := 54) (i := 0) dX3_readOne_54 rfl rfl ?_
      refine zV_get (pc := 55) (j := 4) dX3_readOne_55 flX3_47 (zOb_of rfl) rfl e4 ?_
      refine zV_bipush (pc := 58) dX3_readOne_58 (by decide) ?_
      refine zV_icmp_ne (pc := 60) (tgt := 91) dX3_readOne_60 (by decide) (by omega) (fun c_60 => ?_) (fun c_60 => ?_)
      · refine zV_aload_n (pc := 91) (i := 0) dX3_readOne_91 rfl rfl ?_
        refine zV_get (pc := 92) (j := 4) dX3_readOne_92 flX3_47 (zOb_of rfl) rfl e4 ?_
        refine zV_bipush (pc := 95) dX3_readOne_95 (by decide) ?_
        refine zV_icmp_ne (pc := 97) (tgt := 125) dX3_readOne_97 (by decide) (by omega) (fun c_97 => ?_) (fun c_97 => ?_)
        · have e : zOneS tp z f1 f2 s = ([], zfl s) := (if_neg c_5).trans ((if_neg c_31).trans ((if_neg c_60).trans (if_neg c_97)))
          rw [e]
          refine zV_aload_n (pc := 125) (i := 0) dX3_readOne_125 rfl rfl ?_
          refine zV_ivn (pc := 126) (ci := 3) dX3_readOne_126 klX3_50 mX3_fail ⟨by decide, rfl⟩ (zRm0_z rfl rfl (Nat.le_of_ble_eq_true rfl) (by omega)) ⟨Nat.zero_le _, Nat.zero_le _⟩ (kX3_fail ht hC hT hr hz) (zOb_of rfl) rfl rfl (Nat.le_of_ble_eq_true rfl) (fun M1 q1 => ?_)
          refine zV_vret (pc := 129) dX3_readOne_129 trivial ⟨Nat.zero_le _, Nat.zero_le _⟩ ?_
          first
            | exact ⟨rfl, rfl, q2.1, q1.1.bf ht (q2.2.mono (fun a j y => zAF_B y)), (q1.2.mono (fun a j y => zTF_R y)).tr (q2.2.mono (fun a j y => zAF_R y))⟩
            | (have q5 := q3.1
               rw [List.append_assoc] at q5
               exact ⟨rfl, rfl, q2.1.tf ht q3.2, q5, (f2a.tr q2.2.2).tr (q3.2.mono (fun a j y => zTF_R y))⟩)
            | exact ⟨rfl, rfl, q3.1, q2.2.1.bf ht q3.2, (f2a.tr q2.2.2).tr (q3.2.mono (fun a j y => zBF_R y))⟩
            | exact ⟨rfl, rfl, q1.1, (List.append_nil L).symm ▸ (hL.bf ht q1.2), q1.2.mono (fun a j y => zBF_R y)⟩
        · refine zV_iload_n (pc := 100) (i := 1) dX3_readOne_100 rfl rfl ?_
          refine zV_iconst (pc := 101) dX3_readOne_101 ?_
          refine zV_icmp_ge (pc := 102) (tgt := 125) dX3_readOne_102 (by decide) (by omega) (fun c_102 => absurd c_102 (by omega)) (fun c_102 => ?_)
          have e : zOneS tp z f1 f2 s = ((f2 (zadv tp z s)).1, znd tp z 41 (f2 (zadv tp z s)).2) := (if_neg c_5).trans ((if_neg c_31).trans ((if_neg c_60).trans (if_pos c_97)))
          rw [e] at hlen ⊢
          have hlen2 : L.length + (f2 (zadv tp z s)).1.length ≤ 160 := hlen
          refine zV_aload_n (pc := 105) (i := 0) dX3_readOne_105 rfl rfl ?_
          refine zV_ivn (pc := 106) (ci := 3) dX3_readOne_106 klX3_34 mX3_advance ⟨by decide, rfl⟩ (zRm0_z rfl rfl (Nat.le_of_ble_eq_true rfl) (by omega)) ⟨Nat.zero_le _, Nat.zero_le _⟩ (kX3_advance ht hC hT (s := s) (by have := hz.1; omega) e2 e6) (zOb_of rfl) rfl rfl (Nat.le_of_ble_eq_true rfl) (fun M1 q1 => ?_)
          have hlv : zlive s := ⟨by omega, by omega⟩
          have ga := (zgx_ad hT hz hlv).1
          have f2a : zFr (zRF t) M M1 := q1.2.mono (fun a j y => zAF_R y)
          have hC1 := hC.fr ht f2a
          refine zV_aload_n (pc := 109) (i := 0) dX3_readOne_109 rfl rfl ?_
          refine zV_iload_n (pc := 110) (i := 1) dX3_readOne_110 rfl rfl ?_
          refine zV_iconst (pc := 111) dX3_readOne_111 ?_
          refine zV_iadd (pc := 112) dX3_readOne_112 ?_
          refine zV_ivn (pc := 113) (ci := 3) dX3_readOne_113 klX3_41 (mX3_readOrs _) ⟨by decide, rfl⟩ (zRm0_z rfl rfl (Nat.le_of_ble_eq_true rfl) (by omega)) ⟨Nat.zero_le _, Nat.zero_le _⟩ (hK2 M1 (zadv tp z s) L hC1 q1.1 ga.1 (hL.bf ht (q1.2.mono (fun a j y => zAF_B y))) (by omega)) (zOb_of rfl) rfl rfl (Nat.le_of_ble_eq_true rfl) (fun M2 q2 => ?_)
          have hC2 := hC1.fr ht q2.2.2
          have gb := hf2 _ ga.1
          refine zV_aload_n (pc := 116) (i := 0) dX3_readOne_116 rfl rfl ?_
          refine zV_bipush (pc := 117) dX3_readOne_117 (by decide) ?_
          refine zV_ivn (pc := 119) (ci := 3) dX3_readOne_119 klX3_37 mX3_need ⟨by decide, rfl⟩ (zRm0_z rfl rfl (Nat.le_of_ble_eq_true rfl) (by omega)) ⟨Nat.zero_le _, Nat.zero_le _⟩ (kX3_need ht hC2 hT q2.1 gb.1.1 (by decide) (by decide)) (zOb_of rfl) rfl rfl (Nat.le_of_ble_eq_true rfl) (fun M3 q3 => ?_)
          refine zV_goto (pc := 122) (tgt := 129) dX3_readOne_122 (by decide) ?_
          refine zV_vret (pc := 129) dX3_readOne_129 trivial ⟨Nat.zero_le _, Nat.zero_le _⟩ ?_
          first
            | exact ⟨rfl, rfl, q2.1, q1.1.bf ht (q2.2.mono (fun a j y => zAF_B y)), (q1.2.mono (fun a j y => zTF_R y)).tr (q2.2.mono (fun a j y => zAF_R y))⟩
            | (have q5 := q3.1
               rw [List.append_assoc] at q5
               exact ⟨rfl, rfl, q2.1.tf ht q3.2, q5, (f2a.tr q2.2.2).tr (q3.2.mono (fun a j y => zTF_R y))⟩)
            | exact ⟨rfl, rfl, q3.1, q2.2.1.bf ht q3.2, (f2a.tr q2.2.2).tr (q3.2.mono (fun a j y => zBF_R y))⟩
            | exact ⟨rfl, rfl, q1.1, (List.append_nil L).symm ▸ (hL.bf ht q1.2), q1.2.mono (fun a j y => zBF_R y)⟩
      · refine zV_iload_n (pc := 63) (i := 1) dX3_readOne_63 rfl rfl ?_
        refine zV_iconst (pc := 64) dX3_readOne_64 ?_
        refine zV_icmp_ge (pc := 65) (tgt := 91) dX3_readOne_65 (by decide) (by omega) (fun c_65 => absurd c_65 (by omega)) (fun c_65 => ?_)
        have e : zOneS tp z f1 f2 s = ((f1 (zadv tp z s)).1 ++ [-19], (f1 (zadv tp z s)).2) := (if_neg c_5).trans ((if_neg c_31).trans (if_pos c_60))
        rw [e] at hlen ⊢
        have hlen2 := hlen
        simp only [List.length_append, List.length_cons, List.length_nil] at hlen2
        refine zV_aload_n (pc := 68) (i := 0) dX3_readOne_68 rfl rfl ?_
        refine zV_ivn (pc := 69) (ci := 3) dX3_readOne_69 klX3_34 mX3_advance ⟨by decide, rfl⟩ (zRm0_z rfl rfl (Nat.le_of_ble_eq_true rfl) (by omega)) ⟨Nat.zero_le _, Nat.zero_le _⟩ (kX3_advance ht hC hT (s := s) (by have := hz.1; omega) e2 e6) (zOb_of rfl) rfl rfl (Nat.le_of_ble_eq_true rfl) (fun M1 q1 => ?_)
        have hlv : zlive s := ⟨by omega, by omega⟩
        have ga := (zgx_ad hT hz hlv).1
        have f2a : zFr (zRF t) M M1 := q1.2.mono (fun a j y => zAF_R y)
        have hC1 := hC.fr ht f2a
        refine zV_aload_n (pc := 72) (i := 0) dX3_readOne_72 rfl rfl ?_
        refine zV_iload_n (pc := 73) (i := 1) dX3_readOne_73 rfl rfl ?_
        refine zV_iconst (pc := 74) dX3_readOne_74 ?_
        refine zV_iadd (pc := 75) dX3_readOne_75 ?_
        refine zV_ivn (pc := 76) (ci := 3) dX3_readOne_76 klX3_74 (mX3_readOne _) ⟨by decide, rfl⟩ (zRm0_z rfl rfl (Nat.le_of_ble_eq_true rfl) (by omega)) ⟨Nat.zero_le _, Nat.zero_le _⟩ (hK1 M1 (zadv tp z s) L hC1 q1.1 ga.1 (hL.bf ht (q1.2.mono (fun a j y => zAF_B y))) (by omega)) (zOb_of rfl) rfl rfl (Nat.le_of_ble_eq_true rfl) (fun M2 q2 => ?_)
        have hC2 := hC1.fr ht q2.2.2
        have hS2 := hC2.1
        have h187b := hC2.2.1
        refine zV_aload_n (pc := 79) (i := 0) dX3_readOne_79 rfl rfl ?_
        refine zV_get (pc := 80) (j := 7) dX3_readOne_80 flX3_19 (zOb_of rfl) rfl h187b ?_
        refine zV_bipush (pc := 83) dX3_readOne_83 (by decide) ?_
        refine zV_ivn (pc := 85) (ci := 7) dX3_readOne_85 klX3_59 mX7_add ⟨by decide, rfl⟩ (zRm0_z rfl rfl (Nat.le_of_ble_eq_true rfl) (by omega)) ⟨Nat.zero_le _, Nat.zero_le _⟩ (kX7_add ht hS2 q2.2.1 (by simp only [List.length_append]; omega)) (zOb_tx ht) rfl rfl (Nat.le_of_ble_eq_true rfl) (fun M3 q3 => ?_)
        refine zV_goto (pc := 88) (tgt := 129) dX3_readOne_88 (by decide) ?_
        refine zV_vret (pc := 129) dX3_readOne_129 trivial ⟨Nat.zero_le _, Nat.zero_le _⟩ ?_
        first
          | exact ⟨rfl, rfl, q2.1, q1.1.bf ht (q2.2.mono (fun a j y => zAF_B y)), (q1.2.mono (fun a j y => zTF_R y)).tr (q2.2.mono (fun a j y => zAF_R y))⟩
          | (have q5 := q3.1
             rw [List.append_assoc] at q5
             exact ⟨rfl, rfl, q2.1.tf ht q3.2, q5, (f2a.tr q2.2.2).tr (q3.2.mono (fun a j y => zTF_R y))⟩)
          | exact ⟨rfl, rfl, q3.1, q2.2.1.bf ht q3.2, (f2a.tr q2.2.2).tr (q3.2.mono (fun a j y => zBF_R y))⟩
          | exact ⟨rfl, rfl, q1.1, (List.append_nil L).symm ▸ (hL.bf ht q1.2), q1.2.mono (fun a j y => zBF_R y)⟩
    · have e : zOneS tp z f1 f2 s = ([-1 - s.vl], zadv tp z s) := (if_neg c_5).trans (if_pos c_31)
      rw [e] at hlen ⊢
      have hlen2 : L.length + 1 ≤ 160 := hlen
      refine zV_aload_n (pc := 34) (i := 0) dX3_readOne_34 rfl rfl ?_
      refine zV_get (pc := 35) (j := 7) dX3_readOne_35 flX3_19 (zOb_of rfl) rfl h187 ?_
      refine zV_iconst (pc := 38) dX3_readOne_38 ?_
      refine zV_aload_n (pc := 39) (i := 0) dX3_readOne_39 rfl rfl ?_
      refine zV_get (pc := 40) (j := 5) dX3_readOne_40 flX3_77 (zOb_of rfl) rfl (e5 (by omega)) ?_
      refine zV_isub (pc := 43) dX3_readOne_43 ?_
      refine zV_ivn (pc := 44) (ci := 7) dX3_readOne_44 klX3_59 mX7_add ⟨by decide, rfl⟩ (zRm0_z rfl rfl (Nat.le_of_ble_eq_true rfl) (by omega)) ⟨Nat.zero_le _, Nat.zero_le _⟩ (kX7_add ht hS hL (by omega)) (zOb_tx ht) rfl rfl (Nat.le_of_ble_eq_true rfl) (fun M1 q1 => ?_)
      have hCb := hC.fr ht (q1.2.mono (fun a j y => zTF_R y))
      have hrb := hr.tf ht q1.2
      refine zV_aload_n (pc := 47) (i := 0) dX3_readOne_47 rfl rfl ?_
      refine zV_ivn (pc := 48) (ci := 3) dX3_readOne_48 klX3_34 mX3_advance ⟨by decide, rfl⟩ (zRm0_z rfl rfl (Nat.le_of_ble_eq_true rfl) (by omega)) ⟨Nat.zero_le _, Nat.zero_le _⟩ (kX3_advance ht hCb hT (s := s) (by have := hz.1; omega) hrb.2.2.2.1 hrb.2.2.2.2) (zOb_of rfl) rfl rfl (Nat.le_of_ble_eq_true rfl) (fun M2 q2 => ?_)
      refine zV_goto (pc := 51) (tgt := 129) dX3_readOne_51 (by decide) ?_
      refine zV_vret (pc := 129) dX3_readOne_129 trivial ⟨Nat.zero_le _, Nat.zero_le _⟩ ?_
      first
        | exact ⟨rfl, rfl, q2.1, q1.1.bf ht (q2.2.mono (fun a j y => zAF_B y)), (q1.2.mono (fun a j y => zTF_R y)).tr (q2.2.mono (fun a j y => zAF_R y))⟩
        | (have q5 := q3.1
           rw [List.append_assoc] at q5
           exact ⟨rfl, rfl, q2.1.tf ht q3.2, q5, (f2a.tr q2.2.2).tr (q3.2.mono (fun a j y => zTF_R y))⟩)
        | exact ⟨rfl, rfl, q3.1, q2.2.1.bf ht q3.2, (f2a.tr q2.2.2).tr (q3.2.mono (fun a j y => zBF_R y))⟩
        | exact ⟨rfl, rfl, q1.1, (List.append_nil L).symm ▸ (hL.bf ht q1.2), q1.2.mono (fun a j y => zBF_R y)⟩
  · have e : zOneS tp z f1 f2 s = ([s.vl], zadv tp z s) := if_pos c_5
    rw [e] at hlen ⊢
    have hlen2 : L.length + 1 ≤ 160 := hlen
    refine zV_aload_n (pc := 8) (i := 0) dX3_readOne_8 rfl rfl ?_
    refine zV_get (pc := 9) (j := 7) dX3_readOne_9 flX3_19 (zOb_of rfl) rfl h187 ?_
    refine zV_aload_n (pc := 12) (i := 0) dX3_readOne_12 rfl rfl ?_
    refine zV_get (pc := 13) (j := 5) dX3_readOne_13 flX3_77 (zOb_of rfl) rfl (e5 (by omega)) ?_
    refine zV_ivn (pc := 16) (ci := 7) dX3_readOne_16 klX3_59 mX7_add ⟨by decide, rfl⟩ (zRm0_z rfl rfl (Nat.le_of_ble_eq_true rfl) (by omega)) ⟨Nat.zero_le _, Nat.zero_le _⟩ (kX7_add ht hS hL (by omega)) (zOb_tx ht) rfl rfl (Nat.le_of_ble_eq_true rfl) (fun M1 q1 => ?_)
    have hCb := hC.fr ht (q1.2.mono (fun a j y => zTF_R y))
    have hrb := hr.tf ht q1.2
    refine zV_aload_n (pc := 19) (i := 0) dX3_readOne_19 rfl rfl ?_
    refine zV_ivn (pc := 20) (ci := 3) dX3_readOne_20 klX3_34 mX3_advance ⟨by decide, rfl⟩ (zRm0_z rfl rfl (Nat.le_of_ble_eq_true rfl) (by omega)) ⟨Nat.zero_le _, Nat.zero_le _⟩ (kX3_advance ht hCb hT (s := s) (by have := hz.1; omega) hrb.2.2.2.1 hrb.2.2.2.2) (zOb_of rfl) rfl rfl (Nat.le_of_ble_eq_true rfl) (fun M2 q2 => ?_)
    refine zV_goto (pc := 23) (tgt := 129) dX3_readOne_23 (by decide) ?_
    refine zV_vret (pc := 129) dX3_readOne_129 trivial ⟨Nat.zero_le _, Nat.zero_le _⟩ ?_
    first
      | exact ⟨rfl, rfl, q2.1, q1.1.bf ht (q2.2.mono (fun a j y => zAF_B y)), (q1.2.mono (fun a j y => zTF_R y)).tr (q2.2.mono (fun a j y => zAF_R y))⟩
      | (have q5 := q3.1
         rw [List.append_assoc] at q5
         exact ⟨rfl, rfl, q2.1.tf ht q3.2, q5, (f2a.tr q2.2.2).tr (q3.2.mono (fun a j y => zTF_R y))⟩)
      | exact ⟨rfl, rfl, q3.1, q2.2.1.bf ht q3.2, (f2a.tr q2.2.2).tr (q3.2.mono (fun a j y => zBF_R y))⟩
      | exact ⟨rfl, rfl, q1.1, (List.append_nil L).symm ▸ (hL.bf ht q1.2), q1.2.mono (fun a j y => zBF_R y)⟩
set_option maxRecDepth 20000 in
set_option maxHeartbeats 2000000 in
theorem kX3_readNot0 {t z : Int} {tp : Int → Int} {d d2 : Nat} {f2 : zσ → zρ} (ht : 0 ≤ t ∧ t < 6) (hT : ztp tp z) (hd : d2 + 1 ≤ d ∧ 11 ≤ d) (hK2 : zKf g yX3_readComparison (xX3_readComparison d2) t tp z 5 (zCm2 tp z f2)) : zKf g yX3_readNot (xX3_readNot d) t tp z 5 (zNot0 tp z f2) := by
  intro M s L hC hr hz hL hlen
  refine zK_of (ls0 := [zr 18, zi 5]) (by decide) rfl (fun h => Bool.noConfusion (show false = true from h)) rfl (Nat.le_of_ble_eq_true rfl) ?_
  have hS := hC.1
  have h187 := hC.2.1
  have hzz := hT.1
  have er := hr
  obtain ⟨e4, e5, e3, e2, e6⟩ := er
  have hk4 := hz.2.2.2.2.1
  refine zV_aload_n (pc := 0) (i := 0) dX3_readNot_0 rfl rfl ?_
  refine zV_get (pc := 1) (j := 4) dX3_readNot_1 flX3_47 (zOb_of rfl) rfl e4 ?_
  refine zV_bipush (pc := 4) dX3_readNot_4 (by decide) ?_
  refine zV_icmp_eq (pc := 6) (tgt := 17) dX3_readNot_6 (by decide) (by omega) (fun c_6 => ?_) (fun c_6 => ?_)
  · refine zV_iload_n (pc := 17) (i := 1) dX3_readNot_17 rfl rfl ?_
    refine zV_iconst (pc := 18) dX3_readNot_18 ?_
    refine zV_icmp_lt (pc := 19) (tgt := 29) dX3_readNot_19 (by decide) (by omega) (fun c_19 => absurd c_19 (by decide)) (fun c_19 => ?_)
    have e : zNot0 tp z f2 s = ([], zfl s) := if_pos c_6
    rw [e]
    refine zV_aload_n (pc := 22) (i := 0) dX3_readNot_22 rfl rfl ?_
    refine zV_ivn (pc := 23) (ci := 3) dX3_readNot_23 klX3_50 mX3_fail ⟨by decide, rfl⟩ (zRm0_z rfl rfl (Nat.le_of_ble_eq_true rfl) (by omega)) ⟨Nat.zero_le _, Nat.zero_le _⟩ (kX3_fail ht hC hT hr hz) (zOb_of rfl) rfl rfl (Nat.le_of_ble_eq_true rfl) (fun M1 q1 => ?_)
    refine zV_goto (pc := 26) (tgt := 49) dX3_readNot_26 (by decide) ?_
    refine zV_vret (pc := 49) dX3_readNot_49 trivial ⟨Nat.zero_le _, Nat.zero_le _⟩ ?_
    first
      | exact ⟨rfl, rfl, q1⟩
      | (have q5 := q3.1
         rw [List.append_assoc] at q5
         exact ⟨rfl, rfl, q2.1.tf ht q3.2, q5, (f2a.tr q2.2.2).tr (q3.2.mono (fun a j y => zTF_R y))⟩)
      | exact ⟨rfl, rfl, q1.1, (List.append_nil L).symm ▸ (hL.bf ht q1.2), q1.2.mono (fun a j y => zBF_R y)⟩
  · have e : zNot0 tp z f2 s = zCm2 tp z f2 s := if_neg c_6
    rw [e] at hlen ⊢
    refine zV_aload_n (pc := 9) (i := 0) dX3_readNot_9 rfl rfl ?_
    refine zV_iload_n (pc := 10) (i := 1) dX3_readNot_10 rfl rfl ?_
    refine zV_ivn (pc := 11) (ci := 3) dX3_readNot_11 klX3_65 (mX3_readComparison _) ⟨by decide, rfl⟩ (zRm0_z rfl rfl (Nat.le_of_ble_eq_true rfl) (by omega)) ⟨Nat.zero_le _, Nat.zero_le _⟩ (hK2 M s L hC hr hz hL hlen) (zOb_of rfl) rfl rfl (Nat.le_of_ble_eq_true rfl) (fun M1 q1 => ?_)
    refine zV_goto (pc := 14) (tgt := 49) dX3_readNot_14 (by decide) ?_
    refine zV_vret (pc := 49) dX3_readNot_49 trivial ⟨Nat.zero_le _, Nat.zero_le _⟩ ?_
    first
      | exact ⟨rfl, rfl, q1⟩
      | (have q5 := q3.1
         rw [List.append_assoc] at q5
         exact ⟨rfl, rfl, q2.1.tf ht q3.2, q5, (f2a.tr q2.2.2).tr (q3.2.mono (fun a j y => zTF_R y))⟩)
      | exact ⟨rfl, rfl, q1.1, (List.append_nil L).symm ▸ (hL.bf ht q1.2), q1.2.mono (fun a j y => zBF_R y)⟩
set_option maxRecDepth 20000 in
set_option maxHeartbeats 2000000 in
theorem kX3_readNotS {t z o : Int} {tp : Int → Int} {d d1 d2 : Nat} {f1 f2 : zσ → zρ} (ht : 0 ≤ t ∧ t < 6) (hT : ztp tp z) (ho : 0 ≤ o ∧ o < 5) (hd : d1 + 1 ≤ d ∧ d2 + 1 ≤ d ∧ 11 ≤ d) (hf1 : zgd z f1) (hK1 : zKf g yX3_readNot (xX3_readNot d1) t tp z (o + 1) f1) (hK2 : zKf g yX3_readComparison (xX3_readComparison d2) t tp z o (zCm2 tp z f2)) : zKf g yX3_readNot (xX3_readNot d) t tp z o (zNotS tp z f1 f2) := by
  intro M s L hC hr hz hL hlen
  refine zK_of (ls0 := [zr 18, zi o]) (by decide) rfl (fun h => Bool.noConfusion (show false = true from h)) rfl (Nat.le_of_ble_eq_true rfl) ?_
  have hS := hC.1
  have h187 := hC.2.1
  have hzz := hT.1
  have er := hr
  obtain ⟨e4, e5, e3, e2, e6⟩ := er
  have hk4 := hz.2.2.2.2.1
  refine zV_aload_n (pc := 0) (i := 0) dX3_readNot_0 rfl rfl ?_
  refine zV_get (pc := 1) (j := 4) dX3_readNot_1 flX3_47 (zOb_of rfl) rfl e4 ?_
  refine zV_bipush (pc := 4) dX3_readNot_4 (by decide) ?_
  refine zV_icmp_eq (pc := 6) (tgt := 17) dX3_readNot_6 (by decide) (by omega) (fun c_6 => ?_) (fun c_6 => ?_)
  · refine zV_iload_n (pc := 17) (i := 1) dX3_readNot_17 rfl rfl ?_
    refine zV_iconst (pc := 18) dX3_readNot_18 ?_
    refine zV_icmp_lt (pc := 19) (tgt := 29) dX3_readNot_19 (by decide) (by omega) (fun c_19 => ?_) (fun c_19 => absurd (by omega) c_19)
    have e : zNotS tp z f1 f2 s = ((f1 (zadv tp z s)).1 ++ [-13], (f1 (zadv tp z s)).2) := if_pos c_6
    rw [e] at hlen ⊢
    have hlen2 := hlen
    simp only [List.length_append, List.length_cons, List.length_nil] at hlen2
    refine zV_aload_n (pc := 29) (i := 0) dX3_readNot_29 rfl rfl ?_
    refine zV_ivn (pc := 30) (ci := 3) dX3_readNot_30 klX3_34 mX3_advance ⟨by decide, rfl⟩ (zRm0_z rfl rfl (Nat.le_of_ble_eq_true rfl) (by omega)) ⟨Nat.zero_le _, Nat.zero_le _⟩ (kX3_advance ht hC hT (s := s) (by have := hz.1; omega) e2 e6) (zOb_of rfl) rfl rfl (Nat.le_of_ble_eq_true rfl) (fun M1 q1 => ?_)
    have hlv : zlive s := ⟨by omega, by omega⟩
    have ga := (zgx_ad hT hz hlv).1
    have f2a : zFr (zRF t) M M1 := q1.2.mono (fun a j y => zAF_R y)
    have hC1 := hC.fr ht f2a
    refine zV_aload_n (pc := 33) (i := 0) dX3_readNot_33 rfl rfl ?_
    refine zV_iload_n (pc := 34) (i := 1) dX3_readNot_34 rfl rfl ?_
    refine zV_iconst (pc := 35) dX3_readNot_35 ?_
    refine zV_iadd (pc := 36) dX3_readNot_36 ?_
    refine zV_ivn (pc := 37) (ci := 3) dX3_readNot_37 klX3_62 (mX3_readNot _) ⟨by decide, rfl⟩ (zRm0_z rfl rfl (Nat.le_of_ble_eq_true rfl) (by omega)) ⟨Nat.zero_le _, Nat.zero_le _⟩ (hK1 M1 (zadv tp z s) L hC1 q1.1 ga.1 (hL.bf ht (q1.2.mono (fun a j y => zAF_B y))) (by omega)) (zOb_of rfl) rfl rfl (Nat.le_of_ble_eq_true rfl) (fun M2 q2 => ?_)
    have hC2 := hC1.fr ht q2.2.2
    have hS2 := hC2.1
    have h187b := hC2.2.1
    refine zV_aload_n (pc := 40) (i := 0) dX3_readNot_40 rfl rfl ?_
    refine zV_get (pc := 41) (j := 7) dX3_readNot_41 flX3_19 (zOb_of rfl) rfl h187b ?_
    refine zV_bipush (pc := 44) dX3_readNot_44 (by decide) ?_
    refine zV_ivn (pc := 46) (ci := 7) dX3_readNot_46 klX3_59 mX7_add ⟨by decide, rfl⟩ (zRm0_z rfl rfl (Nat.le_of_ble_eq_true rfl) (by omega)) ⟨Nat.zero_le _, Nat.zero_le _⟩ (kX7_add ht hS2 q2.2.1 (by simp only [List.length_append]; omega)) (zOb_tx ht) rfl rfl (Nat.le_of_ble_eq_true rfl) (fun M3 q3 => ?_)
    refine zV_vret (pc := 49) dX3_readNot_49 trivial ⟨Nat.zero_le _, Nat.zero_le _⟩ ?_
    first
      | exact ⟨rfl, rfl, q1⟩
      | (have q5 := q3.1
         rw [List.append_assoc] at q5
         exact ⟨rfl, rfl, q2.1.tf ht q3.2, q5, (f2a.tr q2.2.2).tr (q3.2.mono (fun a j y => zTF_R y))⟩)
      | exact ⟨rfl, rfl, q1.1, (List.append_nil L).symm ▸ (hL.bf ht q1.2), q1.2.mono (fun a j y => zBF_R y)⟩
  · have e : zNotS tp z f1 f2 s = zCm2 tp z f2 s := if_neg c_6
    rw [e] at hlen ⊢
    refine zV_aload_n (pc := 9) (i := 0) dX3_readNot_9 rfl rfl ?_
    refine zV_iload_n (pc := 10) (i := 1) dX3_readNot_10 rfl rfl ?_
    refine zV_ivn (pc := 11) (ci := 3) dX3_readNot_11 klX3_65 (mX3_readComparison _) ⟨by decide, rfl⟩ (zRm0_z rfl rfl (Nat.le_of_ble_eq_true rfl) (by omega)) ⟨Nat.zero_le _, Nat.zero_le _⟩ (hK2 M s L hC hr hz hL hlen) (zOb_of rfl) rfl rfl (Nat.le_of_ble_eq_true rfl) (fun M1 q1 => ?_)
    refine zV_goto (pc := 14) (tgt := 49) dX3_readNot_14 (by decide) ?_
    refine zV_vret (pc := 49) dX3_readNot_49 trivial ⟨Nat.zero_le _, Nat.zero_le _⟩ ?_
    first
      | exact ⟨rfl, rfl, q1⟩
      | (have q5 := q3.1
         rw [List.append_assoc] at q5
         exact ⟨rfl, rfl, q2.1.tf ht q3.2, q5, (f2a.tr q2.2.2).tr (q3.2.mono (fun a j y => zTF_R y))⟩)
      | exact ⟨rfl, rfl, q1.1, (List.append_nil L).symm ▸ (hL.bf ht q1.2), q1.2.mono (fun a j y => zBF_R y)⟩
theorem kX3_cm2 {t z o : Int} {tp : Int → Int} {d : Nat} {f : zσ → zρ} (ht : 0 ≤ t ∧ t < 6) (hT : ztp tp z) (ho : 0 ≤ o ∧ o ≤ 5) (hd : 11 ≤ d) (hf : zgd z f) (hK1 : zKf g yX3_readOne (xX3_readOne d) t tp z o f) : zKf g yX3_readComparison (xX3_readComparison (d + 3)) t tp z o (zCm2 tp z f) :=
  kX3_readComparison ht hT ho (d1 := d + 2) (by omega) (zSum_gd hT (zTerm_gd hT hf)) (kX3_readSum ht hT ho (d1 := d + 1) (by omega) (zTerm_gd hT hf) (kX3_readTerm ht hT ho (d1 := d) (by omega) hf hK1))
theorem kX3_or2 {t z o : Int} {tp : Int → Int} {d : Nat} {f : zσ → zρ} (ht : 0 ≤ t ∧ t < 6) (hT : ztp tp z) (ho : 0 ≤ o ∧ o ≤ 5) (hd : 11 ≤ d) (hf : zgd z f) (hK1 : zKf g yX3_readNot (xX3_readNot d) t tp z o f) : zKf g yX3_readOrs (xX3_readOrs (d + 2)) t tp z o (zOr2 tp z f) :=
  kX3_readOrs ht hT ho (d1 := d + 1) (by omega) (zAnd_gd hT hf) (kX3_readAnds ht hT ho (d1 := d) (by omega) hf hK1)
theorem kX3_lv {t z : Int} {tp : Int → Int} (ht : 0 ≤ t ∧ t < 6) (hT : ztp tp z) : ∀ r : Nat, r ≤ 5 → zKf g yX3_readOne (xX3_readOne (14 + 12 * r)) t tp z (5 - r) (zlv tp z r).1 ∧ zKf g yX3_readNot (xX3_readNot (18 + 12 * r)) t tp z (5 - r) (zlv tp z r).2 := by
  intro r
  induction r with
  | zero =>
    intro _
    have a : zKf g yX3_readOne (xX3_readOne 14) t tp z 5 (zOne0 tp z) := kX3_readOne0 ht hT (by decide)
    exact ⟨a, kX3_readNot0 ht hT (d2 := 17) (by decide) (kX3_cm2 ht hT (by decide) (by decide) (zOne0_gd hT) a)⟩
  | succ r ih =>
    intro h
    have i := ih (by omega)
    have gl := zlv_gd hT r
    have e : (5 - (r : Int)) = (5 - ((r + 1 : Nat) : Int)) + 1 := by omega
    rw [e] at i
    have a : zKf g yX3_readOne (xX3_readOne (14 + 12 * (r + 1))) t tp z (5 - ((r + 1 : Nat) : Int)) (zlv tp z (r + 1)).1 := kX3_readOneS ht hT (d1 := 14 + 12 * r) (d2 := 18 + 12 * r + 2) (by omega) (by omega) gl.1 (zOr2_gd hT gl.2) i.1 (kX3_or2 ht hT (by omega) (by omega) gl.2 i.2)
    exact ⟨a, kX3_readNotS ht hT (d1 := 18 + 12 * r) (d2 := 14 + 12 * (r + 1) + 3) (by omega) (by omega) gl.2 i.2 (kX3_cm2 ht hT (by omega) (by omega) (zlv_gd hT (r + 1)).1 a)⟩
theorem kX3_top {t z : Int} {tp : Int → Int} (ht : 0 ≤ t ∧ t < 6) (hT : ztp tp z) : zKf g yX3_readOrs (xX3_readOrs 80) t tp z 0 (zOr2 tp z (zlv tp z 5).2) :=
  kX3_or2 (d := 78) ht hT (by decide) (by decide) (zlv_gd hT 5).2 (kX3_lv ht hT 5 (by decide)).2
end
