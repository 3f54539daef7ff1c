/-! THE MODEL: things, film (printed by wip/whole/p61.py) -/
def zReq (M : zM) (S : Int × (Int → Int → Int)) : Prop := M 58 12 = S.1 ∧ ∀ i : Int, 0 ≤ i → i < S.1 → ∀ f : Int, 0 ≤ f → f ≤ 3 → M (62 + f) i = S.2 i f
theorem zAdG_st : ∀ q ∈ zstL, ¬ zAdG q.1 q.2.1 := by
  unfold zAdG
  decide
theorem zth_req {M M1 : zM} {S : Int × (Int → Int → Int)} {k n x : Int} {w : Option zv} (hS : zSt M) (hn : 0 ≤ M 58 12 ∧ M 58 12 ≤ 6) (hr : zReq M S) (q : (¬ zthOK k n x ∧ w = some (zi (-2)) ∧ M1 = M) ∨ (zthOK k n x ∧ M 58 12 = 6 ∧ w = some (zi (-4)) ∧ M1 = M) ∨ (zthOK k n x ∧ M 58 12 < 6 ∧ w = some (zi (M 58 12)) ∧ M1 62 (M 58 12) = k ∧ M1 63 (M 58 12) = n ∧ M1 64 (M 58 12) = x.tdiv 100 ∧ M1 65 (M 58 12) = x.tmod 100 ∧ M1 58 12 = M 58 12 + 1 ∧ zFr (fun a j => ((62 ≤ a ∧ a ≤ 65) ∧ j = M 58 12) ∨ (a = 58 ∧ j = 12)) M M1)) : w = some (zi (zadW S k n x)) ∧ zReq M1 (zadS S k n x) ∧ zSt M1 ∧ (0 ≤ M1 58 12 ∧ M1 58 12 ≤ 6) ∧ zFr zAdG M M1 := by
  have e := hr.1
  have same : ¬ (zthOK k n x ∧ S.1 < 6) → M1 = M → zReq M1 (zadS S k n x) := by
    intro hc hM
    subst hM
    refine ⟨e.trans (zif_f hc).symm, fun i i0 i1 f f0 f1 => ?_⟩
    have i1' : i < S.1 := by
      have : (zadS S k n x).1 = S.1 := zif_f hc
      rw [this] at i1
      exact i1
    exact (hr.2 i i0 i1' f f0 f1).trans (zif_f (fun y => hc ⟨y.1, y.2.1⟩)).symm
  rcases q with ⟨a, rfl, hM⟩ | ⟨a, b, rfl, hM⟩ | ⟨a, b, rfl, q0, q1, q2, q3, q4, q5⟩
  · refine ⟨congrArg (fun z => some (zi z)) (zif_f a).symm, same (fun y => a y.1) hM, by rw [hM]; exact hS, by rw [hM]; exact hn, by rw [hM]; exact zFr.rf⟩
  · refine ⟨congrArg (fun z => some (zi z)) ((zif_t a).trans (zif_t (by omega))).symm, same (fun y => by omega) hM, by rw [hM]; exact hS, by rw [hM]; exact hn, by rw [hM]; exact zFr.rf⟩
  · have fr : zFr zAdG M M1 := q5.mono (fun a j y => by unfold zAdG; omega)
    refine ⟨congrArg (fun z => some (zi z)) (e.trans ((zif_t a).trans (zif_f (by omega))).symm), ⟨?_, fun i i0 i1 f f0 f1 => ?_⟩, hS.fr fr zAdG_st, by omega, fr⟩
    · exact q4.trans ((by omega : M 58 12 + 1 = S.1 + 1).trans (zif_t ⟨a, by omega⟩).symm)
    · have e9 : (zadS S k n x).1 = S.1 + 1 := zif_t ⟨a, by omega⟩
      rw [e9] at i1
      by_cases ei : i = M 58 12
      · subst ei
        refine Eq.trans ?_ (zif_t ⟨a, by omega, e⟩).symm
        rcases (show f = 0 ∨ f = 1 ∨ f = 2 ∨ f = 3 by omega) with rfl | rfl | rfl | rfl
        · exact q0
        · exact q1
        · exact q2
        · exact q3
      · exact (q5 _ _ (by omega)).trans ((hr.2 i i0 (by omega) f f0 f1).trans (zif_f (by omega)).symm)
theorem zsum_mo {C : Int → Prop} : ∀ (k : Nat) (d : Int), 0 ≤ d → d + k = 400 → zsum (fun d => zb (C d)) d.toNat ≤ zsum (fun d => zb (C d)) 400 := by
  intro k
  induction k with
  | zero =>
    intro d d0 e
    rw [show d = 400 by omega]
    exact Int.le_refl _
  | succ k ih =>
    intro d d0 e
    have h := ih (d + 1) (by omega) (by omega)
    rw [zsum_n d0] at h
    have := zb_r (C d)
    omega
theorem zfs_n {C : Int → Prop} : ∀ (k : Nat) (d : Int), 0 ≤ d → d + k = 400 → zsum (fun d => zb (C d)) 400 ≤ zsum (fun d => zb (C d)) d.toNat → zfst C d k = -1 := by
  intro k
  induction k with
  | zero => exact fun _ _ _ _ => rfl
  | succ k ih =>
    intro d d0 e h
    have h1 := zsum_mo (C := C) k (d + 1) (by omega) (by omega)
    rw [zsum_n d0] at h1
    have hc : ¬ C d := fun c => by
      rw [zb_t c] at h1
      omega
    rw [zfst_f hc]
    exact ih (d + 1) (by omega) (by omega) (by rw [zsum_n d0, zb_f hc]; omega)
section
variable {g : zG} {N : Nat} {M : zM}
set_option maxRecDepth 20000 in
set_option maxHeartbeats 2000000 in
theorem kX10_tgL (hG : zShg M) {s x f m : Int} (hf : -2147483648 ≤ f ∧ f ≤ 2147483647) (hs : 0 ≤ s ∧ s < 4) (hm : 0 ≤ m ∧ m ≤ 6) (hi : M 71 s = 1) {R : Int → Int} (hRR : ∀ e, R e = M 74 (40 * s + e)) {V : Int × (Int × (Int → Int → Int))} : ∀ (k : Nat) (i c : Int) (M1 : zM) (S : zTs) (w7 : zv), i + k = m → 0 ≤ i → (0 ≤ c ∧ c ≤ i) → (0 < i → 0 ≤ f) → zSt M1 → (0 ≤ M1 58 12 ∧ M1 58 12 ≤ 6) → zReq M1 S → zths R (M 73 s) k (f + 3 * i) c S = V → zFr zAdG M M1 → zV g xX10_things (fun w N' M1 => N' = 75 ∧ w = some (zi V.1) ∧ zReq M1 V.2 ∧ zFr zAdG M M1) 75 [zr 58, zi s, zi x, zi f, zi m, zi c, zi i, w7] [] 75 M1 0 0 := by
  intro k
  induction k with
  | zero =>
    intro i c M1 S w7 h0 h1 h2 h3 h4 h5 h6 h7 h8
    have hz : M1 73 s = M 73 s := h8 _ _ (by unfold zAdG; omega)
    have hz2 := ((hG.1 s (by omega) (by omega)).2.2.2 hi).2
    have eR : ∀ j e : Int, j = 40 * s + e → M1 74 j = R e := fun j e q => by rw [hRR, q]; exact h8 _ _ (by unfold zAdG; omega)
    have hi2 : ∀ e : Int, 0 ≤ e → e < 40 → -2147483648 ≤ R e ∧ R e ≤ 2147483647 := fun e e0 e1 => by rw [hRR]; exact hG.2 _ (by omega) (by omega)
    refine zV_iload (pc := 75) dX10_things_75 rfl ?_
    refine zV_iload (pc := 77) dX10_things_77 rfl ?_
    refine zV_icmp_ge (pc := 79) (tgt := 167) dX10_things_79 (by decide) (by omega) (fun c_79 => ?_) (fun c_79 => absurd (by omega) c_79)
    refine zV_iload (pc := 167) dX10_things_167 rfl ?_
    refine zV_iret (pc := 169) dX10_things_169 trivial ⟨Nat.zero_le _, Nat.zero_le _⟩ ?_
    subst h7
    exact ⟨rfl, rfl, h6, h8⟩
  | succ k ih =>
    intro i c M1 S w7 h0 h1 h2 h3 h4 h5 h6 h7 h8
    have hz : M1 73 s = M 73 s := h8 _ _ (by unfold zAdG; omega)
    have hz2 := ((hG.1 s (by omega) (by omega)).2.2.2 hi).2
    have eR : ∀ j e : Int, j = 40 * s + e → M1 74 j = R e := fun j e q => by rw [hRR, q]; exact h8 _ _ (by unfold zAdG; omega)
    have hi2 : ∀ e : Int, 0 ≤ e → e < 40 → -2147483648 ≤ R e ∧ R e ≤ 2147483647 := fun e e0 e1 => by rw [hRR]; exact hG.2 _ (by omega) (by omega)
    refine zV_iload (pc := 75) dX10_things_75 rfl ?_
    refine zV_iload (pc := 77) dX10_things_77 rfl ?_
    refine zV_icmp_ge (pc := 79) (tgt := 167) dX10_things_79 (by decide) (by omega) (fun c_79 => absurd c_79 (by omega)) (fun c_79 => ?_)
    refine zV_iload_n (pc := 82) (i := 3) dX10_things_82 rfl rfl ?_
    refine zV_if_lt (pc := 83) (tgt := 103) dX10_things_83 (by decide) (by omega) (fun c_83 => ?_) (fun c_83 => ?_)
    · refine zV_bipush (pc := 103) dX10_things_103 (by decide) ?_
      refine zV_iret (pc := 105) dX10_things_105 trivial ⟨Nat.zero_le _, Nat.zero_le _⟩ ?_
      have e6 := h7
      unfold zths at e6
      rw [if_neg (by omega)] at e6
      subst e6
      exact ⟨rfl, rfl, h6, h8⟩
    · refine zV_iload_n (pc := 86) (i := 3) dX10_things_86 rfl rfl ?_
      refine zV_aload_n (pc := 87) (i := 0) dX10_things_87 rfl rfl ?_
      refine zV_get (pc := 88) (j := 41) dX10_things_88 flX10_60 (zOb_of rfl) rfl h4.e58_41 ?_
      refine zV_iload_n (pc := 91) (i := 1) dX10_things_91 rfl rfl ?_
      refine zV_iald (pc := 92) dX10_things_92 (zAr_of rfl : zAr 75 73 0 4) (by omega) hz ?_
      refine zV_iconst (pc := 93) dX10_things_93 ?_
      refine zV_iload (pc := 94) dX10_things_94 rfl ?_
      refine zV_imul (pc := 96) dX10_things_96 ?_
      refine zV_isub (pc := 97) dX10_things_97 ?_
      refine zV_iconst (pc := 98) dX10_things_98 ?_
      refine zV_isub (pc := 99) dX10_things_99 ?_
      refine zV_icmp_le (pc := 100) (tgt := 106) dX10_things_100 (by decide) (by omega) (fun c_100 => ?_) (fun c_100 => ?_)
      · refine zV_bipush (pc := 106) dX10_things_106 (by decide) ?_
        refine zV_iload_n (pc := 108) (i := 1) dX10_things_108 rfl rfl ?_
        refine zV_imul (pc := 109) dX10_things_109 ?_
        refine zV_iload_n (pc := 110) (i := 3) dX10_things_110 rfl rfl ?_
        refine zV_iadd (pc := 111) dX10_things_111 ?_
        refine zV_iconst (pc := 112) dX10_things_112 ?_
        refine zV_iload (pc := 113) dX10_things_113 rfl ?_
        refine zV_imul (pc := 115) dX10_things_115 ?_
        refine zV_iadd (pc := 116) dX10_things_116 ?_
        refine zV_istore (pc := 117) dX10_things_117 rfl ?_
        try dsimp only [List.set_cons_succ, List.set_cons_zero]
        refine zV_iload (pc := 119) dX10_things_119 rfl ?_
        refine zV_aload_n (pc := 121) (i := 0) dX10_things_121 rfl rfl ?_
        refine zV_aload_n (pc := 122) (i := 0) dX10_things_122 rfl rfl ?_
        refine zV_get (pc := 123) (j := 42) dX10_things_123 flX10_63 (zOb_of rfl) rfl h4.e58_42 ?_
        refine zV_iload (pc := 126) dX10_things_126 rfl ?_
        refine zV_iald (pc := 128) dX10_things_128 (zAr_of rfl : zAr 75 74 0 160) (by omega) (show M1 74 (40 * s + f + 3 * i) = R (f + 3 * i) from eR _ _ (by omega)) ?_
        refine zV_aload_n (pc := 129) (i := 0) dX10_things_129 rfl rfl ?_
        refine zV_get (pc := 130) (j := 42) dX10_things_130 flX10_63 (zOb_of rfl) rfl h4.e58_42 ?_
        refine zV_iload (pc := 133) dX10_things_133 rfl ?_
        refine zV_iconst (pc := 135) dX10_things_135 ?_
        refine zV_iadd (pc := 136) dX10_things_136 ?_
        refine zV_iald (pc := 137) dX10_things_137 (zAr_of rfl : zAr 75 74 0 160) (by omega) (show M1 74 (40 * s + f + 3 * i + 1) = R (f + 3 * i + 1) from eR _ _ (by omega)) ?_
        refine zV_aload_n (pc := 138) (i := 0) dX10_things_138 rfl rfl ?_
        refine zV_get (pc := 139) (j := 42) dX10_things_139 flX10_63 (zOb_of rfl) rfl h4.e58_42 ?_
        refine zV_iload (pc := 142) dX10_things_142 rfl ?_
        refine zV_iconst (pc := 144) dX10_things_144 ?_
        refine zV_iadd (pc := 145) dX10_things_145 ?_
        refine zV_iald (pc := 146) dX10_things_146 (zAr_of rfl : zAr 75 74 0 160) (by omega) (show M1 74 (40 * s + f + 3 * i + 2) = R (f + 3 * i + 2) from eR _ _ (by omega)) ?_
        refine zV_ivs (pc := 147) (ci := 10) dX10_things_147 klX10_456 mX10_thing ⟨by decide, rfl⟩ rfl ⟨Nat.zero_le _, Nat.zero_le _⟩ (kX10_thing h4 h5 (hi2 _ (by omega) (by omega)) (hi2 _ (by omega) (by omega)) (hi2 _ (by omega) (by omega))) (zOb_of rfl) rfl rfl (Nat.le_of_ble_eq_true rfl) ?_
        rintro w N9 M2 ⟨rfl, q⟩
        obtain ⟨rfl, r1, r2, r3, r4⟩ := zth_req h4 h5 h6 q
        have e6 := h7
        unfold zths at e6
        rw [if_pos (by omega)] at e6
        have hw : -4 ≤ zadW S (R (f + 3 * i)) (R (f + 3 * i + 1)) (R (f + 3 * i + 2)) ∧ zadW S (R (f + 3 * i)) (R (f + 3 * i + 1)) (R (f + 3 * i + 2)) ≤ 6 := zadW_b (by have := h6.1; omega)
        refine zV_if_lt (pc := 150) (tgt := 157) dX10_things_150 (by decide) (by omega) (fun c_150 => ?_) (fun c_150 => ?_)
        · refine zV_iconst (pc := 157) dX10_things_157 ?_
          refine zV_iadd (pc := 158) dX10_things_158 ?_
          refine zV_istore (pc := 159) dX10_things_159 rfl ?_
          try dsimp only [List.set_cons_succ, List.set_cons_zero]
          refine zV_iinc (pc := 161) dX10_things_161 rfl rfl ?_
          try dsimp only [List.set_cons_succ, List.set_cons_zero]
          refine zV_goto (pc := 164) (tgt := 75) dX10_things_164 (by decide) ?_
          first
            | (rw [if_neg (by omega)] at e6; exact ih _ _ M2 _ _ (by omega) (by omega) (by omega) (fun _ => by omega) r2 r3 r1 (by rw [show f + 3 * (i + 1) = f + 3 * i + 3 by omega, Int.add_zero]; exact e6) (h8.tr r4))
            | (rw [if_pos (by omega)] at e6; exact ih _ _ M2 _ _ (by omega) (by omega) (by omega) (fun _ => by omega) r2 r3 r1 (by rw [show f + 3 * (i + 1) = f + 3 * i + 3 by omega]; exact e6) (h8.tr r4))
        · refine zV_iconst (pc := 153) dX10_things_153 ?_
          refine zV_goto (pc := 154) (tgt := 158) dX10_things_154 (by decide) ?_
          refine zV_iadd (pc := 158) dX10_things_158 ?_
          refine zV_istore (pc := 159) dX10_things_159 rfl ?_
          try dsimp only [List.set_cons_succ, List.set_cons_zero]
          refine zV_iinc (pc := 161) dX10_things_161 rfl rfl ?_
          try dsimp only [List.set_cons_succ, List.set_cons_zero]
          refine zV_goto (pc := 164) (tgt := 75) dX10_things_164 (by decide) ?_
          first
            | (rw [if_neg (by omega)] at e6; exact ih _ _ M2 _ _ (by omega) (by omega) (by omega) (fun _ => by omega) r2 r3 r1 (by rw [show f + 3 * (i + 1) = f + 3 * i + 3 by omega, Int.add_zero]; exact e6) (h8.tr r4))
            | (rw [if_pos (by omega)] at e6; exact ih _ _ M2 _ _ (by omega) (by omega) (by omega) (fun _ => by omega) r2 r3 r1 (by rw [show f + 3 * (i + 1) = f + 3 * i + 3 by omega]; exact e6) (h8.tr r4))
      · refine zV_bipush (pc := 103) dX10_things_103 (by decide) ?_
        refine zV_iret (pc := 105) dX10_things_105 trivial ⟨Nat.zero_le _, Nat.zero_le _⟩ ?_
        have e6 := h7
        unfold zths at e6
        rw [if_neg (by omega)] at e6
        subst e6
        exact ⟨rfl, rfl, h6, h8⟩
set_option maxRecDepth 20000 in
set_option maxHeartbeats 2000000 in
theorem kX10_things (hS : zSt M) (hn : 0 ≤ M 58 12 ∧ M 58 12 ≤ 6) (hG : zShg M) {S : Int × (Int → Int → Int)} (hr : zReq M S) {s x f m : Int} (hs : -2147483648 ≤ s ∧ s ≤ 2147483647) (hx : -2147483648 ≤ x ∧ x ≤ 2147483647) (hf : -2147483648 ≤ f ∧ f ≤ 2147483647) (hm : -2147483648 ≤ m ∧ m ≤ 2147483647) : zK g yX10_things xX10_things [zr 58, zi s, zi x, zi f, zi m] 75 M (fun w N' M1 => N' = 75 ∧ ((¬ ((0 ≤ s ∧ s < 4) ∧ (0 ≤ x ∧ x ≤ 2) ∧ (0 ≤ m ∧ m ≤ 6)) ∧ w = some (zi (-2)) ∧ M1 = M) ∨ (((0 ≤ s ∧ s < 4) ∧ (0 ≤ x ∧ x ≤ 2) ∧ (0 ≤ m ∧ m ≤ 6)) ∧ M 71 s = 0 ∧ w = some (zi (-11)) ∧ M1 = M) ∨ (((0 ≤ s ∧ s < 4) ∧ (0 ≤ x ∧ x ≤ 2) ∧ (0 ≤ m ∧ m ≤ 6)) ∧ M 71 s = 1 ∧ M 72 s ≠ x ∧ w = some (zi (-13)) ∧ M1 = M) ∨ (((0 ≤ s ∧ s < 4) ∧ (0 ≤ x ∧ x ≤ 2) ∧ (0 ≤ m ∧ m ≤ 6)) ∧ M 71 s = 1 ∧ M 72 s = x ∧ w = some (zi (zths (fun e => M 74 (40 * s + e)) (M 73 s) m.toNat f 0 S).1) ∧ zReq M1 (zths (fun e => M 74 (40 * s + e)) (M 73 s) m.toNat f 0 S).2 ∧ zFr zAdG M M1))) := by
  refine zK_of (ls0 := [zr 58, zi s, zi x, zi f, zi m, (3, 0), (3, 0), (3, 0)]) (by decide) rfl (by decide) rfl (Nat.le_of_ble_eq_true rfl) ?_
  refine zV_iload_n (pc := 0) (i := 1) dX10_things_0 rfl rfl ?_
  refine zV_isp (pc := 1) dX10_things_1 klX10_408 mX10_isSheet rfl ⟨Nat.zero_le _, Nat.zero_le _⟩ (kX10_isSheet (by omega)) rfl rfl (Nat.le_of_ble_eq_true rfl) ?_
  refine zV_if_eqb (pc := 4) (tgt := 32) dX10_things_4 (by decide) (fun c_4 => ?_) (fun c_4 => ?_)
  · refine zV_bipush (pc := 32) dX10_things_32 (by decide) ?_
    refine zV_iret (pc := 34) dX10_things_34 trivial ⟨Nat.zero_le _, Nat.zero_le _⟩ ?_
    exact ⟨rfl, Or.inl ⟨by omega, rfl, rfl⟩⟩
  · refine zV_iload_n (pc := 7) (i := 2) dX10_things_7 rfl rfl ?_
    refine zV_i2l (pc := 8) dX10_things_8 (by omega) ?_
    refine zV_lconst0 (pc := 9) dX10_things_9 ?_
    refine zV_ldc2 (pc := 10) dX10_things_10 kiX10_358 ?_
    refine zV_isp (pc := 13) dX10_things_13 klX10_76 mX10_in rfl ⟨Nat.zero_le _, Nat.zero_le _⟩ (kX10_in (by omega) (by omega) (by omega)) rfl rfl (Nat.le_of_ble_eq_true rfl) ?_
    refine zV_if_eqb (pc := 16) (tgt := 32) dX10_things_16 (by decide) (fun c_16 => ?_) (fun c_16 => ?_)
    · refine zV_bipush (pc := 32) dX10_things_32 (by decide) ?_
      refine zV_iret (pc := 34) dX10_things_34 trivial ⟨Nat.zero_le _, Nat.zero_le _⟩ ?_
      exact ⟨rfl, Or.inl ⟨by omega, rfl, rfl⟩⟩
    · refine zV_iload (pc := 19) dX10_things_19 rfl ?_
      refine zV_i2l (pc := 21) dX10_things_21 (by omega) ?_
      refine zV_lconst0 (pc := 22) dX10_things_22 ?_
      refine zV_ldc2 (pc := 23) dX10_things_23 kiX10_454 ?_
      refine zV_isp (pc := 26) dX10_things_26 klX10_76 mX10_in rfl ⟨Nat.zero_le _, Nat.zero_le _⟩ (kX10_in (by omega) (by omega) (by omega)) rfl rfl (Nat.le_of_ble_eq_true rfl) ?_
      refine zV_if_neb (pc := 29) (tgt := 35) dX10_things_29 (by decide) (fun c_29 => ?_) (fun c_29 => ?_)
      · have hg := hG.1 s (by omega) (by omega)
        refine zV_aload_n (pc := 35) (i := 0) dX10_things_35 rfl rfl ?_
        refine zV_get (pc := 36) (j := 39) dX10_things_36 flX10_54 (zOb_of rfl) rfl hS.e58_39 ?_
        refine zV_iload_n (pc := 39) (i := 1) dX10_things_39 rfl rfl ?_
        refine zV_zald (pc := 40) dX10_things_40 (zAr_of rfl : zAr 75 71 1 4) (by omega) rfl ?_
        refine zV_if_eq (pc := 41) (tgt := 57) dX10_things_41 (by decide) (by omega) (fun c_41 => ?_) (fun c_41 => ?_)
        · refine zV_aload_n (pc := 57) (i := 0) dX10_things_57 rfl rfl ?_
          refine zV_get (pc := 58) (j := 39) dX10_things_58 flX10_54 (zOb_of rfl) rfl hS.e58_39 ?_
          refine zV_iload_n (pc := 61) (i := 1) dX10_things_61 rfl rfl ?_
          refine zV_zald (pc := 62) dX10_things_62 (zAr_of rfl : zAr 75 71 1 4) (by omega) rfl ?_
          refine zV_if_ne (pc := 63) (tgt := 69) dX10_things_63 (by decide) (by omega) (fun c_63 => ?_) (fun c_63 => ?_)
          · refine zV_iconst (pc := 69) dX10_things_69 ?_
            refine zV_istore (pc := 70) dX10_things_70 rfl ?_
            try dsimp only [List.set_cons_succ, List.set_cons_zero]
            refine zV_iconst (pc := 72) dX10_things_72 ?_
            refine zV_istore (pc := 73) dX10_things_73 rfl ?_
            try dsimp only [List.set_cons_succ, List.set_cons_zero]
            refine zV.mono (kX10_tgL hG (s := s) (x := x) (f := f) (m := m) (by omega) (by omega) (by omega) (by omega) (fun e => rfl) m.toNat 0 0 M S _ (by omega) (by omega) (by omega) (fun q => by omega) hS hn hr (by rw [Int.mul_zero, Int.add_zero]) zFr.rf) ?_
            exact fun _ _ _ h => ⟨h.1, Or.inr (Or.inr (Or.inr ⟨by omega, by omega, by omega, h.2⟩))⟩
          · refine zV_bipush (pc := 66) dX10_things_66 (by decide) ?_
            refine zV_iret (pc := 68) dX10_things_68 trivial ⟨Nat.zero_le _, Nat.zero_le _⟩ ?_
            exact ⟨rfl, Or.inr (Or.inl ⟨by omega, by omega, rfl, rfl⟩)⟩
        · refine zV_aload_n (pc := 44) (i := 0) dX10_things_44 rfl rfl ?_
          refine zV_get (pc := 45) (j := 40) dX10_things_45 flX10_57 (zOb_of rfl) rfl hS.e58_40 ?_
          refine zV_iload_n (pc := 48) (i := 1) dX10_things_48 rfl rfl ?_
          refine zV_iald (pc := 49) dX10_things_49 (zAr_of rfl : zAr 75 72 0 4) (by omega) rfl ?_
          refine zV_iload_n (pc := 50) (i := 2) dX10_things_50 rfl rfl ?_
          refine zV_icmp_eq (pc := 51) (tgt := 57) dX10_things_51 (by decide) (by omega) (fun c_51 => ?_) (fun c_51 => ?_)
          · refine zV_aload_n (pc := 57) (i := 0) dX10_things_57 rfl rfl ?_
            refine zV_get (pc := 58) (j := 39) dX10_things_58 flX10_54 (zOb_of rfl) rfl hS.e58_39 ?_
            refine zV_iload_n (pc := 61) (i := 1) dX10_things_61 rfl rfl ?_
            refine zV_zald (pc := 62) dX10_things_62 (zAr_of rfl : zAr 75 71 1 4) (by omega) rfl ?_
            refine zV_if_ne (pc := 63) (tgt := 69) dX10_things_63 (by decide) (by omega) (fun c_63 => ?_) (fun c_63 => ?_)
            · refine zV_iconst (pc := 69) dX10_things_69 ?_
              refine zV_istore (pc := 70) dX10_things_70 rfl ?_
              try dsimp only [List.set_cons_succ, List.set_cons_zero]
              refine zV_iconst (pc := 72) dX10_things_72 ?_
              refine zV_istore (pc := 73) dX10_things_73 rfl ?_
              try dsimp only [List.set_cons_succ, List.set_cons_zero]
              refine zV.mono (kX10_tgL hG (s := s) (x := x) (f := f) (m := m) (by omega) (by omega) (by omega) (by omega) (fun e => rfl) m.toNat 0 0 M S _ (by omega) (by omega) (by omega) (fun q => by omega) hS hn hr (by rw [Int.mul_zero, Int.add_zero]) zFr.rf) ?_
              exact fun _ _ _ h => ⟨h.1, Or.inr (Or.inr (Or.inr ⟨by omega, by omega, by omega, h.2⟩))⟩
            · refine zV_bipush (pc := 66) dX10_things_66 (by decide) ?_
              refine zV_iret (pc := 68) dX10_things_68 trivial ⟨Nat.zero_le _, Nat.zero_le _⟩ ?_
              exact ⟨rfl, Or.inr (Or.inl ⟨by omega, by omega, rfl, rfl⟩)⟩
          · refine zV_bipush (pc := 54) dX10_things_54 (by decide) ?_
            refine zV_iret (pc := 56) dX10_things_56 trivial ⟨Nat.zero_le _, Nat.zero_le _⟩ ?_
            exact ⟨rfl, Or.inr (Or.inr (Or.inl ⟨by omega, by omega, by omega, rfl, rfl⟩))⟩
      · refine zV_bipush (pc := 32) dX10_things_32 (by decide) ?_
        refine zV_iret (pc := 34) dX10_things_34 trivial ⟨Nat.zero_le _, Nat.zero_le _⟩ ?_
        exact ⟨rfl, Or.inl ⟨by omega, rfl, rfl⟩⟩
set_option maxRecDepth 20000 in
set_option maxHeartbeats 2000000 in
theorem kX10_fmL {tp : Int → Int} {z : Int} (hR : zRo2 M tp z) {s t n b : Int} (hs : 0 ≤ s ∧ s < 4) (ht : 0 ≤ t ∧ t < M 58 12) (hn2 : 1 ≤ n ∧ n ≤ 20) (hb1 : 0 ≤ b ∧ b ≤ n ∧ b ≤ zsum (fun d => zb (zct (zTm M) (M 58 7) d t)) 400) (hb2 : b = n ∨ b = zsum (fun d => zb (zct (zTm M) (M 58 7) d t)) 400) : ∀ (k : Nat) (d : Int) (q : Nat) (M1 : zM), d + k = 400 → 0 ≤ d → (q : Int) = zsum (fun d => zb (zct (zTm M) (M 58 7) d t)) d.toNat → (q : Int) ≤ b → zfq (fun d => zct (zTm M) (M 58 7) d t) q = zfst (fun d => zct (zTm M) (M 58 7) d t) d k → (∀ e : Nat, e < q → zfq (fun d => zct (zTm M) (M 58 7) d t) e ≠ -1 ∧ M1 74 (40 * s + e) = zfq (fun d => zct (zTm M) (M 58 7) d t) e) → zFr (zSg s b) M M1 → (M1 71 s = 1 ∧ M1 72 s = 1 ∧ M1 73 s = b) → zV g xX10_film (fun w N' M1 => N' = 75 ∧ ∃ c : Nat, w = some (zi (c : Int)) ∧ (c : Int) ≤ n ∧ (∀ e : Nat, e < c → zfq (fun d => zct (zTm M) (M 58 7) d t) e ≠ -1 ∧ M1 74 (40 * s + e) = zfq (fun d => zct (zTm M) (M 58 7) d t) e) ∧ ((c : Int) < n → zfq (fun d => zct (zTm M) (M 58 7) d t) c = -1) ∧ M1 71 s = 1 ∧ M1 72 s = 1 ∧ M1 73 s = c ∧ zFr (zSg s c) M M1) 69 [zr 58, zi s, zi t, zi n, zi (zsum (fun d => zb (zct (zTm M) (M 58 7) d t)) 400), zi b, zi q, zi d] [] 75 M1 0 0 := by
  intro k
  induction k with
  | zero =>
    intro d q M1 h0 h1 h2 h3 h4 h5 h6 h7
    have hS1 := hR.1.fr h6 zSg_st
    have hT : ∀ f : Int, 0 ≤ f → f ≤ 3 → zTm M1 t f = zTm M t f := fun f f0 f1 => h6 _ _ (by unfold zSg; omega)
    have hti := hR.2.1.2 t ht.1 ht.2
    have hW1 : zTt (zTm M1) t := by
      unfold zTt at hti ⊢
      rw [hT 0 (by decide) (by decide), hT 1 (by decide) (by decide), hT 2 (by decide) (by decide), hT 3 (by decide) (by decide)]
      exact hti
    have hh7 : M1 58 7 = M 58 7 := h6 _ _ (by unfold zSg; omega)
    have hn := hR.2.1.1
    have hcm : ∀ d : Int, 0 ≤ d → d ≤ 900 → zK g yX10_comes xX10_comes [zr 58, zi t, zi d] 75 M1 (zPp (zi (zb ((fun d => zct (zTm M) (M 58 7) d t) d))) 75 M1) := fun d d0 d1 => by
      have := kX10_comes (g := g) hS1 (t := t) (by omega) hW1.1 hW1.2.1 hW1.2.2.1 hW1.2.2.2 (by rw [hh7]; exact hR.2.2.2) (d := d) ⟨d0, d1⟩
      rw [zct_e (T' := zTm M) (h' := M 58 7) hT hh7] at this
      exact this
    have hsz : M1 71 s = 1 ∧ M1 72 s = 1 ∧ M1 73 s = b := h7
    refine zV_iload (pc := 69) dX10_film_69 rfl ?_
    refine zV_sipush (pc := 71) dX10_film_71 (by decide) ?_
    refine zV_icmp_ge (pc := 74) (tgt := 117) dX10_film_74 (by decide) (by omega) (fun c_74 => ?_) (fun c_74 => absurd (by omega) c_74)
    refine zV_iload (pc := 117) dX10_film_117 rfl ?_
    refine zV_iret (pc := 119) dX10_film_119 trivial ⟨Nat.zero_le _, Nat.zero_le _⟩ ?_
    have hq : (q : Int) = b := by rw [show d = 400 by omega] at h2; exact Int.le_antisymm h3 (by rw [h2]; exact hb1.2.2)
    exact ⟨rfl, q, by rw [hq], by omega, h5, fun _ => h4, hsz.1, hsz.2.1, by rw [hq]; exact hsz.2.2, by rw [hq]; exact h6⟩
  | succ k ih =>
    intro d q M1 h0 h1 h2 h3 h4 h5 h6 h7
    have hS1 := hR.1.fr h6 zSg_st
    have hT : ∀ f : Int, 0 ≤ f → f ≤ 3 → zTm M1 t f = zTm M t f := fun f f0 f1 => h6 _ _ (by unfold zSg; omega)
    have hti := hR.2.1.2 t ht.1 ht.2
    have hW1 : zTt (zTm M1) t := by
      unfold zTt at hti ⊢
      rw [hT 0 (by decide) (by decide), hT 1 (by decide) (by decide), hT 2 (by decide) (by decide), hT 3 (by decide) (by decide)]
      exact hti
    have hh7 : M1 58 7 = M 58 7 := h6 _ _ (by unfold zSg; omega)
    have hn := hR.2.1.1
    have hcm : ∀ d : Int, 0 ≤ d → d ≤ 900 → zK g yX10_comes xX10_comes [zr 58, zi t, zi d] 75 M1 (zPp (zi (zb ((fun d => zct (zTm M) (M 58 7) d t) d))) 75 M1) := fun d d0 d1 => by
      have := kX10_comes (g := g) hS1 (t := t) (by omega) hW1.1 hW1.2.1 hW1.2.2.1 hW1.2.2.2 (by rw [hh7]; exact hR.2.2.2) (d := d) ⟨d0, d1⟩
      rw [zct_e (T' := zTm M) (h' := M 58 7) hT hh7] at this
      exact this
    have hsz : M1 71 s = 1 ∧ M1 72 s = 1 ∧ M1 73 s = b := h7
    refine zV_iload (pc := 69) dX10_film_69 rfl ?_
    refine zV_sipush (pc := 71) dX10_film_71 (by decide) ?_
    refine zV_icmp_ge (pc := 74) (tgt := 117) dX10_film_74 (by decide) (by omega) (fun c_74 => absurd c_74 (by omega)) (fun c_74 => ?_)
    refine zV_iload (pc := 77) dX10_film_77 rfl ?_
    refine zV_iload (pc := 79) dX10_film_79 rfl ?_
    refine zV_icmp_ge (pc := 81) (tgt := 117) dX10_film_81 (by decide) (by omega) (fun c_81 => ?_) (fun c_81 => ?_)
    · refine zV_iload (pc := 117) dX10_film_117 rfl ?_
      refine zV_iret (pc := 119) dX10_film_119 trivial ⟨Nat.zero_le _, Nat.zero_le _⟩ ?_
      have hq : (q : Int) = b := by omega
      refine ⟨rfl, q, by rw [hq], by omega, h5, fun y => ?_, hsz.1, hsz.2.1, by rw [hq]; exact hsz.2.2, by rw [hq]; exact h6⟩
      rw [h4]
      exact zfs_n (k + 1) d h1 h0 (by rw [← h2]; omega)
    · refine zV_aload_n (pc := 84) (i := 0) dX10_film_84 rfl rfl ?_
      refine zV_iload_n (pc := 85) (i := 2) dX10_film_85 rfl rfl ?_
      refine zV_iload (pc := 86) dX10_film_86 rfl ?_
      refine zV_ivp (pc := 88) (ci := 10) dX10_film_88 klX10_336 mX10_comes ⟨by decide, rfl⟩ rfl ⟨Nat.zero_le _, Nat.zero_le _⟩ (hcm d (by omega) (by omega)) (zOb_of rfl) rfl rfl (Nat.le_of_ble_eq_true rfl) ?_
      refine zV_if_eqb (pc := 91) (tgt := 111) dX10_film_91 (by decide) (fun c_91 => ?_) (fun c_91 => ?_)
      · refine zV_iinc (pc := 111) dX10_film_111 rfl rfl ?_
        try dsimp only [List.set_cons_succ, List.set_cons_zero]
        refine zV_goto (pc := 114) (tgt := 69) dX10_film_114 (by decide) ?_
        exact ih (d + 1) q M1 (by omega) (by omega) (by rw [zsum_n h1, zb_f c_91]; omega) (by omega) (h4.trans (zfst_f (q := (fun d => zct (zTm M) (M 58 7) d t)) c_91)) h5 h6 h7
      · refine zV_aload_n (pc := 94) (i := 0) dX10_film_94 rfl rfl ?_
        refine zV_get (pc := 95) (j := 42) dX10_film_95 flX10_63 (zOb_of rfl) rfl hS1.e58_42 ?_
        refine zV_bipush (pc := 98) dX10_film_98 (by decide) ?_
        refine zV_iload_n (pc := 100) (i := 1) dX10_film_100 rfl rfl ?_
        refine zV_imul (pc := 101) dX10_film_101 ?_
        refine zV_iload (pc := 102) dX10_film_102 rfl ?_
        refine zV_iadd (pc := 104) dX10_film_104 ?_
        refine zV_iload (pc := 105) dX10_film_105 rfl ?_
        refine zV_iast (pc := 107) dX10_film_107 (zAr_of rfl : zAr 75 74 0 160) (by omega) ?_
        refine zV_iinc (pc := 108) dX10_film_108 rfl rfl ?_
        try dsimp only [List.set_cons_succ, List.set_cons_zero]
        refine zV_iinc (pc := 111) dX10_film_111 rfl rfl ?_
        try dsimp only [List.set_cons_succ, List.set_cons_zero]
        refine zV_goto (pc := 114) (tgt := 69) dX10_film_114 (by decide) ?_
        refine ih (d + 1) (q + 1) _ (by omega) (by omega) (by rw [zsum_n h1, zb_t c_91]; omega) (by omega) ?_ ?_ (zFr.up h6 (Or.inr ⟨rfl, by omega, by omega⟩)) ?_
        · have ef : zfq (fun d => zct (zTm M) (M 58 7) d t) q = d := h4.trans (zfst_t (q := (fun d => zct (zTm M) (M 58 7) d t)) c_91)
          show zfst (fun d => zct (zTm M) (M 58 7) d t) (zfq (fun d => zct (zTm M) (M 58 7) d t) q + 1) (400 - (zfq (fun d => zct (zTm M) (M 58 7) d t) q + 1)).toNat = _
          rw [ef, show (400 - (d + 1)).toNat = k by omega]
        · intro e e1
          have ef : zfq (fun d => zct (zTm M) (M 58 7) d t) q = d := h4.trans (zfst_t (q := (fun d => zct (zTm M) (M 58 7) d t)) c_91)
          by_cases c : e = q
          · subst c
            rw [ef]
            exact ⟨by omega, zU_s _ _ _ _⟩
          · have := h5 e (by omega)
            exact ⟨this.1, (zU_j _ _ _ _ (by omega)).trans this.2⟩
        · exact ⟨(zU_a _ _ _ _ (by decide)).trans hsz.1, (zU_a _ _ _ _ (by decide)).trans hsz.2.1, (zU_a _ _ _ _ (by decide)).trans hsz.2.2⟩
set_option maxRecDepth 20000 in
set_option maxHeartbeats 2000000 in
theorem kX10_film {tp : Int → Int} {z : Int} (hR : zRo2 M tp z) {s t n : Int} (hs : -2147483648 ≤ s ∧ s ≤ 2147483647) (ht : -2147483648 ≤ t ∧ t ≤ 2147483647) (hn : -2147483648 ≤ n ∧ n ≤ 2147483647) : zK g yX10_film xX10_film [zr 58, zi s, zi t, zi n] 75 M (fun w N' M1 => N' = 75 ∧ ((¬ ((0 ≤ s ∧ s < 4) ∧ (0 ≤ t ∧ t < M 58 12) ∧ (1 ≤ n ∧ n ≤ 20)) ∧ w = some (zi (-2)) ∧ M1 = M) ∨ (((0 ≤ s ∧ s < 4) ∧ (0 ≤ t ∧ t < M 58 12) ∧ (1 ≤ n ∧ n ≤ 20)) ∧ ∃ c : Nat, w = some (zi (c : Int)) ∧ (c : Int) ≤ n ∧ (∀ e : Nat, e < c → zfq (fun d => zct (zTm M) (M 58 7) d t) e ≠ -1 ∧ M1 74 (40 * s + e) = zfq (fun d => zct (zTm M) (M 58 7) d t) e) ∧ ((c : Int) < n → zfq (fun d => zct (zTm M) (M 58 7) d t) c = -1) ∧ M1 71 s = 1 ∧ M1 72 s = 1 ∧ M1 73 s = c ∧ zFr (zSg s c) M M1))) := by
  refine zK_of (ls0 := [zr 58, zi s, zi t, zi n, (3, 0), (3, 0), (3, 0), (3, 0)]) (by decide) rfl (by decide) rfl (Nat.le_of_ble_eq_true rfl) ?_
  refine zV_iload_n (pc := 0) (i := 1) dX10_film_0 rfl rfl ?_
  refine zV_isp (pc := 1) dX10_film_1 klX10_408 mX10_isSheet rfl ⟨Nat.zero_le _, Nat.zero_le _⟩ (kX10_isSheet (by omega)) rfl rfl (Nat.le_of_ble_eq_true rfl) ?_
  refine zV_if_eqb (pc := 4) (tgt := 27) dX10_film_4 (by decide) (fun c_4 => ?_) (fun c_4 => ?_)
  · refine zV_bipush (pc := 27) dX10_film_27 (by decide) ?_
    refine zV_iret (pc := 29) dX10_film_29 trivial ⟨Nat.zero_le _, Nat.zero_le _⟩ ?_
    exact ⟨rfl, Or.inl ⟨by omega, rfl, rfl⟩⟩
  · refine zV_aload_n (pc := 7) (i := 0) dX10_film_7 rfl rfl ?_
    refine zV_iload_n (pc := 8) (i := 2) dX10_film_8 rfl rfl ?_
    refine zV_ivp (pc := 9) (ci := 10) dX10_film_9 klX10_84 mX10_isThing ⟨by decide, rfl⟩ rfl ⟨Nat.zero_le _, Nat.zero_le _⟩ (kX10_isThing hR.2.1.1 (by omega)) (zOb_of rfl) rfl rfl (Nat.le_of_ble_eq_true rfl) ?_
    refine zV_if_eqb (pc := 12) (tgt := 27) dX10_film_12 (by decide) (fun c_12 => ?_) (fun c_12 => ?_)
    · refine zV_bipush (pc := 27) dX10_film_27 (by decide) ?_
      refine zV_iret (pc := 29) dX10_film_29 trivial ⟨Nat.zero_le _, Nat.zero_le _⟩ ?_
      exact ⟨rfl, Or.inl ⟨by omega, rfl, rfl⟩⟩
    · refine zV_iload_n (pc := 15) (i := 3) dX10_film_15 rfl rfl ?_
      refine zV_i2l (pc := 16) dX10_film_16 (by omega) ?_
      refine zV_lconst1 (pc := 17) dX10_film_17 ?_
      refine zV_ldc2 (pc := 18) dX10_film_18 kiX10_400 ?_
      refine zV_isp (pc := 21) dX10_film_21 klX10_76 mX10_in rfl ⟨Nat.zero_le _, Nat.zero_le _⟩ (kX10_in (by omega) (by omega) (by omega)) rfl rfl (Nat.le_of_ble_eq_true rfl) ?_
      refine zV_if_neb (pc := 24) (tgt := 30) dX10_film_24 (by decide) (fun c_24 => ?_) (fun c_24 => ?_)
      · refine zV_aload_n (pc := 30) (i := 0) dX10_film_30 rfl rfl ?_
        refine zV_iload_n (pc := 31) (i := 2) dX10_film_31 rfl rfl ?_
        refine zV_sipush (pc := 32) dX10_film_32 (by decide) ?_
        refine zV_ivp (pc := 35) (ci := 10) dX10_film_35 klX10_434 mX10_often ⟨by decide, rfl⟩ rfl ⟨Nat.zero_le _, Nat.zero_le _⟩ (kX10_often hR (by omega) (by decide)) (zOb_of rfl) rfl rfl (Nat.le_of_ble_eq_true rfl) ?_
        rw [zif_t ⟨by omega, by decide⟩]
        have hsm : 0 ≤ zsum (fun d => zb (zct (zTm M) (M 58 7) d t)) 400 ∧ zsum (fun d => zb (zct (zTm M) (M 58 7) d t)) 400 ≤ 400 := by have := zsum_b (f := fun d => zb (zct (zTm M) (M 58 7) d t)) (m := 1) (n := 400) (fun k _ _ => zb_r _); omega
        rw [show (400 : Int).toNat = 400 from rfl]
        refine zV_istore (pc := 38) dX10_film_38 rfl ?_
        try dsimp only [List.set_cons_succ, List.set_cons_zero]
        refine zV_iload (pc := 40) dX10_film_40 rfl ?_
        refine zV_iload_n (pc := 42) (i := 3) dX10_film_42 rfl rfl ?_
        refine zV_icmp_ge (pc := 43) (tgt := 51) dX10_film_43 (by decide) (by omega) (fun c_43 => ?_) (fun c_43 => ?_)
        · refine zV_iload_n (pc := 51) (i := 3) dX10_film_51 rfl rfl ?_
          refine zV_istore (pc := 52) dX10_film_52 rfl ?_
          try dsimp only [List.set_cons_succ, List.set_cons_zero]
          refine zV_aload_n (pc := 54) (i := 0) dX10_film_54 rfl rfl ?_
          refine zV_iload_n (pc := 55) (i := 1) dX10_film_55 rfl rfl ?_
          refine zV_iconst (pc := 56) dX10_film_56 ?_
          refine zV_iload (pc := 57) dX10_film_57 rfl ?_
          refine zV_ivs (pc := 59) (ci := 10) dX10_film_59 klX10_437 mX10_sheet ⟨by decide, rfl⟩ rfl ⟨Nat.zero_le _, Nat.zero_le _⟩ (kX10_sheet hR.1 (s := s) (x := 1) (n := n) (by omega) (by decide) (by omega)) (zOb_of rfl) rfl rfl (Nat.le_of_ble_eq_true rfl) ?_
          rintro w N9 M2 ⟨rfl, rfl, -, q2⟩
          have e1 : zshA s 1 (n) = 1 := by unfold zshA; (repeat' split) <;> omega
          obtain ⟨-, -, g1, g2, g3, -, g5⟩ := q2 e1
          rw [if_pos (by decide)] at g5
          rw [e1]
          refine zV_pop (pc := 62) dX10_film_62 (by simp) ?_
          refine zV_iconst (pc := 63) dX10_film_63 ?_
          refine zV_istore (pc := 64) dX10_film_64 rfl ?_
          try dsimp only [List.set_cons_succ, List.set_cons_zero]
          refine zV_iconst (pc := 66) dX10_film_66 ?_
          refine zV_istore (pc := 67) dX10_film_67 rfl ?_
          try dsimp only [List.set_cons_succ, List.set_cons_zero]
          refine zV.mono (kX10_fmL hR (s := s) (t := t) (n := n) (b := n) (by omega) (by omega) (by omega) (by omega) (by omega) 400 0 0 M2 (by omega) (by omega) rfl (by omega) rfl (fun e e0 => absurd e0 (Nat.not_lt_zero _)) g5 ⟨g1.trans (zb_t (by decide)), g2, g3⟩) ?_
          exact fun _ _ _ h => ⟨h.1, Or.inr ⟨⟨by omega, by omega, by omega⟩, h.2⟩⟩
        · refine zV_iload (pc := 46) dX10_film_46 rfl ?_
          refine zV_goto (pc := 48) (tgt := 52) dX10_film_48 (by decide) ?_
          refine zV_istore (pc := 52) dX10_film_52 rfl ?_
          try dsimp only [List.set_cons_succ, List.set_cons_zero]
          refine zV_aload_n (pc := 54) (i := 0) dX10_film_54 rfl rfl ?_
          refine zV_iload_n (pc := 55) (i := 1) dX10_film_55 rfl rfl ?_
          refine zV_iconst (pc := 56) dX10_film_56 ?_
          refine zV_iload (pc := 57) dX10_film_57 rfl ?_
          refine zV_ivs (pc := 59) (ci := 10) dX10_film_59 klX10_437 mX10_sheet ⟨by decide, rfl⟩ rfl ⟨Nat.zero_le _, Nat.zero_le _⟩ (kX10_sheet hR.1 (s := s) (x := 1) (n := zsum (fun d => zb (zct (zTm M) (M 58 7) d t)) 400) (by omega) (by decide) (by omega)) (zOb_of rfl) rfl rfl (Nat.le_of_ble_eq_true rfl) ?_
          rintro w N9 M2 ⟨rfl, rfl, -, q2⟩
          have e1 : zshA s 1 (zsum (fun d => zb (zct (zTm M) (M 58 7) d t)) 400) = 1 := by unfold zshA; (repeat' split) <;> omega
          obtain ⟨-, -, g1, g2, g3, -, g5⟩ := q2 e1
          rw [if_pos (by decide)] at g5
          rw [e1]
          refine zV_pop (pc := 62) dX10_film_62 (by simp) ?_
          refine zV_iconst (pc := 63) dX10_film_63 ?_
          refine zV_istore (pc := 64) dX10_film_64 rfl ?_
          try dsimp only [List.set_cons_succ, List.set_cons_zero]
          refine zV_iconst (pc := 66) dX10_film_66 ?_
          refine zV_istore (pc := 67) dX10_film_67 rfl ?_
          try dsimp only [List.set_cons_succ, List.set_cons_zero]
          refine zV.mono (kX10_fmL hR (s := s) (t := t) (n := n) (b := zsum (fun d => zb (zct (zTm M) (M 58 7) d t)) 400) (by omega) (by omega) (by omega) (by omega) (by omega) 400 0 0 M2 (by omega) (by omega) rfl (by omega) rfl (fun e e0 => absurd e0 (Nat.not_lt_zero _)) g5 ⟨g1.trans (zb_t (by decide)), g2, g3⟩) ?_
          exact fun _ _ _ h => ⟨h.1, Or.inr ⟨⟨by omega, by omega, by omega⟩, h.2⟩⟩
      · refine zV_bipush (pc := 27) dX10_film_27 (by decide) ?_
        refine zV_iret (pc := 29) dX10_film_29 trivial ⟨Nat.zero_le _, Nat.zero_le _⟩ ?_
        exact ⟨rfl, Or.inl ⟨by omega, rfl, rfl⟩⟩
end
