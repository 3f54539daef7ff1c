/-! THE CLASS: things out of a sheet (printed by wip/whole/p27.py) -/
/-- how many things, and which -/
abbrev zTs := Int × (Int → Int → Int)
def zRep (M : zM) (S : Int × (Int → Int → Int)) : Prop := M 1 1 = S.1 ∧ ∀ i : Int, 0 ≤ i → i < S.1 → ∀ f : Int, 0 ≤ f → f ≤ 3 → M (3 + i) f = S.2 i f
noncomputable def zadW (S : Int × (Int → Int → Int)) (k n x : Int) : Int := zif (zthOK k n x) (zif (S.1 = 6) (-4) S.1) (-2)
noncomputable def zadS (S : Int × (Int → Int → Int)) (k n x : Int) : Int × (Int → Int → Int) := (zif (zthOK k n x ∧ S.1 < 6) (S.1 + 1) S.1, fun i f => zif (zthOK k n x ∧ S.1 < 6 ∧ i = S.1) (if f = 0 then k else if f = 1 then n else if f = 2 then x.tdiv 100 else x.tmod 100) (S.2 i f))
noncomputable def zths (R : Int → Int) (sz : Int) : Nat → Int → Int → Int × (Int → Int → Int) → Int × (Int × (Int → Int → Int))
  | 0, _, c, S => (c, S)
  | m + 1, p, c, S => if 0 ≤ p ∧ p ≤ sz - 3 then zths R sz m (p + 3) (if 0 ≤ zadW S (R p) (R (p + 1)) (R (p + 2)) then c + 1 else c) (zadS S (R p) (R (p + 1)) (R (p + 2))) else (-12, S)
/-- what a new thing reaches -/
def zAdF (a j : Int) : Prop := (3 ≤ a ∧ a < 9) ∨ (a = 1 ∧ j = 1)
theorem zRo.ad {M M1 : zM} {k n x : Int} (h : zRo M) (hk : zthOK k n x) (h6 : M 1 1 < 6) (q0 : M1 (3 + M 1 1) 0 = k) (q1 : M1 (3 + M 1 1) 1 = n) (q2 : M1 (3 + M 1 1) 2 = x.tdiv 100) (q3 : M1 (3 + M 1 1) 3 = x.tmod 100) (q4 : M1 1 1 = M 1 1 + 1) (f : zFr (fun a j => a = 3 + M 1 1 ∨ (a = 1 ∧ j = 1)) M M1) : zRo M1 ∧ M1 1 2 = M 1 2 ∧ M1 1 3 = M 1 3 := by
  have hn := h.2.1.1
  have e2 : M1 1 2 = M 1 2 := f _ _ (by omega)
  have e3 : M1 1 3 = M 1 3 := f _ _ (by omega)
  have hU := h.2.2.1
  have r := hU.1
  refine ⟨⟨h.1.fr (f.mono (C' := zAdF) (fun a j e => by unfold zAdF; omega)) (by unfold zAdF; decide), ⟨by omega, fun i i0 i1 => ?_⟩, ?_, by rw [e2]; exact h.2.2.2⟩, e2, e3⟩
  · by_cases ei : i = M 1 1
    · subst ei
      unfold zTh
      rw [q0, q1, q2, q3]
      exact ⟨hk.1, hk.2.1, hk.2.2.1, hk.2.2.2⟩
    · have ht := h.2.1.2 i i0 (by omega)
      have g : ∀ j, M1 (3 + i) j = M (3 + i) j := fun j => f _ _ (by omega)
      unfold zTh at ht ⊢
      rw [g, g, g, g]
      exact ht
  · unfold zRu
    rw [e3]
    refine ⟨r, ?_⟩
    have x1 : M1 (27 + 3 * M 1 3) = M (27 + 3 * M 1 3) := by
      funext j
      exact f _ _ (by omega)
    have x2 : M1 (28 + 3 * M 1 3) = M (28 + 3 * M 1 3) := by
      funext j
      exact f _ _ (by omega)
    have := hU.2
    unfold zTx at this ⊢
    rw [x1, x2]
    exact this
theorem zth_rep {M M1 : zM} {S : Int × (Int → Int → Int)} {k n x : Int} {w : Option zv} (h : zRo M) (hr : zRep M S) (q : (¬ zthOK k n x ∧ w = some (zi (-2)) ∧ M1 = M) ∨ (zthOK k n x ∧ M 1 1 = 6 ∧ w = some (zi (-4)) ∧ M1 = M) ∨ (zthOK k n x ∧ M 1 1 < 6 ∧ w = some (zi (M 1 1)) ∧ M1 (3 + M 1 1) 0 = k ∧ M1 (3 + M 1 1) 1 = n ∧ M1 (3 + M 1 1) 2 = x.tdiv 100 ∧ M1 (3 + M 1 1) 3 = x.tmod 100 ∧ M1 1 1 = M 1 1 + 1 ∧ zFr (fun a j => a = 3 + M 1 1 ∨ (a = 1 ∧ j = 1)) M M1)) : w = some (zi (zadW S k n x)) ∧ zRep M1 (zadS S k n x) ∧ zRo M1 ∧ zFr zAdF M M1 := by
  have e := hr.1
  have same : ¬ (zthOK k n x ∧ S.1 < 6) → M1 = M → zRep M1 (zadS S k n x) := by
    intro hc hM
    subst hM
    refine ⟨e.trans (zif_f hc).symm, fun i i0 i1 f f0 f1 => ?_⟩
    have i1' : i < S.1 := by
      have : (zadS S k n x).1 = S.1 := zif_f hc
      rw [this] at i1
      exact i1
    exact (hr.2 i i0 i1' f f0 f1).trans (zif_f (fun y => hc ⟨y.1, y.2.1⟩)).symm
  rcases q with ⟨a, rfl, hM⟩ | ⟨a, b, rfl, hM⟩ | ⟨a, b, rfl, q0, q1, q2, q3, q4, q5⟩
  · refine ⟨congrArg (fun z => some (zi z)) (zif_f a).symm, same (fun y => a y.1) hM, by rw [hM]; exact h, by rw [hM]; exact zFr.rf⟩
  · refine ⟨congrArg (fun z => some (zi z)) ((zif_t a).trans (zif_t (by omega))).symm, same (fun y => by omega) hM, by rw [hM]; exact h, by rw [hM]; exact zFr.rf⟩
  · have hn := h.2.1.1
    refine ⟨congrArg (fun z => some (zi z)) (e.trans ((zif_t a).trans (zif_f (by omega))).symm), ⟨?_, fun i i0 i1 f f0 f1 => ?_⟩, (h.ad a b q0 q1 q2 q3 q4 q5).1, q5.mono (fun a j y => by unfold zAdF; omega)⟩
    · exact q4.trans ((by omega : M 1 1 + 1 = S.1 + 1).trans (zif_t ⟨a, by omega⟩).symm)
    · have e9 : (zadS S k n x).1 = S.1 + 1 := zif_t ⟨a, by omega⟩
      rw [e9] at i1
      by_cases ei : i = M 1 1
      · subst ei
        refine Eq.trans ?_ (zif_t ⟨a, by omega, e⟩).symm
        rcases (show f = 0 ∨ f = 1 ∨ f = 2 ∨ f = 3 by omega) with rfl | rfl | rfl | rfl
        · exact q0
        · exact q1
        · exact q2
        · exact q3
      · exact (q5 _ _ (by omega)).trans ((hr.2 i i0 (by omega) f f0 f1).trans (zif_f (by omega)).symm)
section
variable {g : zG} {N : Nat} {M : zM}
theorem zadW_b {S : Int × (Int → Int → Int)} {k n x : Int} (h : 0 ≤ S.1 ∧ S.1 ≤ 6) : -4 ≤ zadW S k n x ∧ zadW S k n x ≤ 6 := by
  unfold zadW
  by_cases a : zthOK k n x
  · rw [zif_t a]
    by_cases b : S.1 = 6
    · rw [zif_t b]
      decide
    · rw [zif_f b]
      omega
  · rw [zif_f a]
    decide
set_option maxRecDepth 20000 in
set_option maxHeartbeats 2000000 in
theorem kX9_tgL (hH : zShs M) {s x f m : Int} (hs : 0 ≤ s ∧ s < 4) (hm : 0 ≤ m ∧ m ≤ 6) {V : Int × (Int × (Int → Int → Int))} : ∀ (k : Nat) (i p c : Int) (M1 : zM) (S : zTs), i + k = m → 0 ≤ i → (-2147483648 ≤ p ∧ p ≤ 2147483647) → (0 ≤ c ∧ c ≤ i) → zRo M1 → zRep M1 S → zths (M (45 + 2 * s)) (M (44 + 2 * s) 1) k p c S = V → zFr zAdF M M1 → zV g xX9_things (fun w N' M1 => N' = 75 ∧ w = some (zi V.1) ∧ zRep M1 V.2 ∧ zRo M1 ∧ zFr zAdF M M1) 78 [zr 0, zi s, zi x, zi f, zi m, zr (44 + 2 * s), zi c, zi p, zi i] [] 75 M1 0 0 := by
  intro k
  induction k with
  | zero =>
    intro i p c M1 S h0 h1 h2 h3 h4 h5 h6 h7
    have hS1 := h4.1
    have hz : M1 (44 + 2 * s) 1 = M (44 + 2 * s) 1 := h7 _ _ (by unfold zAdF; omega)
    have hz2 := (hH s (by omega) (by omega)).2
    have eR : ∀ j, M1 (45 + 2 * s) j = M (45 + 2 * s) j := fun j => h7 _ _ (by unfold zAdF; omega)
    refine zV_iload (pc := 78) dX9_things_78 rfl ?_
    refine zV_iload (pc := 80) dX9_things_80 rfl ?_
    refine zV_icmp_ge (pc := 82) (tgt := 146) dX9_things_82 (by decide) (by omega) (fun c_82 => ?_) (fun c_82 => absurd (by omega) c_82)
    refine zV_iload (pc := 146) dX9_things_146 rfl ?_
    refine zV_iret (pc := 148) dX9_things_148 trivial ⟨Nat.zero_le _, Nat.zero_le _⟩ ?_
    subst h6
    exact ⟨rfl, rfl, h5, h4, h7⟩
  | succ k ih =>
    intro i p c M1 S h0 h1 h2 h3 h4 h5 h6 h7
    have hS1 := h4.1
    have hz : M1 (44 + 2 * s) 1 = M (44 + 2 * s) 1 := h7 _ _ (by unfold zAdF; omega)
    have hz2 := (hH s (by omega) (by omega)).2
    have eR : ∀ j, M1 (45 + 2 * s) j = M (45 + 2 * s) j := fun j => h7 _ _ (by unfold zAdF; omega)
    refine zV_iload (pc := 78) dX9_things_78 rfl ?_
    refine zV_iload (pc := 80) dX9_things_80 rfl ?_
    refine zV_icmp_ge (pc := 82) (tgt := 146) dX9_things_82 (by decide) (by omega) (fun c_82 => absurd c_82 (by omega)) (fun c_82 => ?_)
    refine zV_aload (pc := 85) dX9_things_85 rfl ?_
    refine zV_iload (pc := 87) dX9_things_87 rfl ?_
    refine zV_iconst (pc := 89) dX9_things_89 ?_
    refine zV_ivp (pc := 90) (ci := 6) dX9_things_90 klX9_283 mX6_hasItems ⟨by decide, rfl⟩ rfl ⟨Nat.zero_le _, Nat.zero_le _⟩ (kX6_hasItems hS1 hs (by omega) (by omega) (by omega)) (zOb_sh hs) rfl rfl (Nat.le_of_ble_eq_true rfl) ?_
    refine zV_if_neb (pc := 93) (tgt := 99) dX9_things_93 (by decide) (fun c_93 => ?_) (fun c_93 => ?_)
    · refine zV_aload_n (pc := 99) (i := 0) dX9_things_99 rfl rfl ?_
      refine zV_aload (pc := 100) dX9_things_100 rfl ?_
      refine zV_get (pc := 102) (j := 2) dX9_things_102 flX9_289 (zOb_sh hs) rfl (hS1.shi hs) ?_
      refine zV_iload (pc := 105) dX9_things_105 rfl ?_
      refine zV_iald (pc := 107) dX9_things_107 (zAr_sh hs) (by omega) (eR _) ?_
      refine zV_aload (pc := 108) dX9_things_108 rfl ?_
      refine zV_get (pc := 110) (j := 2) dX9_things_110 flX9_289 (zOb_sh hs) rfl (hS1.shi hs) ?_
      refine zV_iload (pc := 113) dX9_things_113 rfl ?_
      refine zV_iconst (pc := 115) dX9_things_115 ?_
      refine zV_iadd (pc := 116) dX9_things_116 ?_
      refine zV_iald (pc := 117) dX9_things_117 (zAr_sh hs) (by omega) (eR _) ?_
      refine zV_aload (pc := 118) dX9_things_118 rfl ?_
      refine zV_get (pc := 120) (j := 2) dX9_things_120 flX9_289 (zOb_sh hs) rfl (hS1.shi hs) ?_
      refine zV_iload (pc := 123) dX9_things_123 rfl ?_
      refine zV_iconst (pc := 125) dX9_things_125 ?_
      refine zV_iadd (pc := 126) dX9_things_126 ?_
      refine zV_iald (pc := 127) dX9_things_127 (zAr_sh hs) (by omega) (eR _) ?_
      refine zV_ivs (pc := 128) (ci := 9) dX9_things_128 klX9_299 mX9_thing ⟨by decide, rfl⟩ rfl ⟨Nat.zero_le _, Nat.zero_le _⟩ (kX9_thing hS1 h4.2.1 (hz2.2 _ (by omega) (by omega)) (hz2.2 _ (by omega) (by omega)) (hz2.2 _ (by omega) (by omega))) (zOb_of rfl) rfl rfl (Nat.le_of_ble_eq_true rfl) ?_
      rintro w N9 M2 ⟨rfl, q⟩
      obtain ⟨rfl, r1, r2, r3⟩ := zth_rep h4 h5 q
      have e6 := h6
      unfold zths at e6
      rw [if_pos (by omega)] at e6
      have hw : -4 ≤ zadW S (M (45 + 2 * s) p) (M (45 + 2 * s) (p + 1)) (M (45 + 2 * s) (p + 2)) ∧ zadW S (M (45 + 2 * s) p) (M (45 + 2 * s) (p + 1)) (M (45 + 2 * s) (p + 2)) ≤ 6 := zadW_b (by have := h4.2.1.1; have := h5.1; omega)
      refine zV_if_lt (pc := 131) (tgt := 137) dX9_things_131 (by decide) (by omega) (fun c_131 => ?_) (fun c_131 => ?_)
      · refine zV_iinc (pc := 137) dX9_things_137 rfl rfl ?_
        try dsimp only [List.set_cons_succ, List.set_cons_zero]
        refine zV_iinc (pc := 140) dX9_things_140 rfl rfl ?_
        try dsimp only [List.set_cons_succ, List.set_cons_zero]
        refine zV_goto (pc := 143) (tgt := 78) dX9_things_143 (by decide) ?_
        first
          | (rw [if_neg (by omega)] at e6; exact ih _ _ _ M2 _ (by omega) (by omega) (by omega) (by omega) r2 r1 e6 (h7.tr r3))
          | (rw [if_pos (by omega)] at e6; exact ih _ _ _ M2 _ (by omega) (by omega) (by omega) (by omega) r2 r1 e6 (h7.tr r3))
      · refine zV_iinc (pc := 134) dX9_things_134 rfl rfl ?_
        try dsimp only [List.set_cons_succ, List.set_cons_zero]
        refine zV_iinc (pc := 137) dX9_things_137 rfl rfl ?_
        try dsimp only [List.set_cons_succ, List.set_cons_zero]
        refine zV_iinc (pc := 140) dX9_things_140 rfl rfl ?_
        try dsimp only [List.set_cons_succ, List.set_cons_zero]
        refine zV_goto (pc := 143) (tgt := 78) dX9_things_143 (by decide) ?_
        first
          | (rw [if_neg (by omega)] at e6; exact ih _ _ _ M2 _ (by omega) (by omega) (by omega) (by omega) r2 r1 e6 (h7.tr r3))
          | (rw [if_pos (by omega)] at e6; exact ih _ _ _ M2 _ (by omega) (by omega) (by omega) (by omega) r2 r1 e6 (h7.tr r3))
    · refine zV_bipush (pc := 96) dX9_things_96 (by decide) ?_
      refine zV_iret (pc := 98) dX9_things_98 trivial ⟨Nat.zero_le _, Nat.zero_le _⟩ ?_
      have e6 := h6
      unfold zths at e6
      rw [if_neg (by omega)] at e6
      subst e6
      exact ⟨rfl, rfl, h5, h4, h7⟩
set_option maxRecDepth 20000 in
set_option maxHeartbeats 2000000 in
theorem kX9_things (hR : zRo M) (hH : zShs M) {S : Int × (Int → Int → Int)} (hr : zRep M S) {s x f m : Int} (hs : -2147483648 ≤ s ∧ s ≤ 2147483647) (hx : -2147483648 ≤ x ∧ x ≤ 2147483647) (hf : -2147483648 ≤ f ∧ f ≤ 2147483647) (hm : -2147483648 ≤ m ∧ m ≤ 2147483647) : zK g yX9_things xX9_things [zr 0, zi s, zi x, zi f, zi m] 75 M (fun w N' M1 => N' = 75 ∧ ((¬ ((0 ≤ s ∧ s < 4) ∧ (0 ≤ x ∧ x ≤ 2) ∧ (0 ≤ m ∧ m ≤ 6)) ∧ w = some (zi (-2)) ∧ M1 = M) ∨ (((0 ≤ s ∧ s < 4) ∧ (0 ≤ x ∧ x ≤ 2) ∧ (0 ≤ m ∧ m ≤ 6)) ∧ M (44 + 2 * s) 0 = -1 ∧ w = some (zi (-11)) ∧ M1 = M) ∨ (((0 ≤ s ∧ s < 4) ∧ (0 ≤ x ∧ x ≤ 2) ∧ (0 ≤ m ∧ m ≤ 6)) ∧ M (44 + 2 * s) 0 ≠ -1 ∧ M (44 + 2 * s) 0 ≠ x ∧ w = some (zi (-13)) ∧ M1 = M) ∨ (((0 ≤ s ∧ s < 4) ∧ (0 ≤ x ∧ x ≤ 2) ∧ (0 ≤ m ∧ m ≤ 6)) ∧ M (44 + 2 * s) 0 = x ∧ w = some (zi (zths (M (45 + 2 * s)) (M (44 + 2 * s) 1) m.toNat f 0 S).1) ∧ zRep M1 (zths (M (45 + 2 * s)) (M (44 + 2 * s) 1) m.toNat f 0 S).2 ∧ zRo M1 ∧ zFr zAdF M M1))) := by
  refine zK_of (ls0 := [zr 0, zi s, zi x, zi f, zi m, (3, 0), (3, 0), (3, 0), (3, 0)]) (by decide) rfl (by decide) rfl (Nat.le_of_ble_eq_true rfl) ?_
  obtain ⟨hS, hW, hU, hh⟩ := id hR
  have hn := hW.1
  have hH0 := fun a b => (hH s a b).1
  refine zV_iload_n (pc := 0) (i := 1) dX9_things_0 rfl rfl ?_
  refine zV_isp (pc := 1) dX9_things_1 klX9_228 mX9_isSheet rfl ⟨Nat.zero_le _, Nat.zero_le _⟩ (kX9_isSheet (by omega)) rfl rfl (Nat.le_of_ble_eq_true rfl) ?_
  refine zV_if_eqb (pc := 4) (tgt := 27) dX9_things_4 (by decide) (fun c_4 => ?_) (fun c_4 => ?_)
  · refine zV_bipush (pc := 27) dX9_things_27 (by decide) ?_
    refine zV_iret (pc := 29) dX9_things_29 trivial ⟨Nat.zero_le _, Nat.zero_le _⟩ ?_
    exact ⟨rfl, Or.inl ⟨by omega, rfl, rfl⟩⟩
  · refine zV_iload_n (pc := 7) (i := 2) dX9_things_7 rfl rfl ?_
    refine zV_iconst (pc := 8) dX9_things_8 ?_
    refine zV_iconst (pc := 9) dX9_things_9 ?_
    refine zV_isp (pc := 10) dX9_things_10 klX9_119 mX9_within rfl ⟨Nat.zero_le _, Nat.zero_le _⟩ (kX9_within (by omega) (by omega) (by omega)) rfl rfl (Nat.le_of_ble_eq_true rfl) ?_
    refine zV_if_eqb (pc := 13) (tgt := 27) dX9_things_13 (by decide) (fun c_13 => ?_) (fun c_13 => ?_)
    · refine zV_bipush (pc := 27) dX9_things_27 (by decide) ?_
      refine zV_iret (pc := 29) dX9_things_29 trivial ⟨Nat.zero_le _, Nat.zero_le _⟩ ?_
      exact ⟨rfl, Or.inl ⟨by omega, rfl, rfl⟩⟩
    · refine zV_iload (pc := 16) dX9_things_16 rfl ?_
      refine zV_iconst (pc := 18) dX9_things_18 ?_
      refine zV_bipush (pc := 19) dX9_things_19 (by decide) ?_
      refine zV_isp (pc := 21) dX9_things_21 klX9_119 mX9_within rfl ⟨Nat.zero_le _, Nat.zero_le _⟩ (kX9_within (by omega) (by omega) (by omega)) rfl rfl (Nat.le_of_ble_eq_true rfl) ?_
      refine zV_if_neb (pc := 24) (tgt := 30) dX9_things_24 (by decide) (fun c_24 => ?_) (fun c_24 => ?_)
      · refine zV_aload_n (pc := 30) (i := 0) dX9_things_30 rfl rfl ?_
        refine zV_get (pc := 31) (j := 10) dX9_things_31 flX9_55 (zOb_of rfl) rfl hS.e0_10 ?_
        refine zV_iload_n (pc := 34) (i := 1) dX9_things_34 rfl rfl ?_
        refine zV_aald (pc := 35) dX9_things_35 (zAr_of rfl : zAr 75 25 4 4) ⟨rfl, rfl⟩ (by omega) (hS.sh (by omega)) ?_
        refine zV_astore (pc := 36) dX9_things_36 rfl ?_
        try dsimp only [List.set_cons_succ, List.set_cons_zero]
        refine zV_aload (pc := 38) dX9_things_38 rfl ?_
        refine zV_ivp (pc := 40) (ci := 6) dX9_things_40 klX9_231 mX6_isMissing ⟨by decide, rfl⟩ rfl ⟨Nat.zero_le _, Nat.zero_le _⟩ (kX6_isMissing hS (by omega) (hH s (by omega) (by omega)).1) (zOb_sh (by omega)) rfl rfl (Nat.le_of_ble_eq_true rfl) ?_
        refine zV_if_neb (pc := 43) (tgt := 58) dX9_things_43 (by decide) (fun c_43 => ?_) (fun c_43 => ?_)
        · refine zV_aload (pc := 58) dX9_things_58 rfl ?_
          refine zV_ivp (pc := 60) (ci := 6) dX9_things_60 klX9_231 mX6_isMissing ⟨by decide, rfl⟩ rfl ⟨Nat.zero_le _, Nat.zero_le _⟩ (kX6_isMissing hS (by omega) (hH s (by omega) (by omega)).1) (zOb_sh (by omega)) rfl rfl (Nat.le_of_ble_eq_true rfl) ?_
          refine zV_if_eqb (pc := 63) (tgt := 69) dX9_things_63 (by decide) (fun c_63 => ?_) (fun c_63 => ?_)
          · refine zV_iconst (pc := 69) dX9_things_69 ?_
            refine zV_istore (pc := 70) dX9_things_70 rfl ?_
            try dsimp only [List.set_cons_succ, List.set_cons_zero]
            refine zV_iload_n (pc := 72) (i := 3) dX9_things_72 rfl rfl ?_
            refine zV_istore (pc := 73) dX9_things_73 rfl ?_
            try dsimp only [List.set_cons_succ, List.set_cons_zero]
            refine zV_iconst (pc := 75) dX9_things_75 ?_
            refine zV_istore (pc := 76) dX9_things_76 rfl ?_
            try dsimp only [List.set_cons_succ, List.set_cons_zero]
            refine zV.mono (kX9_tgL hH (s := s) (x := x) (f := f) (m := m) (by omega) (by omega) m.toNat 0 f 0 M S (by omega) (by omega) (by omega) (by omega) hR hr rfl zFr.rf) ?_
            exact fun _ _ _ h => ⟨h.1, Or.inr (Or.inr (Or.inr ⟨by omega, by omega, h.2⟩))⟩
          · refine zV_bipush (pc := 66) dX9_things_66 (by decide) ?_
            refine zV_iret (pc := 68) dX9_things_68 trivial ⟨Nat.zero_le _, Nat.zero_le _⟩ ?_
            exact ⟨rfl, Or.inr (Or.inl ⟨by omega, by omega, rfl, rfl⟩)⟩
        · refine zV_aload (pc := 46) dX9_things_46 rfl ?_
          refine zV_get (pc := 48) (j := 0) dX9_things_48 flX9_286 (zOb_sh (by omega)) rfl rfl ?_
          refine zV_iload_n (pc := 51) (i := 2) dX9_things_51 rfl rfl ?_
          refine zV_icmp_eq (pc := 52) (tgt := 58) dX9_things_52 (by decide) (by omega) (fun c_52 => ?_) (fun c_52 => ?_)
          · refine zV_aload (pc := 58) dX9_things_58 rfl ?_
            refine zV_ivp (pc := 60) (ci := 6) dX9_things_60 klX9_231 mX6_isMissing ⟨by decide, rfl⟩ rfl ⟨Nat.zero_le _, Nat.zero_le _⟩ (kX6_isMissing hS (by omega) (hH s (by omega) (by omega)).1) (zOb_sh (by omega)) rfl rfl (Nat.le_of_ble_eq_true rfl) ?_
            refine zV_if_eqb (pc := 63) (tgt := 69) dX9_things_63 (by decide) (fun c_63 => ?_) (fun c_63 => ?_)
            · refine zV_iconst (pc := 69) dX9_things_69 ?_
              refine zV_istore (pc := 70) dX9_things_70 rfl ?_
              try dsimp only [List.set_cons_succ, List.set_cons_zero]
              refine zV_iload_n (pc := 72) (i := 3) dX9_things_72 rfl rfl ?_
              refine zV_istore (pc := 73) dX9_things_73 rfl ?_
              try dsimp only [List.set_cons_succ, List.set_cons_zero]
              refine zV_iconst (pc := 75) dX9_things_75 ?_
              refine zV_istore (pc := 76) dX9_things_76 rfl ?_
              try dsimp only [List.set_cons_succ, List.set_cons_zero]
              refine zV.mono (kX9_tgL hH (s := s) (x := x) (f := f) (m := m) (by omega) (by omega) m.toNat 0 f 0 M S (by omega) (by omega) (by omega) (by omega) hR hr rfl zFr.rf) ?_
              exact fun _ _ _ h => ⟨h.1, Or.inr (Or.inr (Or.inr ⟨by omega, by omega, h.2⟩))⟩
            · refine zV_bipush (pc := 66) dX9_things_66 (by decide) ?_
              refine zV_iret (pc := 68) dX9_things_68 trivial ⟨Nat.zero_le _, Nat.zero_le _⟩ ?_
              exact ⟨rfl, Or.inr (Or.inl ⟨by omega, by omega, rfl, rfl⟩)⟩
          · refine zV_bipush (pc := 55) dX9_things_55 (by decide) ?_
            refine zV_iret (pc := 57) dX9_things_57 trivial ⟨Nat.zero_le _, Nat.zero_le _⟩ ?_
            exact ⟨rfl, Or.inr (Or.inr (Or.inl ⟨by omega, by omega, by omega, rfl, rfl⟩))⟩
      · refine zV_bipush (pc := 27) dX9_things_27 (by decide) ?_
        refine zV_iret (pc := 29) dX9_things_29 trivial ⟨Nat.zero_le _, Nat.zero_le _⟩ ?_
        exact ⟨rfl, Or.inl ⟨by omega, rfl, rfl⟩⟩
end
