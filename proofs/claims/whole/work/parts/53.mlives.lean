/-! THE MODEL: the year lives, what it costs (printed by wip/whole/p53.py) -/
/-- what the model's calls use up -/
def zMs (a j : Int) : Prop := a = 66 ∨ a = 67 ∨ a = 68 ∨ a = 69 ∨ (a = 58 ∧ ((13 ≤ j ∧ j ≤ 27) ∨ (31 ≤ j ∧ j ≤ 33)))
theorem zMs_st : ∀ q ∈ zstL, ¬ zMs q.1 q.2.1 := by
  unfold zMs
  decide
theorem zNS_M {a j : Int} (h : zNS a j) : zMs a j := by unfold zNS at h; unfold zMs; omega
def zRo2 (M : zM) (tp : Int → Int) (z : Int) : Prop := zSt M ∧ zWm M ∧ zMU M tp z ∧ (0 ≤ M 58 7 ∧ M 58 7 ≤ 127)
theorem zTm_fr {M M1 : zM} (fr : zFr zMs M M1) (i f : Int) (hf : 0 ≤ f ∧ f ≤ 3) : zTm M1 i f = zTm M i f := fr _ _ (by unfold zMs; omega)
theorem zRo2.fr {M M1 : zM} {tp : Int → Int} {z : Int} (h : zRo2 M tp z) (fr : zFr zMs M M1) : zRo2 M1 tp z := by
  obtain ⟨h1, h2, h3, h4⟩ := h
  have e7 : M1 58 7 = M 58 7 := fr _ _ (by unfold zMs; omega)
  have e12 : M1 58 12 = M 58 12 := fr _ _ (by unfold zMs; omega)
  have e4 : M1 58 4 = M 58 4 := fr _ _ (by unfold zMs; omega)
  refine ⟨h1.fr fr zMs_st, ⟨by rw [e12]; exact h2.1, fun i i0 i1 => ?_⟩, ?_, by rw [e7]; exact h4⟩
  · have := h2.2 i i0 (by omega)
    unfold zTt at this ⊢
    rw [zTm_fr fr i 0 (by decide), zTm_fr fr i 1 (by decide), zTm_fr fr i 2 (by decide), zTm_fr fr i 3 (by decide)]
    exact this
  · unfold zMU at h3 ⊢
    rw [e4]
    exact ⟨h3.1, (fr _ _ (by unfold zMs; omega)).trans h3.2.1, fun j j0 j1 => (fr _ _ (by unfold zMs; omega)).trans (h3.2.2.1 j j0 j1), h3.2.2.2⟩
theorem zct_e {T T' : Int → Int → Int} {h h' d i : Int} (e : ∀ f : Int, 0 ≤ f → f ≤ 3 → T i f = T' i f) (eh : h = h') : zct T h d i = zct T' h' d i := by
  unfold zct
  rw [e 0 (by decide) (by decide), e 1 (by decide) (by decide), e 2 (by decide) (by decide), e 3 (by decide) (by decide), eh]
theorem zct_m {M M1 : zM} (fr : zFr zMs M M1) (d i : Int) : zct (zTm M1) (M1 58 7) d i = zct (zTm M) (M 58 7) d i :=
  zct_e (fun f f0 f1 => zTm_fr fr i f ⟨f0, f1⟩) (fr _ _ (by unfold zMs; omega))
/-- who comes on d -/
noncomputable def zfm (M : zM) : Int → Int := fun d => zso (zct (zTm M) (M 58 7) d) (M 58 12).toNat
theorem zfm_r {M : zM} (hn : 0 ≤ M 58 12 ∧ M 58 12 ≤ 6) (d : Int) : 0 ≤ zfm M d ∧ zfm M d < 64 := by
  have h := zso_r (zct (zTm M) (M 58 7) d) (M 58 12).toNat
  have h2 : (2 : Int) ^ (M 58 12).toNat ≤ 64 := by
    rcases (show (M 58 12).toNat = 0 ∨ (M 58 12).toNat = 1 ∨ (M 58 12).toNat = 2 ∨ (M 58 12).toNat = 3 ∨ (M 58 12).toNat = 4 ∨ (M 58 12).toNat = 5 ∨ (M 58 12).toNat = 6 by omega) with e | e | e | e | e | e | e <;> rw [e] <;> decide
  exact ⟨h.1, by show zso (zct (zTm M) (M 58 7) d) (M 58 12).toNat < 64; omega⟩
theorem zfm_fr {M M1 : zM} (fr : zFr zMs M M1) : zfm M1 = zfm M := by
  funext d
  unfold zfm
  rw [show M1 58 12 = M 58 12 from fr _ _ (by unfold zMs; omega)]
  exact zso_c (fun i _ _ => by rw [zct_m fr])
/-- the model's rows hold who comes, and the rest ahead -/
def zLv (M : zM) (f : Int → Int) : Prop := ∀ d : Int, 0 ≤ d → d < 400 → M 66 d = f d ∧ M 67 d = zra f d.toNat
theorem zLv.fr {C : Int → Int → Prop} {M M1 : zM} {f : Int → Int} (h : zLv M f) (fr : zFr C M M1) (hC : ∀ a j, C a j → a ≠ 66 ∧ a ≠ 67) : zLv M1 f :=
  fun d d0 d1 => ⟨(fr _ _ (fun q => (hC _ _ q).1 rfl)).trans (h d d0 d1).1, (fr _ _ (fun q => (hC _ _ q).2 rfl)).trans (h d d0 d1).2⟩
theorem z_shl00 {y : Int} (h : 0 ≤ y ∧ y < 32) : Int32.ofInt 0 <<< (Int32.ofInt y &&& 31) = Int32.ofInt 0 := by
  have := z_shl0 y.toNat (by omega)
  rw [← zo_n h.1] at this
  exact this
theorem z_or0 (x : Int) : Int32.ofInt x ||| Int32.ofInt 0 = Int32.ofInt x := by
  show Int32.ofInt x ||| 0 = _
  exact Int32.or_zero
noncomputable def zkm (M : zM) (tp : Int → Int) (z : Int) (f : Int → Int) (d : Int) : Int := zcost (ztt tp z) (zTm M) (M 58 12).toNat f d
noncomputable def zmF (M : zM) (tp : Int → Int) (z : Int) (f : Int → Int) (d : Int) : Int → Int := fun i => zif (zbt (f d) i) (zsp (zTm M i 0) (zTm M i 1) (ztt tp z 0 (znm d i (zpc (f d)) (zTm M i 2) (zra f d.toNat) (zTm M i 1)))) 0
theorem zmF_r {M : zM} (hW : zWm M) (tp : Int → Int) (z : Int) (f : Int → Int) (d : Int) {i : Int} (h0 : 0 ≤ i) (h1 : i < M 58 12) : 0 ≤ zmF M tp z f d i ∧ zmF M tp z f d i ≤ 198 := by
  unfold zmF
  by_cases h : zbt (f d) i
  · rw [zif_t h]
    exact zsp_r (hW.2 i h0 h1).2.1.1 (ztt_r _ _ _ _)
  · rw [zif_f h]
    omega
theorem zsum_0 {f : Int → Int} : ∀ {n : Nat}, (∀ k : Int, 0 ≤ k → k < n → f k = 0) → zsum f n = 0 := by
  intro n
  induction n with
  | zero => intro _; rfl
  | succ n ih =>
    intro h
    rw [zsum_s, ih (fun k h0 h1 => h k h0 (by omega)), h n (by omega) (by omega)]
    rfl
theorem zcost_a {tx : Int → (Int → Int) → Int} {T : Int → Int → Int} {n : Nat} {f : Int → Int} {d : Int} : (if 2 ≤ zpc (f d) then tx 1 (znm d 0 (zpc (f d)) 0 (zra f d.toNat) 0) else 0) + zsum (fun i => zif (zbt (f d) i) (zsp (T i 0) (T i 1) (tx 0 (znm d i (zpc (f d)) (T i 2) (zra f d.toNat) (T i 1)))) 0) n = zcost tx T n f d := by
  unfold zcost
  by_cases h : f d = 0
  · rw [if_pos h, h, if_neg (by decide), zsum_0 (fun k k0 k1 => zif_f (by unfold zbt; rw [Int.zero_ediv]; decide))]
    rfl
  · rw [if_neg h]
    omega
theorem zkm_r {M : zM} (hW : zWm M) (tp : Int → Int) (z : Int) (f : Int → Int) (d : Int) : 0 ≤ zkm M tp z f d ∧ zkm M tp z f d ≤ 1300 := by
  have hn := hW.1
  have h1 := zsum_b (f := zmF M tp z f d) (m := 198) (n := (M 58 12).toNat) (fun k h0 h1 => zmF_r hW tp z f d h0 (by omega))
  have h2 := ztt_r tp z 1 (znm d 0 (zpc (f d)) 0 (zra f d.toNat) 0)
  unfold zkm
  rw [← zcost_a]
  change 0 ≤ _ + zsum (zmF M tp z f d) (M 58 12).toNat ∧ _ + zsum (zmF M tp z f d) (M 58 12).toNat ≤ 1300
  have h3 : ((M 58 12).toNat : Int) * 198 ≤ 6 * 198 := by omega
  split <;> omega
section
variable {g : zG} {N : Nat} {M : zM}
set_option maxRecDepth 20000 in
set_option maxHeartbeats 2000000 in
theorem kX10_comesF {tp : Int → Int} {z : Int} (hR : zRo2 M tp z) {M1 : zM} (fr : zFr zMs M M1) {t d : Int} (ht : 0 ≤ t ∧ t < M 58 12) (hd : 0 ≤ d ∧ d ≤ 900) : zK g yX10_comes xX10_comes [zr 58, zi t, zi d] 75 M1 (zPp (zi (zb (zct (zTm M) (M 58 7) d t))) 75 M1) := by
  have hR1 := hR.fr fr
  have e12 : M1 58 12 = M 58 12 := fr _ _ (by unfold zMs; omega)
  have hn := hR.2.1.1
  have h := hR1.2.1.2 t ht.1 (by omega)
  rw [← zct_m fr]
  exact kX10_comes hR1.1 (by omega) h.1 h.2.1 h.2.2.1 h.2.2.2 hR1.2.2.2 hd
set_option maxRecDepth 20000 in
set_option maxHeartbeats 2000000 in
theorem kX10_liI {tp : Int → Int} {z : Int} (hR : zRo2 M tp z) {P : zP} {M1 : zM} (h9 : zFr (fun a _ => a = 66 ∨ a = 67) M M1) {d r : Int} (hd : 0 ≤ d ∧ d < 400) : ∀ (k : Nat) (t c : Int), t + k = M 58 12 → 0 ≤ t → c = zso (zct (zTm M) (M 58 7) d) t.toNat → (zV g xX10_lives (P) 52 [zr 58, zi r, zi d, zi (zso (zct (zTm M) (M 58 7) d) (M 58 12).toNat), zi (M 58 12)] [] 75 M1 0 0) → zV g xX10_lives (P) 16 [zr 58, zi r, zi d, zi c, zi t] [] 75 M1 0 0 := by
  intro k
  induction k with
  | zero =>
    intro t c h0 h1 h2 h3
    have hn := hR.2.1.1
    have fr := h9.mono (C' := zMs) (fun a j q => by unfold zMs; omega)
    have hS1 := (hR.fr fr).1
    have e12 : M1 58 12 = M 58 12 := fr _ _ (by unfold zMs; omega)
    refine zV_iload (pc := 16) dX10_lives_16 rfl ?_
    refine zV_aload_n (pc := 18) (i := 0) dX10_lives_18 rfl rfl ?_
    refine zV_get (pc := 19) (j := 12) dX10_lives_19 flX10_73 (zOb_of rfl) rfl e12 ?_
    refine zV_icmp_ge (pc := 22) (tgt := 52) dX10_lives_22 (by decide) (by omega) (fun c_22 => ?_) (fun c_22 => absurd (by omega) c_22)
    have et : t = M 58 12 := by omega
    subst et
    rw [h2]
    exact h3
  | succ k ih =>
    intro t c h0 h1 h2 h3
    have hn := hR.2.1.1
    have fr := h9.mono (C' := zMs) (fun a j q => by unfold zMs; omega)
    have hS1 := (hR.fr fr).1
    have e12 : M1 58 12 = M 58 12 := fr _ _ (by unfold zMs; omega)
    refine zV_iload (pc := 16) dX10_lives_16 rfl ?_
    refine zV_aload_n (pc := 18) (i := 0) dX10_lives_18 rfl rfl ?_
    refine zV_get (pc := 19) (j := 12) dX10_lives_19 flX10_73 (zOb_of rfl) rfl e12 ?_
    refine zV_icmp_ge (pc := 22) (tgt := 52) dX10_lives_22 (by decide) (by omega) (fun c_22 => absurd c_22 (by omega)) (fun c_22 => ?_)
    refine zV_iload_n (pc := 25) (i := 3) dX10_lives_25 rfl rfl ?_
    refine zV_aload_n (pc := 26) (i := 0) dX10_lives_26 rfl rfl ?_
    refine zV_iload (pc := 27) dX10_lives_27 rfl ?_
    refine zV_iload_n (pc := 29) (i := 2) dX10_lives_29 rfl rfl ?_
    refine zV_ivp (pc := 30) (ci := 10) dX10_lives_30 klX10_336 mX10_comes ⟨by decide, rfl⟩ rfl ⟨Nat.zero_le _, Nat.zero_le _⟩ (kX10_comesF hR fr (by omega) (by omega)) (zOb_of rfl) rfl rfl (Nat.le_of_ble_eq_true rfl) ?_
    refine zV_if_eqb (pc := 33) (tgt := 40) dX10_lives_33 (by decide) (fun c_33 => ?_) (fun c_33 => ?_)
    · refine zV_iconst (pc := 40) dX10_lives_40 ?_
      refine zV_iload (pc := 41) dX10_lives_41 rfl ?_
      first
        | refine zV_ishl (pc := 43) dX10_lives_43 (z_shl (n := t.toNat) (by omega) (by omega)) ?_
        | refine zV_ishl (pc := 43) dX10_lives_43 (z_shl00 (by omega)) ?_
      first
        | refine zV_ior (pc := 44) dX10_lives_44 (z_or2 (by rw [h2]; exact zso_r _ _)) ?_
        | refine zV_ior (pc := 44) dX10_lives_44 (z_or0 _) ?_
      refine zV_istore_n (pc := 45) (i := 3) dX10_lives_45 rfl rfl ?_
      try dsimp only [List.set_cons_succ, List.set_cons_zero]
      refine zV_iinc (pc := 46) dX10_lives_46 rfl rfl ?_
      try dsimp only [List.set_cons_succ, List.set_cons_zero]
      refine zV_goto (pc := 49) (tgt := 16) dX10_lives_49 (by decide) ?_
      first
        | exact ih (t + 1) _ (by omega) (by omega) (by rw [h2]; exact (zso_t (q := zct (zTm M) (M 58 7) d) (by omega) c_33).symm) h3
        | exact ih (t + 1) _ (by omega) (by omega) (by rw [h2]; exact (zso_f (q := zct (zTm M) (M 58 7) d) (by omega) c_33).symm) h3
    · refine zV_iconst (pc := 36) dX10_lives_36 ?_
      refine zV_goto (pc := 37) (tgt := 41) dX10_lives_37 (by decide) ?_
      refine zV_iload (pc := 41) dX10_lives_41 rfl ?_
      first
        | refine zV_ishl (pc := 43) dX10_lives_43 (z_shl (n := t.toNat) (by omega) (by omega)) ?_
        | refine zV_ishl (pc := 43) dX10_lives_43 (z_shl00 (by omega)) ?_
      first
        | refine zV_ior (pc := 44) dX10_lives_44 (z_or2 (by rw [h2]; exact zso_r _ _)) ?_
        | refine zV_ior (pc := 44) dX10_lives_44 (z_or0 _) ?_
      refine zV_istore_n (pc := 45) (i := 3) dX10_lives_45 rfl rfl ?_
      try dsimp only [List.set_cons_succ, List.set_cons_zero]
      refine zV_iinc (pc := 46) dX10_lives_46 rfl rfl ?_
      try dsimp only [List.set_cons_succ, List.set_cons_zero]
      refine zV_goto (pc := 49) (tgt := 16) dX10_lives_49 (by decide) ?_
      first
        | exact ih (t + 1) _ (by omega) (by omega) (by rw [h2]; exact (zso_t (q := zct (zTm M) (M 58 7) d) (by omega) c_33).symm) h3
        | exact ih (t + 1) _ (by omega) (by omega) (by rw [h2]; exact (zso_f (q := zct (zTm M) (M 58 7) d) (by omega) c_33).symm) h3
set_option maxRecDepth 20000 in
set_option maxHeartbeats 2000000 in
theorem kX10_liL {tp : Int → Int} {z : Int} (hR : zRo2 M tp z) : ∀ (k : Nat) (d r : Int) (M1 : zM) (w3 w4 : zv), d + k = 400 → 0 ≤ d → r = zra (zfm M) d.toNat → zFr (fun a _ => a = 66 ∨ a = 67) M M1 → (∀ e : Int, 0 ≤ e → e < d → M1 66 e = zfm M e ∧ M1 67 e = zra (zfm M) e.toNat) → zV g xX10_lives (zPn 75 (fun M1 => zLv M1 (zfm M) ∧ zFr (fun a _ => a = 66 ∨ a = 67) M M1)) 4 [zr 58, zi r, zi d, w3, w4] [] 75 M1 0 0 := by
  intro k
  induction k with
  | zero =>
    intro d r M1 w3 w4 h0 h1 h2 h3 h4
    have h9 := h3
    have hn := hR.2.1.1
    have fr := h9.mono (C' := zMs) (fun a j q => by unfold zMs; omega)
    have hS1 := (hR.fr fr).1
    have hz := zra_r (zfm M) d.toNat
    have hf := zfm_r (M := M) hn d
    refine zV_iload_n (pc := 4) (i := 2) dX10_lives_4 rfl rfl ?_
    refine zV_sipush (pc := 5) dX10_lives_5 (by decide) ?_
    refine zV_icmp_ge (pc := 8) (tgt := 84) dX10_lives_8 (by decide) (by omega) (fun c_8 => ?_) (fun c_8 => absurd (by omega) c_8)
    refine zV_vret (pc := 84) dX10_lives_84 trivial ⟨Nat.zero_le _, Nat.zero_le _⟩ ?_
    exact ⟨rfl, rfl, fun e e0 e1 => h4 e e0 (by omega), h3⟩
  | succ k ih =>
    intro d r M1 w3 w4 h0 h1 h2 h3 h4
    have h9 := h3
    have hn := hR.2.1.1
    have fr := h9.mono (C' := zMs) (fun a j q => by unfold zMs; omega)
    have hS1 := (hR.fr fr).1
    have hz := zra_r (zfm M) d.toNat
    have hf := zfm_r (M := M) hn d
    refine zV_iload_n (pc := 4) (i := 2) dX10_lives_4 rfl rfl ?_
    refine zV_sipush (pc := 5) dX10_lives_5 (by decide) ?_
    refine zV_icmp_ge (pc := 8) (tgt := 84) dX10_lives_8 (by decide) (by omega) (fun c_8 => absurd c_8 (by omega)) (fun c_8 => ?_)
    refine zV_iconst (pc := 11) dX10_lives_11 ?_
    refine zV_istore_n (pc := 12) (i := 3) dX10_lives_12 rfl rfl ?_
    try dsimp only [List.set_cons_succ, List.set_cons_zero]
    refine zV_iconst (pc := 13) dX10_lives_13 ?_
    refine zV_istore (pc := 14) dX10_lives_14 rfl ?_
    try dsimp only [List.set_cons_succ, List.set_cons_zero]
    subst h2
    have hnew : ∀ e : Int, 0 ≤ e → e < d + 1 → (zU (zU M1 66 d (zfm M d)) 67 d (zra (zfm M) d.toNat)) 66 e = zfm M e ∧ (zU (zU M1 66 d (zfm M d)) 67 d (zra (zfm M) d.toNat)) 67 e = zra (zfm M) e.toNat := by
      intro e e0 e1
      by_cases q : e = d
      · subst q
        exact ⟨(zU_a _ _ _ _ (by decide)).trans (zU_s _ _ _ _), zU_s _ _ _ _⟩
      · exact ⟨(zU_a _ _ _ _ (by decide)).trans ((zU_j _ _ _ _ q).trans (h4 e e0 (by omega)).1), (zU_j _ _ _ _ q).trans ((zU_a _ _ _ _ (by decide)).trans (h4 e e0 (by omega)).2)⟩
    refine kX10_liI hR h9 (d := d) (r := zra (zfm M) d.toNat) (by omega) (M 58 12).toNat 0 0 (by omega) (by omega) rfl ?_
    change zV g xX10_lives _ 52 [zr 58, zi (zra (zfm M) d.toNat), zi d, zi (zfm M d), zi (M 58 12)] [] 75 M1 0 0
    refine zV_aload_n (pc := 52) (i := 0) dX10_lives_52 rfl rfl ?_
    refine zV_get (pc := 53) (j := 28) dX10_lives_53 flX10_35 (zOb_of rfl) rfl hS1.e58_28 ?_
    refine zV_iload_n (pc := 56) (i := 2) dX10_lives_56 rfl rfl ?_
    refine zV_iload_n (pc := 57) (i := 3) dX10_lives_57 rfl rfl ?_
    refine zV_iast (pc := 58) dX10_lives_58 (zAr_of rfl : zAr 75 66 0 400) (by omega) ?_
    refine zV_aload_n (pc := 59) (i := 0) dX10_lives_59 rfl rfl ?_
    refine zV_get (pc := 60) (j := 29) dX10_lives_60 flX10_38 (zOb_of rfl) rfl ((zU_a _ _ _ _ (by decide)).trans hS1.e58_29) ?_
    refine zV_iload_n (pc := 63) (i := 2) dX10_lives_63 rfl rfl ?_
    refine zV_iload_n (pc := 64) (i := 1) dX10_lives_64 rfl rfl ?_
    refine zV_iast (pc := 65) dX10_lives_65 (zAr_of rfl : zAr 75 67 0 400) (by omega) ?_
    refine zV_iload_n (pc := 66) (i := 3) dX10_lives_66 rfl rfl ?_
    refine zV_if_ne (pc := 67) (tgt := 76) dX10_lives_67 (by decide) (by omega) (fun c_67 => ?_) (fun c_67 => ?_)
    · have hq0 : ¬ zfm M d = 0 := c_67
      refine zV_iconst (pc := 76) dX10_lives_76 ?_
      refine zV_istore_n (pc := 77) (i := 1) dX10_lives_77 rfl rfl ?_
      try dsimp only [List.set_cons_succ, List.set_cons_zero]
      refine zV_iinc (pc := 78) dX10_lives_78 rfl rfl ?_
      try dsimp only [List.set_cons_succ, List.set_cons_zero]
      refine zV_goto (pc := 81) (tgt := 4) dX10_lives_81 (by decide) ?_
      first
        | (rw [← zra_0 (by omega) hq0]; exact ih (d + 1) _ _ _ _ (by omega) (by omega) rfl ((h3.up (Or.inl rfl)).up (Or.inr rfl)) hnew)
        | (rw [← zra_1 (by omega) hq0]; exact ih (d + 1) _ _ _ _ (by omega) (by omega) rfl ((h3.up (Or.inl rfl)).up (Or.inr rfl)) hnew)
    · have hq0 : zfm M d = 0 := by have := c_67; omega
      refine zV_iload_n (pc := 70) (i := 1) dX10_lives_70 rfl rfl ?_
      refine zV_iconst (pc := 71) dX10_lives_71 ?_
      refine zV_iadd (pc := 72) dX10_lives_72 ?_
      refine zV_goto (pc := 73) (tgt := 77) dX10_lives_73 (by decide) ?_
      refine zV_istore_n (pc := 77) (i := 1) dX10_lives_77 rfl rfl ?_
      try dsimp only [List.set_cons_succ, List.set_cons_zero]
      refine zV_iinc (pc := 78) dX10_lives_78 rfl rfl ?_
      try dsimp only [List.set_cons_succ, List.set_cons_zero]
      refine zV_goto (pc := 81) (tgt := 4) dX10_lives_81 (by decide) ?_
      first
        | (rw [← zra_0 (by omega) hq0]; exact ih (d + 1) _ _ _ _ (by omega) (by omega) rfl ((h3.up (Or.inl rfl)).up (Or.inr rfl)) hnew)
        | (rw [← zra_1 (by omega) hq0]; exact ih (d + 1) _ _ _ _ (by omega) (by omega) rfl ((h3.up (Or.inl rfl)).up (Or.inr rfl)) hnew)
set_option maxRecDepth 20000 in
set_option maxHeartbeats 2000000 in
theorem kX10_lives {tp : Int → Int} {z : Int} (hR : zRo2 M tp z) : zK g yX10_lives xX10_lives [zr 58] 75 M (zPn 75 (fun M1 => zLv M1 (zfm M) ∧ zFr (fun a _ => a = 66 ∨ a = 67) M M1)) := by
  refine zK_of (ls0 := [zr 58, (3, 0), (3, 0), (3, 0), (3, 0)]) (by decide) rfl (by decide) rfl (Nat.le_of_ble_eq_true rfl) ?_
  refine zV_iconst (pc := 0) dX10_lives_0 ?_
  refine zV_istore_n (pc := 1) (i := 1) dX10_lives_1 rfl rfl ?_
  try dsimp only [List.set_cons_succ, List.set_cons_zero]
  refine zV_iconst (pc := 2) dX10_lives_2 ?_
  refine zV_istore_n (pc := 3) (i := 2) dX10_lives_3 rfl rfl ?_
  try dsimp only [List.set_cons_succ, List.set_cons_zero]
  exact kX10_liL hR 400 0 0 M _ _ (by omega) (by omega) rfl zFr.rf (fun e e0 e1 => absurd e0 (by omega))
set_option maxRecDepth 20000 in
set_option maxHeartbeats 2000000 in
theorem kX10_coL {tp : Int → Int} {z : Int} (hR : zRo2 M tp z) {f : Int → Int} (h6 : ∀ d : Int, 0 ≤ d → d < 400 → 0 ≤ f d ∧ f d < 64) (hL : zLv M f) {d : Int} (hd : 0 ≤ d ∧ d < 400) : ∀ (k : Nat) (i c : Int) (M1 : zM), i + k = M 58 12 → 0 ≤ i → c = (if 2 ≤ zpc (f d) then ztt tp z 1 (znm d 0 (zpc (f d)) 0 (zra f d.toNat) 0) else 0) + zsum (zmF M tp z f d) i.toNat → zFr zNS M M1 → zV g xX10_costOf (zPq (zi (zkm M tp z f d)) 75 (fun M1 => zFr zNS M M1)) 40 [zr 58, zi d, zi (f d), zi (zpc (f d)), zi c, zi i] [] 75 M1 0 0 := by
  intro k
  induction k with
  | zero =>
    intro i c M1 h0 h1 h2 h3
    have hn := hR.2.1.1
    have hf := h6 d hd.1 hd.2
    have fr := h3.mono (C' := zMs) (fun a j q => zNS_M q)
    have hR1 := hR.fr fr
    have hS1 := hR1.1
    have hU1 := hR1.2.2.1
    have hL1 := (hL.fr h3 (fun a j q => by unfold zNS at q; omega)) d hd.1 hd.2
    have e12 : M1 58 12 = M 58 12 := fr _ _ (by unfold zMs; omega)
    have hz := zra_r f d.toNat
    have hpc := zpc_b (f d).toNat (by omega)
    rw [Int.toNat_of_nonneg hf.1] at hpc
    refine zV_iload (pc := 40) dX10_costOf_40 rfl ?_
    refine zV_aload_n (pc := 42) (i := 0) dX10_costOf_42 rfl rfl ?_
    refine zV_get (pc := 43) (j := 12) dX10_costOf_43 flX10_73 (zOb_of rfl) rfl e12 ?_
    refine zV_icmp_ge (pc := 46) (tgt := 95) dX10_costOf_46 (by decide) (by omega) (fun c_46 => ?_) (fun c_46 => absurd (by omega) c_46)
    refine zV_iload (pc := 95) dX10_costOf_95 rfl ?_
    refine zV_iret (pc := 97) dX10_costOf_97 trivial ⟨Nat.zero_le _, Nat.zero_le _⟩ ?_
    rw [show i = M 58 12 by omega] at h2
    refine ⟨?_, rfl, h3⟩
    rw [h2]
    exact congrArg (fun x => some (zi x)) zcost_a
  | succ k ih =>
    intro i c M1 h0 h1 h2 h3
    have hn := hR.2.1.1
    have hf := h6 d hd.1 hd.2
    have fr := h3.mono (C' := zMs) (fun a j q => zNS_M q)
    have hR1 := hR.fr fr
    have hS1 := hR1.1
    have hU1 := hR1.2.2.1
    have hL1 := (hL.fr h3 (fun a j q => by unfold zNS at q; omega)) d hd.1 hd.2
    have e12 : M1 58 12 = M 58 12 := fr _ _ (by unfold zMs; omega)
    have hz := zra_r f d.toNat
    have hpc := zpc_b (f d).toNat (by omega)
    rw [Int.toNat_of_nonneg hf.1] at hpc
    have hti := hR.2.1.2 i h1 (by omega)
    have g63 : M1 63 i = zTm M i 1 := zTm_fr fr i 1 (by decide)
    have g64 : M1 64 i = zTm M i 2 := zTm_fr fr i 2 (by decide)
    have g62 : M1 62 i = zTm M i 0 := zTm_fr fr i 0 (by decide)
    have g65 : M1 65 i = zTm M i 3 := zTm_fr fr i 3 (by decide)
    have h0b : 0 ≤ f d / 2 ^ i.toNat := Int.ediv_nonneg hf.1 (Int.le_of_lt (Int.pow_pos (by decide)))
    refine zV_iload (pc := 40) dX10_costOf_40 rfl ?_
    refine zV_aload_n (pc := 42) (i := 0) dX10_costOf_42 rfl rfl ?_
    refine zV_get (pc := 43) (j := 12) dX10_costOf_43 flX10_73 (zOb_of rfl) rfl e12 ?_
    refine zV_icmp_ge (pc := 46) (tgt := 95) dX10_costOf_46 (by decide) (by omega) (fun c_46 => absurd c_46 (by omega)) (fun c_46 => ?_)
    refine zV_iload (pc := 49) dX10_costOf_49 rfl ?_
    refine zV_iload_n (pc := 51) (i := 2) dX10_costOf_51 rfl rfl ?_
    refine zV_iload (pc := 52) dX10_costOf_52 rfl ?_
    refine zV_ishr (pc := 54) dX10_costOf_54 (z_shr (by omega) (by omega) rfl) ?_
    refine zV_iconst (pc := 55) dX10_costOf_55 ?_
    refine zV_iand (pc := 56) dX10_costOf_56 (z_and1 h0b) ?_
    refine zV_iconst (pc := 57) dX10_costOf_57 ?_
    refine zV_icmp_ne (pc := 58) (tgt := 85) dX10_costOf_58 (by decide) (by omega) (fun c_58 => ?_) (fun c_58 => ?_)
    · refine zV_iconst (pc := 85) dX10_costOf_85 ?_
      refine zV_iadd (pc := 86) dX10_costOf_86 ?_
      refine zV_istore (pc := 87) dX10_costOf_87 rfl ?_
      try dsimp only [List.set_cons_succ, List.set_cons_zero]
      refine zV_iinc (pc := 89) dX10_costOf_89 rfl rfl ?_
      try dsimp only [List.set_cons_succ, List.set_cons_zero]
      refine zV_goto (pc := 92) (tgt := 40) dX10_costOf_92 (by decide) ?_
      first
        | (have ez : zmF M tp z f d i = 0 := zif_f (fun q => c_58 q)
           exact ih (i + 1) _ M1 (by omega) (by omega) (by rw [h2, zsum_n h1, ez, Int.add_assoc]) h3)
        | (have ez : zmF M tp z f d i = zsp (M2 62 i) (M2 63 i) (ztt tp z 0 (znm d i (zpc (f d)) (M1 64 i) (zra f d.toNat) (M1 63 i))) := by rw [k62, k63, g64, g63]; exact zif_t c_58
           exact ih (i + 1) _ M2 (by omega) (by omega) (by rw [h2, zsum_n h1, ez, Int.add_assoc]) f2)
    · refine zV_aload_n (pc := 61) (i := 0) dX10_costOf_61 rfl rfl ?_
      refine zV_iload (pc := 62) dX10_costOf_62 rfl ?_
      refine zV_aload_n (pc := 64) (i := 0) dX10_costOf_64 rfl rfl ?_
      refine zV_iconst (pc := 65) dX10_costOf_65 ?_
      refine zV_iload (pc := 66) dX10_costOf_66 rfl ?_
      refine zV_iload_n (pc := 68) (i := 1) dX10_costOf_68 rfl rfl ?_
      refine zV_iload_n (pc := 69) (i := 3) dX10_costOf_69 rfl rfl ?_
      refine zV_aload_n (pc := 70) (i := 0) dX10_costOf_70 rfl rfl ?_
      refine zV_get (pc := 71) (j := 29) dX10_costOf_71 flX10_38 (zOb_of rfl) rfl hS1.e58_29 ?_
      refine zV_iload_n (pc := 74) (i := 1) dX10_costOf_74 rfl rfl ?_
      refine zV_iald (pc := 75) dX10_costOf_75 (zAr_of rfl : zAr 75 67 0 400) (by omega) hL1.2 ?_
      refine zV_ivq (pc := 76) (ci := 10) dX10_costOf_76 klX10_342 mX10_says ⟨by decide, rfl⟩ rfl ⟨Nat.zero_le _, Nat.zero_le _⟩ (kX10_says0 hS1 hU1 (t := i) (d := d) (m := zpc (f d)) (r := zra f d.toNat) (by omega) (by rw [g63]; exact hti.2.1) (by rw [g64]; exact hti.2.2.1) (by omega) (by omega) (by omega)) (zOb_of rfl) rfl rfl (Nat.le_of_ble_eq_true rfl) (fun M2 q2 => ?_)
      have f2 := h3.tr q2
      have fr2 := f2.mono (C' := zMs) (fun a j q => zNS_M q)
      have hS2 := (hR.fr fr2).1
      have k62 : M2 62 i = zTm M i 0 := zTm_fr fr2 i 0 (by decide)
      have k63 : M2 63 i = zTm M i 1 := zTm_fr fr2 i 1 (by decide)
      have k64 : M2 64 i = zTm M i 2 := zTm_fr fr2 i 2 (by decide)
      have k65 : M2 65 i = zTm M i 3 := zTm_fr fr2 i 3 (by decide)
      have hv := ztt_r tp z 0 (znm d i (zpc (f d)) (M1 64 i) (zra f d.toNat) (M1 63 i))
      refine zV_ivp (pc := 79) (ci := 10) dX10_costOf_79 klX10_346 mX10_spendsOf ⟨by decide, rfl⟩ rfl ⟨Nat.zero_le _, Nat.zero_le _⟩ (kX10_spendsOf hS2 (t := i) (by omega) (by rw [k62]; exact hti.1) (by rw [k63]; exact hti.2.1) (by rw [k64]; exact hti.2.2.1) (by rw [k65]; exact hti.2.2.2) hv) (zOb_of rfl) rfl rfl (Nat.le_of_ble_eq_true rfl) ?_
      refine zV_goto (pc := 82) (tgt := 86) dX10_costOf_82 (by decide) ?_
      refine zV_iadd (pc := 86) dX10_costOf_86 ?_
      refine zV_istore (pc := 87) dX10_costOf_87 rfl ?_
      try dsimp only [List.set_cons_succ, List.set_cons_zero]
      refine zV_iinc (pc := 89) dX10_costOf_89 rfl rfl ?_
      try dsimp only [List.set_cons_succ, List.set_cons_zero]
      refine zV_goto (pc := 92) (tgt := 40) dX10_costOf_92 (by decide) ?_
      first
        | (have ez : zmF M tp z f d i = 0 := zif_f (fun q => c_58 q)
           exact ih (i + 1) _ M1 (by omega) (by omega) (by rw [h2, zsum_n h1, ez, Int.add_assoc]) h3)
        | (have ez : zmF M tp z f d i = zsp (M2 62 i) (M2 63 i) (ztt tp z 0 (znm d i (zpc (f d)) (M1 64 i) (zra f d.toNat) (M1 63 i))) := by rw [k62, k63, g64, g63]; exact zif_t c_58
           exact ih (i + 1) _ M2 (by omega) (by omega) (by rw [h2, zsum_n h1, ez, Int.add_assoc]) f2)
set_option maxRecDepth 20000 in
set_option maxHeartbeats 2000000 in
theorem kX10_costOf {tp : Int → Int} {z : Int} (hR : zRo2 M tp z) {f : Int → Int} (h6 : ∀ d : Int, 0 ≤ d → d < 400 → 0 ≤ f d ∧ f d < 64) (hL : zLv M f) {d : Int} (hd : 0 ≤ d ∧ d < 400) : zK g yX10_costOf xX10_costOf [zr 58, zi d] 75 M (zPq (zi (zkm M tp z f d)) 75 (fun M1 => zFr zNS M M1)) := by
  refine zK_of (ls0 := [zr 58, zi d, (3, 0), (3, 0), (3, 0), (3, 0)]) (by decide) rfl (by decide) rfl (Nat.le_of_ble_eq_true rfl) ?_
  have hn := hR.2.1.1
  have hf := h6 d hd.1 hd.2
  have hL1 := hL d hd.1 hd.2
  have hz := zra_r f d.toNat
  have hpc := zpc_b (f d).toNat (by omega)
  rw [Int.toNat_of_nonneg hf.1] at hpc
  refine zV_aload_n (pc := 0) (i := 0) dX10_costOf_0 rfl rfl ?_
  refine zV_get (pc := 1) (j := 28) dX10_costOf_1 flX10_35 (zOb_of rfl) rfl hR.1.e58_28 ?_
  refine zV_iload_n (pc := 4) (i := 1) dX10_costOf_4 rfl rfl ?_
  refine zV_iald (pc := 5) dX10_costOf_5 (zAr_of rfl : zAr 75 66 0 400) (by omega) hL1.1 ?_
  refine zV_istore_n (pc := 6) (i := 2) dX10_costOf_6 rfl rfl ?_
  try dsimp only [List.set_cons_succ, List.set_cons_zero]
  refine zV_iload_n (pc := 7) (i := 2) dX10_costOf_7 rfl rfl ?_
  refine zV_isp (pc := 8) dX10_costOf_8 klX10_339 mX10_bitsOf rfl ⟨Nat.zero_le _, Nat.zero_le _⟩ (kX10_bitsOf hf) rfl rfl (Nat.le_of_ble_eq_true rfl) ?_
  refine zV_istore_n (pc := 11) (i := 3) dX10_costOf_11 rfl rfl ?_
  try dsimp only [List.set_cons_succ, List.set_cons_zero]
  refine zV_iload_n (pc := 12) (i := 3) dX10_costOf_12 rfl rfl ?_
  refine zV_iconst (pc := 13) dX10_costOf_13 ?_
  refine zV_icmp_le (pc := 14) (tgt := 34) dX10_costOf_14 (by decide) (by omega) (fun c_14 => ?_) (fun c_14 => ?_)
  · refine zV_iconst (pc := 34) dX10_costOf_34 ?_
    refine zV_istore (pc := 35) dX10_costOf_35 rfl ?_
    try dsimp only [List.set_cons_succ, List.set_cons_zero]
    refine zV_iconst (pc := 37) dX10_costOf_37 ?_
    refine zV_istore (pc := 38) dX10_costOf_38 rfl ?_
    try dsimp only [List.set_cons_succ, List.set_cons_zero]
    first
      | exact kX10_coL hR h6 hL hd (M 58 12).toNat 0 _ M (by omega) (by omega) (by rw [if_neg (by omega)]; rfl) zFr.rf
      | exact kX10_coL hR h6 hL hd (M 58 12).toNat 0 _ M2 (by omega) (by omega) (by rw [if_pos (by omega)]; exact (Int.add_zero _).symm) q2
  · refine zV_aload_n (pc := 17) (i := 0) dX10_costOf_17 rfl rfl ?_
    refine zV_iconst (pc := 18) dX10_costOf_18 ?_
    refine zV_iconst (pc := 19) dX10_costOf_19 ?_
    refine zV_iload_n (pc := 20) (i := 1) dX10_costOf_20 rfl rfl ?_
    refine zV_iload_n (pc := 21) (i := 3) dX10_costOf_21 rfl rfl ?_
    refine zV_aload_n (pc := 22) (i := 0) dX10_costOf_22 rfl rfl ?_
    refine zV_get (pc := 23) (j := 29) dX10_costOf_23 flX10_38 (zOb_of rfl) rfl hR.1.e58_29 ?_
    refine zV_iload_n (pc := 26) (i := 1) dX10_costOf_26 rfl rfl ?_
    refine zV_iald (pc := 27) dX10_costOf_27 (zAr_of rfl : zAr 75 67 0 400) (by omega) hL1.2 ?_
    refine zV_ivq (pc := 28) (ci := 10) dX10_costOf_28 klX10_342 mX10_says ⟨by decide, rfl⟩ rfl ⟨Nat.zero_le _, Nat.zero_le _⟩ (kX10_says1 (t := 0) hR.1 hR.2.2.1 (d := d) (m := zpc (f d)) (r := zra f d.toNat) (by omega) (by omega) (by omega)) (zOb_of rfl) rfl rfl (Nat.le_of_ble_eq_true rfl) (fun M2 q2 => ?_)
    refine zV_goto (pc := 31) (tgt := 35) dX10_costOf_31 (by decide) ?_
    refine zV_istore (pc := 35) dX10_costOf_35 rfl ?_
    try dsimp only [List.set_cons_succ, List.set_cons_zero]
    refine zV_iconst (pc := 37) dX10_costOf_37 ?_
    refine zV_istore (pc := 38) dX10_costOf_38 rfl ?_
    try dsimp only [List.set_cons_succ, List.set_cons_zero]
    first
      | exact kX10_coL hR h6 hL hd (M 58 12).toNat 0 _ M (by omega) (by omega) (by rw [if_neg (by omega)]; rfl) zFr.rf
      | exact kX10_coL hR h6 hL hd (M 58 12).toNat 0 _ M2 (by omega) (by omega) (by rw [if_pos (by omega)]; exact (Int.add_zero _).symm) q2
theorem zkm_fr {M M1 : zM} {tp : Int → Int} {z : Int} {f : Int → Int} (fr : zFr zMs M M1) (hn : 0 ≤ M 58 12 ∧ M 58 12 ≤ 6) (d : Int) : zkm M1 tp z f d = zkm M tp z f d := by
  unfold zkm zcost
  rw [show M1 58 12 = M 58 12 from fr _ _ (by unfold zMs; omega)]
  have e : zsum (fun i => zif (zbt (f d) i) (zsp (zTm M1 i 0) (zTm M1 i 1) (ztt tp z 0 (znm d i (zpc (f d)) (zTm M1 i 2) (zra f d.toNat) (zTm M1 i 1)))) 0) (M 58 12).toNat = zsum (fun i => zif (zbt (f d) i) (zsp (zTm M i 0) (zTm M i 1) (ztt tp z 0 (znm d i (zpc (f d)) (zTm M i 2) (zra f d.toNat) (zTm M i 1)))) 0) (M 58 12).toNat :=
    zsum_c (fun i _ _ => by rw [zTm_fr fr i 0 (by decide), zTm_fr fr i 1 (by decide), zTm_fr fr i 2 (by decide)])
  rw [e]
set_option maxRecDepth 20000 in
set_option maxHeartbeats 2000000 in
theorem kX10_spL {tp : Int → Int} {z : Int} (hR : zRo2 M tp z) : ∀ (k : Nat) (d c : Int) (M1 : zM), d + k = 400 → 0 ≤ d → c = zsum (zkm M tp z (zfm M)) d.toNat → zFr zMs M M1 → zLv M1 (zfm M) → (∀ e : Int, 0 ≤ e → e < d → M1 68 e = zkm M tp z (zfm M) e) → zV g xX10_spends (zPq (zi (zsum (zkm M tp z (zfm M)) 400)) 75 (fun M1 => zLv M1 (zfm M) ∧ (∀ e : Int, 0 ≤ e → e < 400 → M1 68 e = zkm M tp z (zfm M) e) ∧ zFr zMs M M1)) 8 [zr 58, zi c, zi d] [] 75 M1 0 0 := by
  intro k
  induction k with
  | zero =>
    intro d c M1 h0 h1 h2 h3 h4 h5
    have hn := hR.2.1.1
    have hR1 := hR.fr h3
    have hS1 := hR1.1
    have hc := zkm_r hR.2.1 tp z (zfm M) d
    refine zV_iload_n (pc := 8) (i := 2) dX10_spends_8 rfl rfl ?_
    refine zV_sipush (pc := 9) dX10_spends_9 (by decide) ?_
    refine zV_icmp_ge (pc := 12) (tgt := 41) dX10_spends_12 (by decide) (by omega) (fun c_12 => ?_) (fun c_12 => absurd (by omega) c_12)
    refine zV_iload_n (pc := 41) (i := 1) dX10_spends_41 rfl rfl ?_
    refine zV_iret (pc := 42) dX10_spends_42 trivial ⟨Nat.zero_le _, Nat.zero_le _⟩ ?_
    rw [show d = 400 by omega] at h2
    exact ⟨by rw [h2]; rfl, rfl, h4, fun e e0 e1 => h5 e e0 (by omega), h3⟩
  | succ k ih =>
    intro d c M1 h0 h1 h2 h3 h4 h5
    have hn := hR.2.1.1
    have hR1 := hR.fr h3
    have hS1 := hR1.1
    have hc := zkm_r hR.2.1 tp z (zfm M) d
    refine zV_iload_n (pc := 8) (i := 2) dX10_spends_8 rfl rfl ?_
    refine zV_sipush (pc := 9) dX10_spends_9 (by decide) ?_
    refine zV_icmp_ge (pc := 12) (tgt := 41) dX10_spends_12 (by decide) (by omega) (fun c_12 => absurd c_12 (by omega)) (fun c_12 => ?_)
    refine zV_aload_n (pc := 15) (i := 0) dX10_spends_15 rfl rfl ?_
    refine zV_get (pc := 16) (j := 30) dX10_spends_16 flX10_41 (zOb_of rfl) rfl hS1.e58_30 ?_
    refine zV_iload_n (pc := 19) (i := 2) dX10_spends_19 rfl rfl ?_
    refine zV_aload_n (pc := 20) (i := 0) dX10_spends_20 rfl rfl ?_
    refine zV_iload_n (pc := 21) (i := 2) dX10_spends_21 rfl rfl ?_
    refine zV_ivq (pc := 22) (ci := 10) dX10_spends_22 klX10_352 mX10_costOf ⟨by decide, rfl⟩ rfl ⟨Nat.zero_le _, Nat.zero_le _⟩ (kX10_costOf hR1 (fun e _ _ => zfm_r hn e) h4 (d := d) (by omega)) (zOb_of rfl) rfl rfl (Nat.le_of_ble_eq_true rfl) (fun M2 q2 => ?_)
    rw [zkm_fr h3 hn]
    have fr2 : zFr zMs M M2 := h3.tr (q2.mono (fun a j y => zNS_M y))
    have g2 : zFr zMs M (zU M2 68 d (zkm M tp z (zfm M) d)) := fr2.up (Or.inr (Or.inr (Or.inl rfl)))
    have hS2 := (hR.fr g2).1
    refine zV_iast (pc := 25) dX10_spends_25 (zAr_of rfl : zAr 75 68 0 400) (by omega) ?_
    refine zV_iload_n (pc := 26) (i := 1) dX10_spends_26 rfl rfl ?_
    refine zV_aload_n (pc := 27) (i := 0) dX10_spends_27 rfl rfl ?_
    refine zV_get (pc := 28) (j := 30) dX10_spends_28 flX10_41 (zOb_of rfl) rfl hS2.e58_30 ?_
    refine zV_iload_n (pc := 31) (i := 2) dX10_spends_31 rfl rfl ?_
    refine zV_iald (pc := 32) dX10_spends_32 (zAr_of rfl : zAr 75 68 0 400) (by omega) (zU_s _ _ _ _) ?_
    refine zV_iadd (pc := 33) dX10_spends_33 ?_
    refine zV_istore_n (pc := 34) (i := 1) dX10_spends_34 rfl rfl ?_
    try dsimp only [List.set_cons_succ, List.set_cons_zero]
    refine zV_iinc (pc := 35) dX10_spends_35 rfl rfl ?_
    try dsimp only [List.set_cons_succ, List.set_cons_zero]
    refine zV_goto (pc := 38) (tgt := 8) dX10_spends_38 (by decide) ?_
    refine ih (d + 1) _ _ (by omega) (by omega) (by rw [h2, zsum_n h1]) g2 ((h4.fr q2 (fun a j y => by unfold zNS at y; omega)).fr (C := fun a _ => a = 68) (zFr.rf.up rfl) (fun a j y => by omega)) (fun e e0 e1 => ?_)
    by_cases q : e = d
    · subst q
      exact zU_s _ _ _ _
    · exact (zU_j _ _ _ _ q).trans ((q2 _ _ (by unfold zNS; omega)).trans (h5 e e0 (by omega)))
set_option maxRecDepth 20000 in
set_option maxHeartbeats 2000000 in
theorem kX10_spends {tp : Int → Int} {z : Int} (hR : zRo2 M tp z) : zK g yX10_spends xX10_spends [zr 58] 75 M (zPq (zi (zsum (zkm M tp z (zfm M)) 400)) 75 (fun M1 => zLv M1 (zfm M) ∧ (∀ e : Int, 0 ≤ e → e < 400 → M1 68 e = zkm M tp z (zfm M) e) ∧ zFr zMs M M1)) := by
  refine zK_of (ls0 := [zr 58, (3, 0), (3, 0)]) (by decide) rfl (by decide) rfl (Nat.le_of_ble_eq_true rfl) ?_
  refine zV_aload_n (pc := 0) (i := 0) dX10_spends_0 rfl rfl ?_
  refine zV_ivn (pc := 1) (ci := 10) dX10_spends_1 klX10_349 mX10_lives ⟨by decide, rfl⟩ rfl ⟨Nat.zero_le _, Nat.zero_le _⟩ (kX10_lives hR) (zOb_of rfl) rfl rfl (Nat.le_of_ble_eq_true rfl) (fun M1 q1 => ?_)
  refine zV_iconst (pc := 4) dX10_spends_4 ?_
  refine zV_istore_n (pc := 5) (i := 1) dX10_spends_5 rfl rfl ?_
  try dsimp only [List.set_cons_succ, List.set_cons_zero]
  refine zV_iconst (pc := 6) dX10_spends_6 ?_
  refine zV_istore_n (pc := 7) (i := 2) dX10_spends_7 rfl rfl ?_
  try dsimp only [List.set_cons_succ, List.set_cons_zero]
  exact kX10_spL hR 400 0 0 M1 (by omega) (by omega) rfl (q1.2.mono (fun a j y => by unfold zMs; omega)) q1.1 (fun e e0 e1 => absurd e0 (by omega))
end
