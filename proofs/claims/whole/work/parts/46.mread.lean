/-! THE MODEL'S READER: tokens (printed by wip/whole/p46.py) -/
def zMC (M : zM) (f : Int) (tp : Int → Int) (z : Int) : Prop := zSt M ∧ M 58 19 = f ∧ M 58 20 = z ∧ (∀ j : Int, 0 ≤ j → j < z → M 59 (f + j) = tp j) ∧ (0 ≤ f ∧ f ≤ 800)
/-- which token stands, in the model's words -/
def zMt (tp : Int → Int) (M : zM) (s : zσ) : Prop :=
  (s.tk = 0 ∧ M 58 22 = 0) ∨ (s.tk = 1 ∧ M 58 22 = 4) ∨ (s.tk = 2 ∧ M 58 22 = 2 ∧ M 58 24 = s.vl ∧ M 58 21 = s.at) ∨
  (M 58 22 = 1 ∧ M 58 21 = s.at ∧ s.sa < s.at ∧ (∀ j : Int, s.sa ≤ j → j < s.at → zlt (tp j)) ∧ s.tk = zwt tp s.sa s.at 12 ∧ s.vl = zwv tp s.sa s.at 12) ∨
  (M 58 22 = 3 ∧ M 58 24 = s.tk ∧ (s.tk = 40 ∨ s.tk = 41 ∨ s.tk = 59 ∨ s.tk = 43 ∨ s.tk = 45 ∨ s.tk = 42 ∨ s.tk = 60 ∨ s.tk = 61) ∧ M 58 21 = s.at)
def zMd (tp : Int → Int) (M : zM) (s : zσ) : Prop := M 58 26 = zb (s.ft ≠ -1) ∧ (s.ft ≠ -1 → M 58 27 = s.ft) ∧ (s.ft = -1 → M 58 23 = s.sa ∧ zMt tp M s)
def zNF (a j : Int) : Prop := a = 58 ∧ 21 ≤ j ∧ j ≤ 24
def zNH (a j : Int) : Prop := a = 58 ∧ 26 ≤ j ∧ j ≤ 27
def zNG (a j : Int) : Prop := a = 58 ∧ 21 ≤ j ∧ j ≤ 27
theorem zNG_st : ∀ q ∈ zstL, ¬ zNG q.1 q.2.1 := by
  unfold zNG
  decide
theorem zNF_G {a j : Int} (h : zNF a j) : zNG a j := by unfold zNF at h; unfold zNG; omega
theorem zNH_G {a j : Int} (h : zNH a j) : zNG a j := by unfold zNH at h; unfold zNG; omega
theorem zMC.fr {M M1 : zM} {f z : Int} {tp : Int → Int} (h : zMC M f tp z) (fr : zFr zNG M M1) : zMC M1 f tp z :=
  ⟨h.1.fr fr zNG_st, (fr _ _ (by unfold zNG; omega)).trans h.2.1, (fr _ _ (by unfold zNG; omega)).trans h.2.2.1, fun j j0 j1 => (fr _ _ (by unfold zNG; omega)).trans (h.2.2.2.1 j j0 j1), h.2.2.2.2⟩
theorem zMd.ok {tp : Int → Int} {M : zM} {s : zσ} (h : zMd tp M s) (e : s.ft = -1) : M 58 26 = 0 := by
  rw [h.1]
  exact zb_f (fun q => q e)
theorem zMd.bad {tp : Int → Int} {M : zM} {s : zσ} (h : zMd tp M s) (e : s.ft ≠ -1) : M 58 26 = 1 := by
  rw [h.1]
  exact zb_t e
theorem zMd.here {tp : Int → Int} {z : Int} {M : zM} {s : zσ} (h : zMd tp M s) (ho : zσo z s) (hl : zlive s) : M 58 21 = s.at := by
  rcases (h.2.2 (ho.live hl)).2 with a | a | a | a | a
  · exact absurd a.1 hl.1
  · exact absurd a.1 hl.2
  · exact a.2.2.2
  · exact a.2.1
  · exact a.2.2.2
/-- only what the token's words are made of counts -/
theorem zMd.same {tp : Int → Int} {M M1 : zM} {s : zσ} (h : zMd tp M s) (e : ∀ j : Int, 21 ≤ j → j ≤ 27 → j ≠ 25 → M1 58 j = M 58 j) : zMd tp M1 s := by
  unfold zMd zMt at h ⊢
  rw [e 26 (by decide) (by decide) (by decide), e 27 (by decide) (by decide) (by decide), e 23 (by decide) (by decide) (by decide), e 22 (by decide) (by decide) (by decide), e 24 (by decide) (by decide) (by decide), e 21 (by decide) (by decide) (by decide)]
  exact h
/-! which word a word is -/
def zcd (w : Nat) : Int := if w < 6 then 3 else (w : Int)
theorem zwd_u0 : ∀ v, v < 12 → ∀ u, u < 12 → v ≠ u → (lenJS.getD (v + 1) 0 ≠ lenJS.getD (u + 1) 0 ∨ ∃ j, j < lenJS.getD (v + 1) 0 ∧ zby (v + 1) j ≠ zby (u + 1) j) := by decide +kernel
theorem zwd_u {tp : Int → Int} {s e : Int} {v u : Nat} (hv : v < 12) (hu : u < 12) (a : zwm tp s e v) (b : zwm tp s e u) : v = u := by
  by_cases c : v = u
  · exact c
  · exfalso
    have la : e - s = (lenJS.getD (v + 1) 0 : Nat) := a.1
    have lb : e - s = (lenJS.getD (u + 1) 0 : Nat) := b.1
    rcases zwd_u0 v hv u hu c with q | ⟨j, hj, q⟩
    · omega
    · exact q ((a.2 j hj).trans (b.2 j (by omega)).symm)
theorem zwd_i {tp : Int → Int} {s e : Int} : ∀ n : Nat, ((∀ v : Nat, v < n → ¬ zwm tp s e v) ∧ zwt tp s e n = 1 ∧ zwv tp s e n = 0) ∨ ∃ v : Nat, v < n ∧ zwm tp s e v ∧ zwt tp s e n = zcd v ∧ zwv tp s e n = v := by
  intro n
  induction n with
  | zero => exact Or.inl ⟨fun v h => absurd h (Nat.not_lt_zero v), rfl, rfl⟩
  | succ n ih =>
    by_cases c : zwm tp s e n
    · refine Or.inr ⟨n, Nat.lt_succ_self n, c, ?_, ?_⟩
      · exact zif_t c
      · exact zif_t c
    · have e1 : zwt tp s e (n + 1) = zwt tp s e n := zif_f c
      have e2 : zwv tp s e (n + 1) = zwv tp s e n := zif_f c
      rw [e1, e2]
      rcases ih with ⟨a, b⟩ | ⟨v, h1, h2⟩
      · refine Or.inl ⟨fun v hv => ?_, b⟩
        by_cases q : v = n
        · rw [q]; exact c
        · exact a v (by omega)
      · exact Or.inr ⟨v, by omega, h2⟩
/-- word v stands -/
def zws_ (s : zσ) (v : Nat) : Prop := s.tk = zcd v ∧ (v < 6 → s.vl = v)
theorem zws_e {tp : Int → Int} {s : zσ} {v : Nat} (hv : v < 12) (h1 : s.tk = zwt tp s.sa s.at 12) (h2 : s.vl = zwv tp s.sa s.at 12) : zwm tp s.sa s.at v ↔ zws_ s v := by
  unfold zws_
  rw [h1, h2]
  constructor
  · intro a
    rcases zwd_i (tp := tp) (s := s.sa) (e := s.at) 12 with q | ⟨u, hu, b, e1, e2⟩
    · exact absurd a (q.1 v hv)
    · have := zwd_u hv hu a b
      subst this
      exact ⟨e1, fun _ => e2⟩
  · rintro ⟨a, b⟩
    rcases zwd_i (tp := tp) (s := s.sa) (e := s.at) 12 with q | ⟨u, hu, c, e1, e2⟩
    · rw [q.2.1] at a
      exfalso
      unfold zcd at a
      split at a <;> omega
    · have : v = u := by
        rw [e1] at a
        unfold zcd at a
        by_cases c1 : v < 6
        · have := b c1
          omega
        · rw [if_neg c1] at a
          split at a <;> omega
      rw [this]
      exact c
section
variable {g : zG} {N : Nat} {M : zM}
set_option maxRecDepth 20000 in
set_option maxHeartbeats 2000000 in
theorem kX10_byteAt {f z : Int} {tp : Int → Int} (hC : zMC M f tp z) (hT : ztp tp z) {p : Int} (hp : 0 ≤ p ∧ p ≤ 1000) : zK g yX10_byteAt xX10_byteAt [zr 58, zi p] 75 M (zPp (zi (zbp tp z p)) 75 M) := by
  refine zK_of (ls0 := [zr 58, zi p]) (by decide) rfl (by decide) rfl (Nat.le_of_ble_eq_true rfl) ?_
  obtain ⟨hS, hf, hz, hb, hf8⟩ := id hC
  have hzz := hT.1
  refine zV_iload_n (pc := 0) (i := 1) dX10_byteAt_0 rfl rfl ?_
  refine zV_aload_n (pc := 1) (i := 0) dX10_byteAt_1 rfl rfl ?_
  refine zV_get (pc := 2) (j := 20) dX10_byteAt_2 flX10_127 (zOb_of rfl) rfl hz ?_
  refine zV_icmp_ge (pc := 5) (tgt := 22) dX10_byteAt_5 (by decide) (by omega) (fun c_5 => ?_) (fun c_5 => ?_)
  · refine zV_iconst (pc := 22) dX10_byteAt_22 ?_
    refine zV_iret (pc := 23) dX10_byteAt_23 trivial ⟨Nat.zero_le _, Nat.zero_le _⟩ ?_
    first
      | exact zPe (zbp_z (by omega)).symm
      | exact zPe ((if_pos (by omega)).symm)
  · refine zV_aload_n (pc := 8) (i := 0) dX10_byteAt_8 rfl rfl ?_
    refine zV_get (pc := 9) (j := 1) dX10_byteAt_9 flX10_13 (zOb_of rfl) rfl hS.e58_1 ?_
    refine zV_aload_n (pc := 12) (i := 0) dX10_byteAt_12 rfl rfl ?_
    refine zV_get (pc := 13) (j := 19) dX10_byteAt_13 flX10_130 (zOb_of rfl) rfl hf ?_
    refine zV_iload_n (pc := 16) (i := 1) dX10_byteAt_16 rfl rfl ?_
    refine zV_iadd (pc := 17) dX10_byteAt_17 ?_
    refine zV_iald (pc := 18) dX10_byteAt_18 (zAr_of rfl : zAr 75 59 0 960) (by omega) (hb _ (by omega) (by omega)) ?_
    refine zV_goto (pc := 19) (tgt := 23) dX10_byteAt_19 (by decide) ?_
    refine zV_iret (pc := 23) dX10_byteAt_23 trivial ⟨Nat.zero_le _, Nat.zero_le _⟩ ?_
    first
      | exact zPe (zbp_z (by omega)).symm
      | exact zPe ((if_pos (by omega)).symm)
set_option maxRecDepth 20000 in
set_option maxHeartbeats 2000000 in
theorem kX10_fail {z : Int} {tp : Int → Int} {s : zσ} (hd : zMd tp M s) (ho : zσo z s) : zK g yX10_fail xX10_fail [zr 58] 75 M (zPn 75 (fun M1 => zMd tp M1 (zfl s) ∧ zFr zNH M M1)) := by
  refine zK_of (ls0 := [zr 58]) (by decide) rfl (by decide) rfl (Nat.le_of_ble_eq_true rfl) ?_
  refine zV_aload_n (pc := 0) (i := 0) dX10_fail_0 rfl rfl ?_
  refine zV_get (pc := 1) (j := 26) dX10_fail_1 flX10_160 (zOb_of rfl) rfl hd.1 ?_
  refine zV_if_ne (pc := 4) (tgt := 20) dX10_fail_4 (by decide) (by have := zb_r (s.ft ≠ -1); omega) (fun c_4 => ?_) (fun c_4 => ?_)
  · refine zV_vret (pc := 20) dX10_fail_20 trivial ⟨Nat.zero_le _, Nat.zero_le _⟩ ?_
    first
      | (have e : s.ft ≠ -1 := fun e => c_4 (zb_f (fun q => q e))
         have e9 : zfl s = (1, s.vl, s.sa, s.at, s.ft) := by unfold zfl; rw [if_neg e]
         rw [e9]
         exact ⟨rfl, rfl, ⟨hd.1, hd.2.1, fun q => absurd q e⟩, zFr.rf⟩)
      | (have e9 : zfl s = (1, s.vl, s.sa, s.at, s.sa) := by unfold zfl; rw [if_pos e]
         rw [e9]
         have hs := ho.1.1
         have e8 : zσ.ft (1, s.vl, s.sa, s.at, s.sa) ≠ -1 := by show s.sa ≠ -1; omega
         exact ⟨rfl, rfl, ⟨(zU_j _ _ _ _ (by decide)).trans ((zU_s _ _ _ _).trans (zb_t e8).symm), fun _ => (zU_s _ _ _ _).trans ((zU_j _ _ _ _ (by decide)).trans h3), fun q => absurd q e8⟩, ((zFr.rf.up (a := 58) (j := 26) ⟨rfl, by decide, by decide⟩).up (a := 58) (j := 27) ⟨rfl, by decide, by decide⟩)⟩)
  · have e : s.ft = -1 := by
      by_cases e : s.ft = -1
      · exact e
      · exact absurd c_4 (by rw [zb_t e]; decide)
    have h3 := (hd.2.2 e).1
    refine zV_aload_n (pc := 7) (i := 0) dX10_fail_7 rfl rfl ?_
    refine zV_iconst (pc := 8) dX10_fail_8 ?_
    refine zV_put (pc := 9) (j := 26) dX10_fail_9 flX10_160 rfl (zOb_of rfl) rfl (Or.inr rfl) ?_
    refine zV_aload_n (pc := 12) (i := 0) dX10_fail_12 rfl rfl ?_
    refine zV_aload_n (pc := 13) (i := 0) dX10_fail_13 rfl rfl ?_
    refine zV_get (pc := 14) (j := 23) dX10_fail_14 flX10_140 (zOb_of rfl) rfl rfl ?_
    refine zV_put (pc := 17) (j := 27) dX10_fail_17 flX10_164 rfl (zOb_of rfl) rfl trivial ?_
    refine zV_vret (pc := 20) dX10_fail_20 trivial ⟨Nat.zero_le _, Nat.zero_le _⟩ ?_
    first
      | (have e : s.ft ≠ -1 := fun e => c_4 (zb_f (fun q => q e))
         have e9 : zfl s = (1, s.vl, s.sa, s.at, s.ft) := by unfold zfl; rw [if_neg e]
         rw [e9]
         exact ⟨rfl, rfl, ⟨hd.1, hd.2.1, fun q => absurd q e⟩, zFr.rf⟩)
      | (have e9 : zfl s = (1, s.vl, s.sa, s.at, s.sa) := by unfold zfl; rw [if_pos e]
         rw [e9]
         have hs := ho.1.1
         have e8 : zσ.ft (1, s.vl, s.sa, s.at, s.sa) ≠ -1 := by show s.sa ≠ -1; omega
         exact ⟨rfl, rfl, ⟨(zU_j _ _ _ _ (by decide)).trans ((zU_s _ _ _ _).trans (zb_t e8).symm), fun _ => (zU_s _ _ _ _).trans ((zU_j _ _ _ _ (by decide)).trans h3), fun q => absurd q e8⟩, ((zFr.rf.up (a := 58) (j := 26) ⟨rfl, by decide, by decide⟩).up (a := 58) (j := 27) ⟨rfl, by decide, by decide⟩)⟩)
set_option maxRecDepth 20000 in
set_option maxHeartbeats 2000000 in
theorem kX10_isSign {z : Int} {tp : Int → Int} {s : zσ} (hd : zMd tp M s) (ho : zσo z s) {c : Int} (hc : 40 ≤ c ∧ c ≤ 61) : zK g yX10_isSign xX10_isSign [zr 58, zi c] 75 M (zPp (zi (zb (s.tk = c))) 75 M) := by
  refine zK_of (ls0 := [zr 58, zi c]) (by decide) rfl (by decide) rfl (Nat.le_of_ble_eq_true rfl) ?_
  refine zV_aload_n (pc := 0) (i := 0) dX10_isSign_0 rfl rfl ?_
  refine zV_get (pc := 1) (j := 26) dX10_isSign_1 flX10_160 (zOb_of rfl) rfl hd.1 ?_
  refine zV_if_ne (pc := 4) (tgt := 29) dX10_isSign_4 (by decide) (by have := zb_r (s.ft ≠ -1); omega) (fun c_4 => ?_) (fun c_4 => ?_)
  · refine zV_iconst (pc := 29) dX10_isSign_29 ?_
    refine zV_iret (pc := 30) dX10_isSign_30 (by first | exact zok_b1 | exact zok_b0 | exact zok_b) ⟨Nat.zero_le _, Nat.zero_le _⟩ ?_
    first
      | exact zPt (by omega)
      | exact zPf (by omega)
      | exact zPf (fun q => c_4 (zb_f (fun y => by have := ho.2.2.2.1 y; omega)))
  · have e : s.ft = -1 := by
      by_cases e : s.ft = -1
      · exact e
      · exact absurd c_4 (by rw [zb_t e]; decide)
    have hw := zwt_r (tp := tp) (s := s.sa) (e := s.at) 12 (Nat.le_refl _)
    have ht := (hd.2.2 e).2
    unfold zMt at ht
    have h22 : 0 ≤ M 58 22 ∧ M 58 22 ≤ 4 := by omega
    refine zV_aload_n (pc := 7) (i := 0) dX10_isSign_7 rfl rfl ?_
    refine zV_get (pc := 8) (j := 22) dX10_isSign_8 flX10_143 (zOb_of rfl) rfl rfl ?_
    refine zV_iconst (pc := 11) dX10_isSign_11 ?_
    refine zV_icmp_ne (pc := 12) (tgt := 29) dX10_isSign_12 (by decide) (by omega) (fun c_12 => ?_) (fun c_12 => ?_)
    · refine zV_iconst (pc := 29) dX10_isSign_29 ?_
      refine zV_iret (pc := 30) dX10_isSign_30 (by first | exact zok_b1 | exact zok_b0 | exact zok_b) ⟨Nat.zero_le _, Nat.zero_le _⟩ ?_
      first
        | exact zPt (by omega)
        | exact zPf (by omega)
        | exact zPf (fun q => c_4 (zb_f (fun y => by have := ho.2.2.2.1 y; omega)))
    · have h24 : M 58 24 = s.tk := by omega
      have htk := ho.2.2.2.2.1
      refine zV_aload_n (pc := 15) (i := 0) dX10_isSign_15 rfl rfl ?_
      refine zV_get (pc := 16) (j := 24) dX10_isSign_16 flX10_154 (zOb_of rfl) rfl rfl ?_
      refine zV_iload_n (pc := 19) (i := 1) dX10_isSign_19 rfl rfl ?_
      refine zV_i2l (pc := 20) dX10_isSign_20 (by omega) ?_
      refine zV_lcmp (pc := 21) dX10_isSign_21 (by omega) ?_
      refine zV_if_nec (pc := 22) (tgt := 29) dX10_isSign_22 (by decide) (fun c_22 => ?_) (fun c_22 => ?_)
      · refine zV_iconst (pc := 29) dX10_isSign_29 ?_
        refine zV_iret (pc := 30) dX10_isSign_30 (by first | exact zok_b1 | exact zok_b0 | exact zok_b) ⟨Nat.zero_le _, Nat.zero_le _⟩ ?_
        first
          | exact zPt (by omega)
          | exact zPf (by omega)
          | exact zPf (fun q => c_4 (zb_f (fun y => by have := ho.2.2.2.1 y; omega)))
      · refine zV_iconst (pc := 25) dX10_isSign_25 ?_
        refine zV_goto (pc := 26) (tgt := 30) dX10_isSign_26 (by decide) ?_
        refine zV_iret (pc := 30) dX10_isSign_30 (by first | exact zok_b1 | exact zok_b0 | exact zok_b) ⟨Nat.zero_le _, Nat.zero_le _⟩ ?_
        first
          | exact zPt (by omega)
          | exact zPf (by omega)
          | exact zPf (fun q => c_4 (zb_f (fun y => by have := ho.2.2.2.1 y; omega)))
set_option maxRecDepth 20000 in
set_option maxHeartbeats 2000000 in
theorem kX10_isLetter {f z : Int} {tp : Int → Int} (hC : zMC M f tp z) (hT : ztp tp z) {a b : Int} (h23 : M 58 23 = a) (h21 : M 58 21 = b) (hab : 0 ≤ a ∧ a ≤ b ∧ b ≤ z) {i l : Int} (hi : 0 ≤ i ∧ i ≤ 7) (hl : 0 ≤ l ∧ l ≤ 255) : zK g yX10_isLetter xX10_isLetter [zr 58, zi i, zi l] 75 M (zPp (zi (zb ((a + i < b ∧ tp (a + i) = l) ∨ (¬ a + i < b ∧ l = 0)))) 75 M) := by
  refine zK_of (ls0 := [zr 58, zi i, zi l]) (by decide) rfl (by decide) rfl (Nat.le_of_ble_eq_true rfl) ?_
  obtain ⟨hS, hf, hz, hb, hf8⟩ := id hC
  have hzz := hT.1
  refine zV_aload_n (pc := 0) (i := 0) dX10_isLetter_0 rfl rfl ?_
  refine zV_get (pc := 1) (j := 23) dX10_isLetter_1 flX10_140 (zOb_of rfl) rfl h23 ?_
  refine zV_iload_n (pc := 4) (i := 1) dX10_isLetter_4 rfl rfl ?_
  refine zV_iadd (pc := 5) dX10_isLetter_5 ?_
  refine zV_aload_n (pc := 6) (i := 0) dX10_isLetter_6 rfl rfl ?_
  refine zV_get (pc := 7) (j := 21) dX10_isLetter_7 flX10_133 (zOb_of rfl) rfl h21 ?_
  refine zV_icmp_ge (pc := 10) (tgt := 35) dX10_isLetter_10 (by decide) (by omega) (fun c_10 => ?_) (fun c_10 => ?_)
  · refine zV_iload_n (pc := 35) (i := 2) dX10_isLetter_35 rfl rfl ?_
    refine zV_if_ne (pc := 36) (tgt := 43) dX10_isLetter_36 (by decide) (by omega) (fun c_36 => ?_) (fun c_36 => ?_)
    · refine zV_iconst (pc := 43) dX10_isLetter_43 ?_
      refine zV_iret (pc := 44) dX10_isLetter_44 (by first | exact zok_b1 | exact zok_b0 | exact zok_b) ⟨Nat.zero_le _, Nat.zero_le _⟩ ?_
      first
        | exact zPt (Or.inl ⟨by omega, by omega⟩)
        | exact zPt (Or.inr ⟨by omega, by omega⟩)
        | exact zPf (fun q => by rcases q with q | q <;> omega)
    · refine zV_iconst (pc := 39) dX10_isLetter_39 ?_
      refine zV_goto (pc := 40) (tgt := 44) dX10_isLetter_40 (by decide) ?_
      refine zV_iret (pc := 44) dX10_isLetter_44 (by first | exact zok_b1 | exact zok_b0 | exact zok_b) ⟨Nat.zero_le _, Nat.zero_le _⟩ ?_
      first
        | exact zPt (Or.inl ⟨by omega, by omega⟩)
        | exact zPt (Or.inr ⟨by omega, by omega⟩)
        | exact zPf (fun q => by rcases q with q | q <;> omega)
  · refine zV_aload_n (pc := 13) (i := 0) dX10_isLetter_13 rfl rfl ?_
    refine zV_aload_n (pc := 14) (i := 0) dX10_isLetter_14 rfl rfl ?_
    refine zV_get (pc := 15) (j := 23) dX10_isLetter_15 flX10_140 (zOb_of rfl) rfl h23 ?_
    refine zV_iload_n (pc := 18) (i := 1) dX10_isLetter_18 rfl rfl ?_
    refine zV_iadd (pc := 19) dX10_isLetter_19 ?_
    refine zV_ivp (pc := 20) (ci := 10) dX10_isLetter_20 klX10_136 mX10_byteAt ⟨by decide, rfl⟩ rfl ⟨Nat.zero_le _, Nat.zero_le _⟩ (kX10_byteAt hC hT (by omega)) (zOb_of rfl) rfl rfl (Nat.le_of_ble_eq_true rfl) ?_
    have eb : zbp tp z (a + i) = tp (a + i) := if_pos (by omega)
    have hbr := hT.2 (a + i) (by omega) (by omega)
    rw [eb]
    refine zV_iload_n (pc := 23) (i := 2) dX10_isLetter_23 rfl rfl ?_
    refine zV_icmp_ne (pc := 24) (tgt := 31) dX10_isLetter_24 (by decide) (by omega) (fun c_24 => ?_) (fun c_24 => ?_)
    · refine zV_iconst (pc := 31) dX10_isLetter_31 ?_
      refine zV_goto (pc := 32) (tgt := 44) dX10_isLetter_32 (by decide) ?_
      refine zV_iret (pc := 44) dX10_isLetter_44 (by first | exact zok_b1 | exact zok_b0 | exact zok_b) ⟨Nat.zero_le _, Nat.zero_le _⟩ ?_
      first
        | exact zPt (Or.inl ⟨by omega, by omega⟩)
        | exact zPt (Or.inr ⟨by omega, by omega⟩)
        | exact zPf (fun q => by rcases q with q | q <;> omega)
    · refine zV_iconst (pc := 27) dX10_isLetter_27 ?_
      refine zV_goto (pc := 28) (tgt := 44) dX10_isLetter_28 (by decide) ?_
      refine zV_iret (pc := 44) dX10_isLetter_44 (by first | exact zok_b1 | exact zok_b0 | exact zok_b) ⟨Nat.zero_le _, Nat.zero_le _⟩ ?_
      first
        | exact zPt (Or.inl ⟨by omega, by omega⟩)
        | exact zPt (Or.inr ⟨by omega, by omega⟩)
        | exact zPf (fun q => by rcases q with q | q <;> omega)
theorem zwl0 : ∀ v, v < 12 → 1 ≤ lenJS.getD (v + 1) 0 ∧ lenJS.getD (v + 1) 0 ≤ 6 := by decide +kernel
theorem zwl1 : ∀ v, v < 12 → ∀ j, j < lenJS.getD (v + 1) 0 → 97 ≤ zby (v + 1) j ∧ zby (v + 1) j ≤ 122 := by decide +kernel
/-- the letters of word v, and 0 behind it -/
def zlw (v : Nat) (i : Nat) : Int := if i < lenJS.getD (v + 1) 0 then zby (v + 1) i else 0
theorem zlw_r {v i : Nat} (hv : v < 12) : 0 ≤ zlw v i ∧ zlw v i ≤ 255 := by
  unfold zlw
  split
  · rename_i h
    have := zwl1 v hv i h
    omega
  · decide
def zLt (tp : Int → Int) (a b : Int) (v : Nat) (i : Nat) : Prop := (a + i < b ∧ tp (a + i) = zlw v i) ∨ (¬ a + i < b ∧ zlw v i = 0)
theorem zLt_w {tp : Int → Int} {a b : Int} {v : Nat} (hv : v < 12) (hab : a < b) (hl : ∀ j : Int, a ≤ j → j < b → zlt (tp j)) : (b ≤ a + 8 ∧ ∀ i : Nat, i < 8 → zLt tp a b v i) ↔ zwm tp a b v := by
  have l0 := zwl0 v hv
  unfold zwm zLt
  constructor
  · rintro ⟨h8, h⟩
    have k1 : ∀ i : Nat, i < lenJS.getD (v + 1) 0 → a + i < b ∧ tp (a + i) = zby (v + 1) i := by
      intro i hi
      have := zwl1 v hv i hi
      have e : zlw v i = zby (v + 1) i := if_pos hi
      rcases h i (by omega) with q | q
      · rw [e] at q
        exact q
      · omega
    have k2 : ¬ a + (lenJS.getD (v + 1) 0 : Nat) < b := by
      intro q
      have e : zlw v (lenJS.getD (v + 1) 0) = 0 := if_neg (Nat.lt_irrefl _)
      rcases h (lenJS.getD (v + 1) 0) (by omega) with y | y
      · have := hl (a + (lenJS.getD (v + 1) 0 : Nat)) (by omega) q
        unfold zlt at this
        omega
      · exact y.1 q
    have k3 := (k1 (lenJS.getD (v + 1) 0 - 1) (by omega)).1
    refine ⟨?_, fun j hj => (k1 j hj).2.symm⟩
    show b - a = (lenJS.getD (v + 1) 0 : Nat)
    omega
  · rintro ⟨h1, h2⟩
    have h1 : b - a = (lenJS.getD (v + 1) 0 : Nat) := h1
    refine ⟨by omega, fun i hi => ?_⟩
    by_cases c : i < lenJS.getD (v + 1) 0
    · have e : zlw v i = zby (v + 1) i := if_pos c
      exact Or.inl ⟨by omega, by rw [e]; exact (h2 i c).symm⟩
    · have e : zlw v i = 0 := if_neg c
      exact Or.inr ⟨by omega, e⟩
set_option maxRecDepth 20000 in
set_option maxHeartbeats 2000000 in
theorem kX10_isWord {f z : Int} {tp : Int → Int} (hC : zMC M f tp z) (hT : ztp tp z) {s : zσ} (hd : zMd tp M s) (ho : zσo z s) {v : Nat} (hv : v < 12) : zK g yX10_isWord xX10_isWord [zr 58, zi (zlw v 0), zi (zlw v 1), zi (zlw v 2), zi (zlw v 3), zi (zlw v 4), zi (zlw v 5), zi (zlw v 6), zi (zlw v 7)] 75 M (zPp (zi (zb (zws_ s v))) 75 M) := by
  refine zK_of (ls0 := [zr 58, zi (zlw v 0), zi (zlw v 1), zi (zlw v 2), zi (zlw v 3), zi (zlw v 4), zi (zlw v 5), zi (zlw v 6), zi (zlw v 7)]) (by decide) rfl (by decide) rfl (Nat.le_of_ble_eq_true rfl) ?_
  obtain ⟨hS, hf, hz, hb, hf8⟩ := id hC
  have hzz := hT.1
  refine zV_aload_n (pc := 0) (i := 0) dX10_isWord_0 rfl rfl ?_
  refine zV_get (pc := 1) (j := 26) dX10_isWord_1 flX10_160 (zOb_of rfl) rfl hd.1 ?_
  refine zV_if_ne (pc := 4) (tgt := 112) dX10_isWord_4 (by decide) (by have := zb_r (s.ft ≠ -1); omega) (fun c_4 => ?_) (fun c_4 => ?_)
  · refine zV_iconst (pc := 112) dX10_isWord_112 ?_
    refine zV_iret (pc := 113) dX10_isWord_113 (by first | exact zok_b1 | exact zok_b0 | exact zok_b) ⟨Nat.zero_le _, Nat.zero_le _⟩ ?_
    first
      | (refine zPt (hW.mp ⟨by omega, fun i hi => ?_⟩)
         rcases (show i = 0 ∨ i = 1 ∨ i = 2 ∨ i = 3 ∨ i = 4 ∨ i = 5 ∨ i = 6 ∨ i = 7 by omega) with rfl | rfl | rfl | rfl | rfl | rfl | rfl | rfl
         · exact c_35
         · exact c_44
         · exact c_53
         · exact c_63
         · exact c_73
         · exact c_83
         · exact c_94
         · exact c_105)
      | exact zPf (fun q => c_4 (zb_f (fun y => by have := ho.2.2.2.1 y; have := q.1; unfold zcd at this; split at this <;> omega)))
      | exact zPf (fun q => by have := q.1; omega)
      | exact zPf (fun q => absurd (hW.mpr q).1 (by omega))
      | exact zPf (fun q => c_35 ((hW.mpr q).2 0 (by decide)))
      | exact zPf (fun q => c_44 ((hW.mpr q).2 1 (by decide)))
      | exact zPf (fun q => c_53 ((hW.mpr q).2 2 (by decide)))
      | exact zPf (fun q => c_63 ((hW.mpr q).2 3 (by decide)))
      | exact zPf (fun q => c_73 ((hW.mpr q).2 4 (by decide)))
      | exact zPf (fun q => c_83 ((hW.mpr q).2 5 (by decide)))
      | exact zPf (fun q => c_94 ((hW.mpr q).2 6 (by decide)))
      | exact zPf (fun q => c_105 ((hW.mpr q).2 7 (by decide)))
  · have e : s.ft = -1 := by
      by_cases e : s.ft = -1
      · exact e
      · exact absurd c_4 (by rw [zb_t e]; decide)
    have hw := zwt_r (tp := tp) (s := s.sa) (e := s.at) 12 (Nat.le_refl _)
    have ht := (hd.2.2 e).2
    have h23 := (hd.2.2 e).1
    unfold zMt at ht
    have h22 : 0 ≤ M 58 22 ∧ M 58 22 ≤ 4 := by omega
    have hcd : 3 ≤ zcd v ∧ zcd v ≤ 11 := by unfold zcd; split <;> omega
    refine zV_aload_n (pc := 7) (i := 0) dX10_isWord_7 rfl rfl ?_
    refine zV_get (pc := 8) (j := 22) dX10_isWord_8 flX10_143 (zOb_of rfl) rfl rfl ?_
    refine zV_iconst (pc := 11) dX10_isWord_11 ?_
    refine zV_icmp_ne (pc := 12) (tgt := 112) dX10_isWord_12 (by decide) (by omega) (fun c_12 => ?_) (fun c_12 => ?_)
    · refine zV_iconst (pc := 112) dX10_isWord_112 ?_
      refine zV_iret (pc := 113) dX10_isWord_113 (by first | exact zok_b1 | exact zok_b0 | exact zok_b) ⟨Nat.zero_le _, Nat.zero_le _⟩ ?_
      first
        | (refine zPt (hW.mp ⟨by omega, fun i hi => ?_⟩)
           rcases (show i = 0 ∨ i = 1 ∨ i = 2 ∨ i = 3 ∨ i = 4 ∨ i = 5 ∨ i = 6 ∨ i = 7 by omega) with rfl | rfl | rfl | rfl | rfl | rfl | rfl | rfl
           · exact c_35
           · exact c_44
           · exact c_53
           · exact c_63
           · exact c_73
           · exact c_83
           · exact c_94
           · exact c_105)
        | exact zPf (fun q => c_4 (zb_f (fun y => by have := ho.2.2.2.1 y; have := q.1; unfold zcd at this; split at this <;> omega)))
        | exact zPf (fun q => by have := q.1; omega)
        | exact zPf (fun q => absurd (hW.mpr q).1 (by omega))
        | exact zPf (fun q => c_35 ((hW.mpr q).2 0 (by decide)))
        | exact zPf (fun q => c_44 ((hW.mpr q).2 1 (by decide)))
        | exact zPf (fun q => c_53 ((hW.mpr q).2 2 (by decide)))
        | exact zPf (fun q => c_63 ((hW.mpr q).2 3 (by decide)))
        | exact zPf (fun q => c_73 ((hW.mpr q).2 4 (by decide)))
        | exact zPf (fun q => c_83 ((hW.mpr q).2 5 (by decide)))
        | exact zPf (fun q => c_94 ((hW.mpr q).2 6 (by decide)))
        | exact zPf (fun q => c_105 ((hW.mpr q).2 7 (by decide)))
    · have hw1 : M 58 22 = 1 ∧ M 58 21 = s.at ∧ s.sa < s.at ∧ (∀ j : Int, s.sa ≤ j → j < s.at → zlt (tp j)) ∧ s.tk = zwt tp s.sa s.at 12 ∧ s.vl = zwv tp s.sa s.at 12 := by
        rcases ht with q | q | q | q | q
        · omega
        · omega
        · omega
        · exact q
        · omega
      obtain ⟨g1, h21, g3, g4, g5, g6⟩ := hw1
      have ho1 := ho.1
      have hW := (zLt_w hv g3 g4).trans (zws_e hv g5 g6)
      refine zV_aload_n (pc := 15) (i := 0) dX10_isWord_15 rfl rfl ?_
      refine zV_get (pc := 16) (j := 21) dX10_isWord_16 flX10_133 (zOb_of rfl) rfl h21 ?_
      refine zV_aload_n (pc := 19) (i := 0) dX10_isWord_19 rfl rfl ?_
      refine zV_get (pc := 20) (j := 23) dX10_isWord_20 flX10_140 (zOb_of rfl) rfl h23 ?_
      refine zV_bipush (pc := 23) dX10_isWord_23 (by decide) ?_
      refine zV_iadd (pc := 25) dX10_isWord_25 ?_
      refine zV_icmp_gt (pc := 26) (tgt := 112) dX10_isWord_26 (by decide) (by omega) (fun c_26 => ?_) (fun c_26 => ?_)
      · refine zV_iconst (pc := 112) dX10_isWord_112 ?_
        refine zV_iret (pc := 113) dX10_isWord_113 (by first | exact zok_b1 | exact zok_b0 | exact zok_b) ⟨Nat.zero_le _, Nat.zero_le _⟩ ?_
        first
          | (refine zPt (hW.mp ⟨by omega, fun i hi => ?_⟩)
             rcases (show i = 0 ∨ i = 1 ∨ i = 2 ∨ i = 3 ∨ i = 4 ∨ i = 5 ∨ i = 6 ∨ i = 7 by omega) with rfl | rfl | rfl | rfl | rfl | rfl | rfl | rfl
             · exact c_35
             · exact c_44
             · exact c_53
             · exact c_63
             · exact c_73
             · exact c_83
             · exact c_94
             · exact c_105)
          | exact zPf (fun q => c_4 (zb_f (fun y => by have := ho.2.2.2.1 y; have := q.1; unfold zcd at this; split at this <;> omega)))
          | exact zPf (fun q => by have := q.1; omega)
          | exact zPf (fun q => absurd (hW.mpr q).1 (by omega))
          | exact zPf (fun q => c_35 ((hW.mpr q).2 0 (by decide)))
          | exact zPf (fun q => c_44 ((hW.mpr q).2 1 (by decide)))
          | exact zPf (fun q => c_53 ((hW.mpr q).2 2 (by decide)))
          | exact zPf (fun q => c_63 ((hW.mpr q).2 3 (by decide)))
          | exact zPf (fun q => c_73 ((hW.mpr q).2 4 (by decide)))
          | exact zPf (fun q => c_83 ((hW.mpr q).2 5 (by decide)))
          | exact zPf (fun q => c_94 ((hW.mpr q).2 6 (by decide)))
          | exact zPf (fun q => c_105 ((hW.mpr q).2 7 (by decide)))
      · refine zV_aload_n (pc := 29) (i := 0) dX10_isWord_29 rfl rfl ?_
        refine zV_iconst (pc := 30) dX10_isWord_30 ?_
        refine zV_iload_n (pc := 31) (i := 1) dX10_isWord_31 rfl rfl ?_
        refine zV_ivp (pc := 32) (ci := 10) dX10_isWord_32 klX10_167 mX10_isLetter ⟨by decide, rfl⟩ rfl ⟨Nat.zero_le _, Nat.zero_le _⟩ (kX10_isLetter hC hT h23 h21 (by omega) (by decide) (zlw_r hv)) (zOb_of rfl) rfl rfl (Nat.le_of_ble_eq_true rfl) ?_
        refine zV_if_eqb (pc := 35) (tgt := 112) dX10_isWord_35 (by decide) (fun c_35 => ?_) (fun c_35 => ?_)
        · refine zV_iconst (pc := 112) dX10_isWord_112 ?_
          refine zV_iret (pc := 113) dX10_isWord_113 (by first | exact zok_b1 | exact zok_b0 | exact zok_b) ⟨Nat.zero_le _, Nat.zero_le _⟩ ?_
          first
            | (refine zPt (hW.mp ⟨by omega, fun i hi => ?_⟩)
               rcases (show i = 0 ∨ i = 1 ∨ i = 2 ∨ i = 3 ∨ i = 4 ∨ i = 5 ∨ i = 6 ∨ i = 7 by omega) with rfl | rfl | rfl | rfl | rfl | rfl | rfl | rfl
               · exact c_35
               · exact c_44
               · exact c_53
               · exact c_63
               · exact c_73
               · exact c_83
               · exact c_94
               · exact c_105)
            | exact zPf (fun q => c_4 (zb_f (fun y => by have := ho.2.2.2.1 y; have := q.1; unfold zcd at this; split at this <;> omega)))
            | exact zPf (fun q => by have := q.1; omega)
            | exact zPf (fun q => absurd (hW.mpr q).1 (by omega))
            | exact zPf (fun q => c_35 ((hW.mpr q).2 0 (by decide)))
            | exact zPf (fun q => c_44 ((hW.mpr q).2 1 (by decide)))
            | exact zPf (fun q => c_53 ((hW.mpr q).2 2 (by decide)))
            | exact zPf (fun q => c_63 ((hW.mpr q).2 3 (by decide)))
            | exact zPf (fun q => c_73 ((hW.mpr q).2 4 (by decide)))
            | exact zPf (fun q => c_83 ((hW.mpr q).2 5 (by decide)))
            | exact zPf (fun q => c_94 ((hW.mpr q).2 6 (by decide)))
            | exact zPf (fun q => c_105 ((hW.mpr q).2 7 (by decide)))
        · refine zV_aload_n (pc := 38) (i := 0) dX10_isWord_38 rfl rfl ?_
          refine zV_iconst (pc := 39) dX10_isWord_39 ?_
          refine zV_iload_n (pc := 40) (i := 2) dX10_isWord_40 rfl rfl ?_
          refine zV_ivp (pc := 41) (ci := 10) dX10_isWord_41 klX10_167 mX10_isLetter ⟨by decide, rfl⟩ rfl ⟨Nat.zero_le _, Nat.zero_le _⟩ (kX10_isLetter hC hT h23 h21 (by omega) (by decide) (zlw_r hv)) (zOb_of rfl) rfl rfl (Nat.le_of_ble_eq_true rfl) ?_
          refine zV_if_eqb (pc := 44) (tgt := 112) dX10_isWord_44 (by decide) (fun c_44 => ?_) (fun c_44 => ?_)
          · refine zV_iconst (pc := 112) dX10_isWord_112 ?_
            refine zV_iret (pc := 113) dX10_isWord_113 (by first | exact zok_b1 | exact zok_b0 | exact zok_b) ⟨Nat.zero_le _, Nat.zero_le _⟩ ?_
            first
              | (refine zPt (hW.mp ⟨by omega, fun i hi => ?_⟩)
                 rcases (show i = 0 ∨ i = 1 ∨ i = 2 ∨ i = 3 ∨ i = 4 ∨ i = 5 ∨ i = 6 ∨ i = 7 by omega) with rfl | rfl | rfl | rfl | rfl | rfl | rfl | rfl
                 · exact c_35
                 · exact c_44
                 · exact c_53
                 · exact c_63
                 · exact c_73
                 · exact c_83
                 · exact c_94
                 · exact c_105)
              | exact zPf (fun q => c_4 (zb_f (fun y => by have := ho.2.2.2.1 y; have := q.1; unfold zcd at this; split at this <;> omega)))
              | exact zPf (fun q => by have := q.1; omega)
              | exact zPf (fun q => absurd (hW.mpr q).1 (by omega))
              | exact zPf (fun q => c_35 ((hW.mpr q).2 0 (by decide)))
              | exact zPf (fun q => c_44 ((hW.mpr q).2 1 (by decide)))
              | exact zPf (fun q => c_53 ((hW.mpr q).2 2 (by decide)))
              | exact zPf (fun q => c_63 ((hW.mpr q).2 3 (by decide)))
              | exact zPf (fun q => c_73 ((hW.mpr q).2 4 (by decide)))
              | exact zPf (fun q => c_83 ((hW.mpr q).2 5 (by decide)))
              | exact zPf (fun q => c_94 ((hW.mpr q).2 6 (by decide)))
              | exact zPf (fun q => c_105 ((hW.mpr q).2 7 (by decide)))
          · refine zV_aload_n (pc := 47) (i := 0) dX10_isWord_47 rfl rfl ?_
            refine zV_iconst (pc := 48) dX10_isWord_48 ?_
            refine zV_iload_n (pc := 49) (i := 3) dX10_isWord_49 rfl rfl ?_
            refine zV_ivp (pc := 50) (ci := 10) dX10_isWord_50 klX10_167 mX10_isLetter ⟨by decide, rfl⟩ rfl ⟨Nat.zero_le _, Nat.zero_le _⟩ (kX10_isLetter hC hT h23 h21 (by omega) (by decide) (zlw_r hv)) (zOb_of rfl) rfl rfl (Nat.le_of_ble_eq_true rfl) ?_
            refine zV_if_eqb (pc := 53) (tgt := 112) dX10_isWord_53 (by decide) (fun c_53 => ?_) (fun c_53 => ?_)
            · refine zV_iconst (pc := 112) dX10_isWord_112 ?_
              refine zV_iret (pc := 113) dX10_isWord_113 (by first | exact zok_b1 | exact zok_b0 | exact zok_b) ⟨Nat.zero_le _, Nat.zero_le _⟩ ?_
              first
                | (refine zPt (hW.mp ⟨by omega, fun i hi => ?_⟩)
                   rcases (show i = 0 ∨ i = 1 ∨ i = 2 ∨ i = 3 ∨ i = 4 ∨ i = 5 ∨ i = 6 ∨ i = 7 by omega) with rfl | rfl | rfl | rfl | rfl | rfl | rfl | rfl
                   · exact c_35
                   · exact c_44
                   · exact c_53
                   · exact c_63
                   · exact c_73
                   · exact c_83
                   · exact c_94
                   · exact c_105)
                | exact zPf (fun q => c_4 (zb_f (fun y => by have := ho.2.2.2.1 y; have := q.1; unfold zcd at this; split at this <;> omega)))
                | exact zPf (fun q => by have := q.1; omega)
                | exact zPf (fun q => absurd (hW.mpr q).1 (by omega))
                | exact zPf (fun q => c_35 ((hW.mpr q).2 0 (by decide)))
                | exact zPf (fun q => c_44 ((hW.mpr q).2 1 (by decide)))
                | exact zPf (fun q => c_53 ((hW.mpr q).2 2 (by decide)))
                | exact zPf (fun q => c_63 ((hW.mpr q).2 3 (by decide)))
                | exact zPf (fun q => c_73 ((hW.mpr q).2 4 (by decide)))
                | exact zPf (fun q => c_83 ((hW.mpr q).2 5 (by decide)))
                | exact zPf (fun q => c_94 ((hW.mpr q).2 6 (by decide)))
                | exact zPf (fun q => c_105 ((hW.mpr q).2 7 (by decide)))
            · refine zV_aload_n (pc := 56) (i := 0) dX10_isWord_56 rfl rfl ?_
              refine zV_iconst (pc := 57) dX10_isWord_57 ?_
              refine zV_iload (pc := 58) dX10_isWord_58 rfl ?_
              refine zV_ivp (pc := 60) (ci := 10) dX10_isWord_60 klX10_167 mX10_isLetter ⟨by decide, rfl⟩ rfl ⟨Nat.zero_le _, Nat.zero_le _⟩ (kX10_isLetter hC hT h23 h21 (by omega) (by decide) (zlw_r hv)) (zOb_of rfl) rfl rfl (Nat.le_of_ble_eq_true rfl) ?_
              refine zV_if_eqb (pc := 63) (tgt := 112) dX10_isWord_63 (by decide) (fun c_63 => ?_) (fun c_63 => ?_)
              · refine zV_iconst (pc := 112) dX10_isWord_112 ?_
                refine zV_iret (pc := 113) dX10_isWord_113 (by first | exact zok_b1 | exact zok_b0 | exact zok_b) ⟨Nat.zero_le _, Nat.zero_le _⟩ ?_
                first
                  | (refine zPt (hW.mp ⟨by omega, fun i hi => ?_⟩)
                     rcases (show i = 0 ∨ i = 1 ∨ i = 2 ∨ i = 3 ∨ i = 4 ∨ i = 5 ∨ i = 6 ∨ i = 7 by omega) with rfl | rfl | rfl | rfl | rfl | rfl | rfl | rfl
                     · exact c_35
                     · exact c_44
                     · exact c_53
                     · exact c_63
                     · exact c_73
                     · exact c_83
                     · exact c_94
                     · exact c_105)
                  | exact zPf (fun q => c_4 (zb_f (fun y => by have := ho.2.2.2.1 y; have := q.1; unfold zcd at this; split at this <;> omega)))
                  | exact zPf (fun q => by have := q.1; omega)
                  | exact zPf (fun q => absurd (hW.mpr q).1 (by omega))
                  | exact zPf (fun q => c_35 ((hW.mpr q).2 0 (by decide)))
                  | exact zPf (fun q => c_44 ((hW.mpr q).2 1 (by decide)))
                  | exact zPf (fun q => c_53 ((hW.mpr q).2 2 (by decide)))
                  | exact zPf (fun q => c_63 ((hW.mpr q).2 3 (by decide)))
                  | exact zPf (fun q => c_73 ((hW.mpr q).2 4 (by decide)))
                  | exact zPf (fun q => c_83 ((hW.mpr q).2 5 (by decide)))
                  | exact zPf (fun q => c_94 ((hW.mpr q).2 6 (by decide)))
                  | exact zPf (fun q => c_105 ((hW.mpr q).2 7 (by decide)))
              · refine zV_aload_n (pc := 66) (i := 0) dX10_isWord_66 rfl rfl ?_
                refine zV_iconst (pc := 67) dX10_isWord_67 ?_
                refine zV_iload (pc := 68) dX10_isWord_68 rfl ?_
                refine zV_ivp (pc := 70) (ci := 10) dX10_isWord_70 klX10_167 mX10_isLetter ⟨by decide, rfl⟩ rfl ⟨Nat.zero_le _, Nat.zero_le _⟩ (kX10_isLetter hC hT h23 h21 (by omega) (by decide) (zlw_r hv)) (zOb_of rfl) rfl rfl (Nat.le_of_ble_eq_true rfl) ?_
                refine zV_if_eqb (pc := 73) (tgt := 112) dX10_isWord_73 (by decide) (fun c_73 => ?_) (fun c_73 => ?_)
                · refine zV_iconst (pc := 112) dX10_isWord_112 ?_
                  refine zV_iret (pc := 113) dX10_isWord_113 (by first | exact zok_b1 | exact zok_b0 | exact zok_b) ⟨Nat.zero_le _, Nat.zero_le _⟩ ?_
                  first
                    | (refine zPt (hW.mp ⟨by omega, fun i hi => ?_⟩)
                       rcases (show i = 0 ∨ i = 1 ∨ i = 2 ∨ i = 3 ∨ i = 4 ∨ i = 5 ∨ i = 6 ∨ i = 7 by omega) with rfl | rfl | rfl | rfl | rfl | rfl | rfl | rfl
                       · exact c_35
                       · exact c_44
                       · exact c_53
                       · exact c_63
                       · exact c_73
                       · exact c_83
                       · exact c_94
                       · exact c_105)
                    | exact zPf (fun q => c_4 (zb_f (fun y => by have := ho.2.2.2.1 y; have := q.1; unfold zcd at this; split at this <;> omega)))
                    | exact zPf (fun q => by have := q.1; omega)
                    | exact zPf (fun q => absurd (hW.mpr q).1 (by omega))
                    | exact zPf (fun q => c_35 ((hW.mpr q).2 0 (by decide)))
                    | exact zPf (fun q => c_44 ((hW.mpr q).2 1 (by decide)))
                    | exact zPf (fun q => c_53 ((hW.mpr q).2 2 (by decide)))
                    | exact zPf (fun q => c_63 ((hW.mpr q).2 3 (by decide)))
                    | exact zPf (fun q => c_73 ((hW.mpr q).2 4 (by decide)))
                    | exact zPf (fun q => c_83 ((hW.mpr q).2 5 (by decide)))
                    | exact zPf (fun q => c_94 ((hW.mpr q).2 6 (by decide)))
                    | exact zPf (fun q => c_105 ((hW.mpr q).2 7 (by decide)))
                · refine zV_aload_n (pc := 76) (i := 0) dX10_isWord_76 rfl rfl ?_
                  refine zV_iconst (pc := 77) dX10_isWord_77 ?_
                  refine zV_iload (pc := 78) dX10_isWord_78 rfl ?_
                  refine zV_ivp (pc := 80) (ci := 10) dX10_isWord_80 klX10_167 mX10_isLetter ⟨by decide, rfl⟩ rfl ⟨Nat.zero_le _, Nat.zero_le _⟩ (kX10_isLetter hC hT h23 h21 (by omega) (by decide) (zlw_r hv)) (zOb_of rfl) rfl rfl (Nat.le_of_ble_eq_true rfl) ?_
                  refine zV_if_eqb (pc := 83) (tgt := 112) dX10_isWord_83 (by decide) (fun c_83 => ?_) (fun c_83 => ?_)
                  · refine zV_iconst (pc := 112) dX10_isWord_112 ?_
                    refine zV_iret (pc := 113) dX10_isWord_113 (by first | exact zok_b1 | exact zok_b0 | exact zok_b) ⟨Nat.zero_le _, Nat.zero_le _⟩ ?_
                    first
                      | (refine zPt (hW.mp ⟨by omega, fun i hi => ?_⟩)
                         rcases (show i = 0 ∨ i = 1 ∨ i = 2 ∨ i = 3 ∨ i = 4 ∨ i = 5 ∨ i = 6 ∨ i = 7 by omega) with rfl | rfl | rfl | rfl | rfl | rfl | rfl | rfl
                         · exact c_35
                         · exact c_44
                         · exact c_53
                         · exact c_63
                         · exact c_73
                         · exact c_83
                         · exact c_94
                         · exact c_105)
                      | exact zPf (fun q => c_4 (zb_f (fun y => by have := ho.2.2.2.1 y; have := q.1; unfold zcd at this; split at this <;> omega)))
                      | exact zPf (fun q => by have := q.1; omega)
                      | exact zPf (fun q => absurd (hW.mpr q).1 (by omega))
                      | exact zPf (fun q => c_35 ((hW.mpr q).2 0 (by decide)))
                      | exact zPf (fun q => c_44 ((hW.mpr q).2 1 (by decide)))
                      | exact zPf (fun q => c_53 ((hW.mpr q).2 2 (by decide)))
                      | exact zPf (fun q => c_63 ((hW.mpr q).2 3 (by decide)))
                      | exact zPf (fun q => c_73 ((hW.mpr q).2 4 (by decide)))
                      | exact zPf (fun q => c_83 ((hW.mpr q).2 5 (by decide)))
                      | exact zPf (fun q => c_94 ((hW.mpr q).2 6 (by decide)))
                      | exact zPf (fun q => c_105 ((hW.mpr q).2 7 (by decide)))
                  · refine zV_aload_n (pc := 86) (i := 0) dX10_isWord_86 rfl rfl ?_
                    refine zV_bipush (pc := 87) dX10_isWord_87 (by decide) ?_
                    refine zV_iload (pc := 89) dX10_isWord_89 rfl ?_
                    refine zV_ivp (pc := 91) (ci := 10) dX10_isWord_91 klX10_167 mX10_isLetter ⟨by decide, rfl⟩ rfl ⟨Nat.zero_le _, Nat.zero_le _⟩ (kX10_isLetter hC hT h23 h21 (by omega) (by decide) (zlw_r hv)) (zOb_of rfl) rfl rfl (Nat.le_of_ble_eq_true rfl) ?_
                    refine zV_if_eqb (pc := 94) (tgt := 112) dX10_isWord_94 (by decide) (fun c_94 => ?_) (fun c_94 => ?_)
                    · refine zV_iconst (pc := 112) dX10_isWord_112 ?_
                      refine zV_iret (pc := 113) dX10_isWord_113 (by first | exact zok_b1 | exact zok_b0 | exact zok_b) ⟨Nat.zero_le _, Nat.zero_le _⟩ ?_
                      first
                        | (refine zPt (hW.mp ⟨by omega, fun i hi => ?_⟩)
                           rcases (show i = 0 ∨ i = 1 ∨ i = 2 ∨ i = 3 ∨ i = 4 ∨ i = 5 ∨ i = 6 ∨ i = 7 by omega) with rfl | rfl | rfl | rfl | rfl | rfl | rfl | rfl
                           · exact c_35
                           · exact c_44
                           · exact c_53
                           · exact c_63
                           · exact c_73
                           · exact c_83
                           · exact c_94
                           · exact c_105)
                        | exact zPf (fun q => c_4 (zb_f (fun y => by have := ho.2.2.2.1 y; have := q.1; unfold zcd at this; split at this <;> omega)))
                        | exact zPf (fun q => by have := q.1; omega)
                        | exact zPf (fun q => absurd (hW.mpr q).1 (by omega))
                        | exact zPf (fun q => c_35 ((hW.mpr q).2 0 (by decide)))
                        | exact zPf (fun q => c_44 ((hW.mpr q).2 1 (by decide)))
                        | exact zPf (fun q => c_53 ((hW.mpr q).2 2 (by decide)))
                        | exact zPf (fun q => c_63 ((hW.mpr q).2 3 (by decide)))
                        | exact zPf (fun q => c_73 ((hW.mpr q).2 4 (by decide)))
                        | exact zPf (fun q => c_83 ((hW.mpr q).2 5 (by decide)))
                        | exact zPf (fun q => c_94 ((hW.mpr q).2 6 (by decide)))
                        | exact zPf (fun q => c_105 ((hW.mpr q).2 7 (by decide)))
                    · refine zV_aload_n (pc := 97) (i := 0) dX10_isWord_97 rfl rfl ?_
                      refine zV_bipush (pc := 98) dX10_isWord_98 (by decide) ?_
                      refine zV_iload (pc := 100) dX10_isWord_100 rfl ?_
                      refine zV_ivp (pc := 102) (ci := 10) dX10_isWord_102 klX10_167 mX10_isLetter ⟨by decide, rfl⟩ rfl ⟨Nat.zero_le _, Nat.zero_le _⟩ (kX10_isLetter hC hT h23 h21 (by omega) (by decide) (zlw_r hv)) (zOb_of rfl) rfl rfl (Nat.le_of_ble_eq_true rfl) ?_
                      refine zV_if_eqb (pc := 105) (tgt := 112) dX10_isWord_105 (by decide) (fun c_105 => ?_) (fun c_105 => ?_)
                      · refine zV_iconst (pc := 112) dX10_isWord_112 ?_
                        refine zV_iret (pc := 113) dX10_isWord_113 (by first | exact zok_b1 | exact zok_b0 | exact zok_b) ⟨Nat.zero_le _, Nat.zero_le _⟩ ?_
                        first
                          | (refine zPt (hW.mp ⟨by omega, fun i hi => ?_⟩)
                             rcases (show i = 0 ∨ i = 1 ∨ i = 2 ∨ i = 3 ∨ i = 4 ∨ i = 5 ∨ i = 6 ∨ i = 7 by omega) with rfl | rfl | rfl | rfl | rfl | rfl | rfl | rfl
                             · exact c_35
                             · exact c_44
                             · exact c_53
                             · exact c_63
                             · exact c_73
                             · exact c_83
                             · exact c_94
                             · exact c_105)
                          | exact zPf (fun q => c_4 (zb_f (fun y => by have := ho.2.2.2.1 y; have := q.1; unfold zcd at this; split at this <;> omega)))
                          | exact zPf (fun q => by have := q.1; omega)
                          | exact zPf (fun q => absurd (hW.mpr q).1 (by omega))
                          | exact zPf (fun q => c_35 ((hW.mpr q).2 0 (by decide)))
                          | exact zPf (fun q => c_44 ((hW.mpr q).2 1 (by decide)))
                          | exact zPf (fun q => c_53 ((hW.mpr q).2 2 (by decide)))
                          | exact zPf (fun q => c_63 ((hW.mpr q).2 3 (by decide)))
                          | exact zPf (fun q => c_73 ((hW.mpr q).2 4 (by decide)))
                          | exact zPf (fun q => c_83 ((hW.mpr q).2 5 (by decide)))
                          | exact zPf (fun q => c_94 ((hW.mpr q).2 6 (by decide)))
                          | exact zPf (fun q => c_105 ((hW.mpr q).2 7 (by decide)))
                      · refine zV_iconst (pc := 108) dX10_isWord_108 ?_
                        refine zV_goto (pc := 109) (tgt := 113) dX10_isWord_109 (by decide) ?_
                        refine zV_iret (pc := 113) dX10_isWord_113 (by first | exact zok_b1 | exact zok_b0 | exact zok_b) ⟨Nat.zero_le _, Nat.zero_le _⟩ ?_
                        first
                          | (refine zPt (hW.mp ⟨by omega, fun i hi => ?_⟩)
                             rcases (show i = 0 ∨ i = 1 ∨ i = 2 ∨ i = 3 ∨ i = 4 ∨ i = 5 ∨ i = 6 ∨ i = 7 by omega) with rfl | rfl | rfl | rfl | rfl | rfl | rfl | rfl
                             · exact c_35
                             · exact c_44
                             · exact c_53
                             · exact c_63
                             · exact c_73
                             · exact c_83
                             · exact c_94
                             · exact c_105)
                          | exact zPf (fun q => c_4 (zb_f (fun y => by have := ho.2.2.2.1 y; have := q.1; unfold zcd at this; split at this <;> omega)))
                          | exact zPf (fun q => by have := q.1; omega)
                          | exact zPf (fun q => absurd (hW.mpr q).1 (by omega))
                          | exact zPf (fun q => c_35 ((hW.mpr q).2 0 (by decide)))
                          | exact zPf (fun q => c_44 ((hW.mpr q).2 1 (by decide)))
                          | exact zPf (fun q => c_53 ((hW.mpr q).2 2 (by decide)))
                          | exact zPf (fun q => c_63 ((hW.mpr q).2 3 (by decide)))
                          | exact zPf (fun q => c_73 ((hW.mpr q).2 4 (by decide)))
                          | exact zPf (fun q => c_83 ((hW.mpr q).2 5 (by decide)))
                          | exact zPf (fun q => c_94 ((hW.mpr q).2 6 (by decide)))
                          | exact zPf (fun q => c_105 ((hW.mpr q).2 7 (by decide)))
end
