/-! TIES: what a part of a text tells (by hand) -/
/-- a reader whose steps come to one number, h high -/
def zgv (nm : Int → Int) (z : Int) (h : Nat) (f : zσ → zρ) : Prop := ∀ s : zσ, zσo z s → (f s).2.ft = -1 → ∃ v, zvl nm h (f s).1 v
theorem zgv.up {nm : Int → Int} {z : Int} {h h2 : Nat} {f : zσ → zρ} (q : zgv nm z h f) (hh : h ≤ h2) : zgv nm z h2 f := fun s o t => by
  obtain ⟨v, e⟩ := q s o t
  exact ⟨v, e.up hh⟩
theorem zgx.bk {z n : Int} {s r : zσ} (h : zgx z s n r) (e : r.ft = -1) : s.ft = -1 := by
  by_cases c : s.ft = -1
  · exact c
  · exact absurd e (h.2.1 c)
theorem zlo_gv {tp nm : Int → Int} {z : Int} {q : Int → Prop} {stp : Int → Int} {f : zσ → zρ} {h : Nat} (hT : ztp tp z) (hf : zgd z f) (hv : zgv nm z h f) (hq : ∀ t, q t → t ≠ 0 ∧ t ≠ 1) (hs : ∀ t, -19 ≤ stp t ∧ stp t ≤ 9999) (hs2 : ∀ t, stp t < -6 ∧ ¬ (stp t = -13 ∨ stp t = -19)) : ∀ (k : Nat) (x : zρ), zσo z x.2 → (zlo tp z q stp f k x).2.ft = -1 → (∃ v, zvl nm (h + 1) x.1 v) → ∃ v, zvl nm (h + 1) (zlo tp z q stp f k x).1 v := by
  intro k
  induction k with
  | zero => exact fun x _ _ e => e
  | succ k ih =>
    intro x o e ⟨v, hx⟩
    have es : zlo tp z q stp f (k + 1) x = zit (q x.2.tk) (zlo tp z q stp f k (x.1 ++ (f (zadv tp z x.2)).1 ++ [stp x.2.tk], (f (zadv tp z x.2)).2)) x := rfl
    rw [es] at e ⊢
    by_cases c : q x.2.tk
    · rw [zit_t c] at e ⊢
      have a := zgx_ad hT o (hq _ c)
      have b := hf _ a.1.1
      have m : (f (zadv tp z x.2)).2.ft = -1 := by
        have i := zlo_gd hT hf hq hs k ([], (f (zadv tp z x.2)).2) b.1.1 zsm_0
        have i2 : ∀ (k : Nat) (x y : zρ), x.2 = y.2 → (zlo tp z q stp f k x).2 = (zlo tp z q stp f k y).2 := by
          intro k
          induction k with
          | zero => exact fun x y e => e
          | succ k ih =>
            intro x y e
            show (zit (q x.2.tk) (zlo tp z q stp f k (x.1 ++ (f (zadv tp z x.2)).1 ++ [stp x.2.tk], (f (zadv tp z x.2)).2)) x).2 = (zit (q y.2.tk) (zlo tp z q stp f k (y.1 ++ (f (zadv tp z y.2)).1 ++ [stp y.2.tk], (f (zadv tp z y.2)).2)) y).2
            rw [e]
            by_cases d : q y.2.tk
            · rw [zit_t d, zit_t d]
              exact ih _ _ rfl
            · rw [zit_f d, zit_f d]
              exact e
        rw [i2 k (x.1 ++ (f (zadv tp z x.2)).1 ++ [stp x.2.tk], (f (zadv tp z x.2)).2) ([], (f (zadv tp z x.2)).2) rfl] at e
        exact i.1.bk e
      obtain ⟨w, hw⟩ := hv _ a.1.1 m
      exact ih _ b.1.1 e ⟨_, zvl_2u hx hw (hs2 _)⟩
    · rw [zit_f c] at e ⊢
      exact ⟨v, hx⟩
theorem zlp_gv {tp nm : Int → Int} {z : Int} {q : Int → Prop} {stp : Int → Int} {f : zσ → zρ} {h : Nat} (hT : ztp tp z) (hf : zgd z f) (hv : zgv nm z h f) (hq : ∀ t, q t → t ≠ 0 ∧ t ≠ 1) (hs : ∀ t, -19 ≤ stp t ∧ stp t ≤ 9999) (hs2 : ∀ t, stp t < -6 ∧ ¬ (stp t = -13 ∨ stp t = -19)) : zgv nm z (h + 1) (fun s => zlo tp z q stp f 160 (f s)) := by
  intro s o e
  have a := hf s o
  have b := zlo_gd hT hf hq hs 160 (f s) a.1.1 a.2.2
  obtain ⟨v, e2⟩ := hv s o (b.1.bk e)
  exact zlo_gv hT hf hv hq hs hs2 160 (f s) a.1.1 e ⟨v, e2.up (by omega)⟩
section
variable {tp nm : Int → Int} {z : Int} {f : zσ → zρ} {h : Nat}
theorem zTerm_gv (hT : ztp tp z) (hf : zgd z f) (hv : zgv nm z h f) : zgv nm z (h + 1) (zTerm tp z f) := zlp_gv hT hf hv (fun t h => by omega) (fun t => by decide) (fun t => by decide)
theorem zSum_gv (hT : ztp tp z) (hf : zgd z f) (hv : zgv nm z h f) : zgv nm z (h + 1) (zSum tp z f) := zlp_gv hT hf hv (fun t h => by omega) (fun t => by split <;> decide) (fun t => by split <;> decide)
theorem zAnd_gv (hT : ztp tp z) (hf : zgd z f) (hv : zgv nm z h f) : zgv nm z (h + 1) (zAnd tp z f) := zlp_gv hT hf hv (fun t h => by omega) (fun t => by decide) (fun t => by decide)
theorem zOr_gv (hT : ztp tp z) (hf : zgd z f) (hv : zgv nm z h f) : zgv nm z (h + 1) (zOr tp z f) := zlp_gv hT hf hv (fun t h => by omega) (fun t => by decide) (fun t => by decide)
theorem zCmp_gv (hT : ztp tp z) (hf : zgd z f) (hv : zgv nm z h f) : zgv nm z (h + 1) (zCmp tp z f) := by
  intro s o e
  have a := hf s o
  unfold zCmp at e ⊢
  by_cases c : (f s).2.tk = 60 ∨ (f s).2.tk = 61
  · rw [zit_t c] at e ⊢
    have b := zgx_ad hT a.1.1 (s := (f s).2) ⟨by omega, by omega⟩
    have d := hf _ b.1.1
    obtain ⟨w, hw⟩ := hv _ b.1.1 e
    obtain ⟨v, hv2⟩ := hv s o (b.1.bk (d.1.bk e))
    exact ⟨_, zvl_2 hv2 hw (by split <;> decide)⟩
  · rw [zit_f c] at e ⊢
    obtain ⟨v, e2⟩ := hv s o e
    exact ⟨v, e2.up (by omega)⟩
theorem zCm2_gv (hT : ztp tp z) (hf : zgd z f) (hv : zgv nm z h f) : zgv nm z (h + 3) (zCm2 tp z f) := zCmp_gv hT (zSum_gd hT (zTerm_gd hT hf)) (zSum_gv hT (zTerm_gd hT hf) (zTerm_gv hT hf hv))
theorem zOr2_gv (hT : ztp tp z) (hf : zgd z f) (hv : zgv nm z h f) : zgv nm z (h + 2) (zOr2 tp z f) := zOr_gv hT (zAnd_gd hT hf) (zAnd_gv hT hf hv)
theorem zOneF_gv {r : zσ → zρ} (hr : zgv nm z h r) (hh : 1 ≤ h) : zgv nm z h (zOneF tp z r) := by
  intro s o e
  unfold zOneF at e ⊢
  by_cases c : s.tk = 2
  · rw [if_pos c]
    exact ⟨_, (zvl_n (o.2.1 c).1).up hh⟩
  · rw [if_neg c] at e ⊢
    by_cases d : s.tk = 3
    · rw [if_pos d]
      exact ⟨_, (zvl_m (o.2.2.1 d)).up hh⟩
    · rw [if_neg d] at e ⊢
      exact hr s o e
theorem zfl_gv (hz : z ≤ 160) : zgv nm z h (fun s => ([], zfl s)) := by
  intro s o e
  have e2 : (zfl s).ft = if s.ft = -1 then s.sa else s.ft := rfl
  have e3 : (zfl s).ft = -1 := e
  have := o.1.1
  rw [e2] at e3
  split at e3 <;> omega
theorem zOne0_gv (hT : ztp tp z) : zgv nm z 1 (zOne0 tp z) := zOneF_gv (zfl_gv hT.1.2) (Nat.le_refl _)
theorem zOneS_gv {o e : zσ → zρ} {ho he : Nat} (hT : ztp tp z) (go : zgd z o) (ge : zgd z e) (vo : zgv nm z ho o) (ve : zgv nm z he e) (h1 : ho ≤ h) (h2 : he ≤ h) (hh : 1 ≤ h) : zgv nm z h (zOneS tp z o e) := by
  refine zOneF_gv (fun s os es => ?_) hh
  by_cases c : s.tk = 45
  · rw [if_pos c] at es ⊢
    have a := zgx_ad hT os (s := s) ⟨by omega, by omega⟩
    obtain ⟨v, hv⟩ := vo _ a.1.1 es
    exact ⟨_, (zvl_1 hv (Or.inr rfl)).up h1⟩
  · rw [if_neg c] at es ⊢
    by_cases d : s.tk = 40
    · rw [if_pos d] at es ⊢
      have a := zgx_ad hT os (s := s) ⟨by omega, by omega⟩
      have b := ge _ a.1.1
      have n := zgx_nd (k := 41) hT b.1.1 (by decide)
      obtain ⟨v, hv⟩ := ve _ a.1.1 (n.bk es)
      exact ⟨_, hv.up h2⟩
    · rw [if_neg d] at es
      exact (zfl_gv (nm := nm) (h := h) hT.1.2 s os es) |> fun ⟨v, hv⟩ => ⟨v, by rw [if_neg d]; exact hv⟩
theorem zNot0_gv (hT : ztp tp z) (hf : zgd z f) (hv : zgv nm z h f) : zgv nm z (h + 3) (zNot0 tp z f) := by
  intro s o e
  unfold zNot0 at e ⊢
  by_cases c : s.tk = 11
  · rw [if_pos c] at e ⊢
    exact zfl_gv hT.1.2 s o e
  · rw [if_neg c] at e ⊢
    exact zCm2_gv hT hf hv s o e
theorem zNotS_gv {n : zσ → zρ} {hn : Nat} (hT : ztp tp z) (vn : zgv nm z hn n) (h1 : hn ≤ h + 3) (hf : zgd z f) (hv : zgv nm z h f) : zgv nm z (h + 3) (zNotS tp z n f) := by
  intro s o e
  unfold zNotS at e ⊢
  by_cases c : s.tk = 11
  · rw [if_pos c] at e ⊢
    have a := zgx_ad hT o (s := s) ⟨by omega, by omega⟩
    obtain ⟨v, hv⟩ := vn _ a.1.1 e
    exact ⟨_, (zvl_1 hv (Or.inl rfl)).up h1⟩
  · rw [if_neg c] at e ⊢
    exact zCm2_gv hT hf hv s o e
theorem zlv_gv (hT : ztp tp z) : ∀ r : Nat, zgv nm z (1 + 5 * r) (zlv tp z r).1 ∧ zgv nm z (4 + 5 * r) (zlv tp z r).2 := by
  intro r
  induction r with
  | zero => exact ⟨zOne0_gv hT, zNot0_gv hT (zOne0_gd hT) (zOne0_gv hT)⟩
  | succ r ih =>
    have g := zlv_gd hT r
    have a : zgv nm z (1 + 5 * (r + 1)) (zOneS tp z (zlv tp z r).1 (zOr2 tp z (zlv tp z r).2)) := zOneS_gv hT g.1 (zOr2_gd hT g.2) ih.1 (zOr2_gv hT g.2 ih.2) (by omega) (by omega) (by omega)
    exact ⟨a, (zNotS_gv hT ih.2 (by omega) (zOneS_gd hT g.1 (zOr2_gd hT g.2)) a).up (by omega)⟩
theorem zpt_gv {k : Int} {s : zσ} (hT : ztp tp z) (hk : 0 ≤ k ∧ k ≤ 2) (o : zσo z s) (e : (zpt tp z k s).2.ft = -1) : ∃ v, zvl nm 31 (zpt tp z k s).1 v := by
  have a := zgx_nd (k := 6 + k) hT o (by omega)
  have b := zOr2_gd hT (zlv_gd hT 5).2 _ a.1
  have c := zgx_nd (k := 59) hT b.1.1 (by decide)
  exact zOr2_gv hT (zlv_gd hT 5).2 (zlv_gv hT 5).2 _ a.1 (c.bk e)
end
theorem zrun_br {sp nm : Int → Int} : ∀ (L : List Int) (a : Int) (stk : List Int), (∀ (j : Nat) (x : Int), L[j]? = some x → sp (a + j) = x) → zrun sp nm a L.length stk = zbr nm L stk := by
  intro L
  induction L with
  | nil => exact fun _ _ _ => rfl
  | cons x L ih =>
    intro a stk h
    have h0 := h 0 x rfl
    rw [show a + ((0 : Nat) : Int) = a from Int.add_zero a] at h0
    show zrun sp nm (a + 1) L.length (zstp nm (sp a) stk) = zbr nm L (zstp nm x stk)
    rw [h0]
    exact ih (a + 1) _ (fun j y hy => by rw [show a + 1 + (j : Int) = a + ((j + 1 : Nat) : Int) by omega]; exact h (j + 1) y hy)
/-- a part's tell, on both sides -/
theorem ztl_e {M : zM} {t z : Int} {tp nm : Int → Int} (hT : ztp tp z) (hF : zpF tp z = -1) (h : zRT M t tp z) {k : Int} (hk : 0 ≤ k ∧ k ≤ 2) : ztl (M (27 + 3 * t)) (M (28 + 3 * t)) k nm = ztt tp z k nm := by
  obtain ⟨⟨-, hL⟩, e0, e1, e2⟩ := h
  have al := zp_all hT
  have fa := zpF_1 hT hF
  have s0 := zstart hT
  generalize M (27 + 3 * t) = sp at *
  generalize M (28 + 3 * t) = en at *
  have key : ∀ (A B C : List Int) (v : Int), zvl nm 31 B v → (∀ (j : Nat) (x : Int), (A ++ B ++ C)[j]? = some x → sp j = x) → zbot (zrun sp nm A.length B.length []) = (zbr nm B []).headD 0 := by
    intro A B C v hv h
    rw [zrun_br B A.length [] (fun j x hx => h (A.length + j) x ?_), hv [] (by decide)]
    · rfl
    · have hj : j < B.length := (List.getElem?_eq_some_iff.mp hx).1
      rw [List.getElem?_append_left (by rw [List.length_append]; omega), List.getElem?_append_right (by omega), Nat.add_sub_cancel_left]
      exact hx
  rcases (show k = 0 ∨ k = 1 ∨ k = 2 by omega) with rfl | rfl | rfl
  · obtain ⟨v, hv⟩ := zpt_gv (nm := nm) hT (by decide) s0 fa.1
    have q := key [] (zp0 tp z).1 ((zp1 tp z).1 ++ (zp2 tp z).1) v hv (by rw [List.nil_append, ← List.append_assoc]; exact hL)
    show zc99 (zbot (zrun sp nm 0 (en 0 - 0).toNat [])) = zc99 ((zbr nm (zp0 tp z).1 []).headD 0)
    rw [e0, Int.sub_zero, Int.toNat_natCast]
    exact congrArg zc99 q
  · obtain ⟨v, hv⟩ := zpt_gv (nm := nm) hT (by decide) al.1.1 fa.2.1
    have q := key (zp0 tp z).1 (zp1 tp z).1 (zp2 tp z).1 v hv hL
    show zc99 (zbot (zrun sp nm (en 0) (en 1 - en 0).toNat [])) = zc99 ((zbr nm (zp1 tp z).1 []).headD 0)
    rw [e0, e1, show (((zp0 tp z).1.length : Int) + (zp1 tp z).1.length - (zp0 tp z).1.length).toNat = (zp1 tp z).1.length by omega]
    exact congrArg zc99 q
  · obtain ⟨v, hv⟩ := zpt_gv (nm := nm) hT (by decide) al.1.2.1 fa.2.2.1
    have q := key ((zp0 tp z).1 ++ (zp1 tp z).1) (zp2 tp z).1 [] v hv (by rw [List.append_nil]; exact hL)
    show zc99 (zbot (zrun sp nm (en 1) (en 2 - en 1).toNat [])) = zc99 ((zbr nm (zp2 tp z).1 []).headD 0)
    rw [List.length_append, Int.natCast_add] at q
    rw [e1, e2, show (((zp0 tp z).1.length : Int) + (zp1 tp z).1.length + (zp2 tp z).1.length - ((zp0 tp z).1.length + (zp1 tp z).1.length)).toNat = (zp2 tp z).1.length by omega]
    exact congrArg zc99 q
