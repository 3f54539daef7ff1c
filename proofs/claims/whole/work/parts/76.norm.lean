/-! WHAT STANDS BETWEEN TWO CALLS: numbers put in order; what the contracts ask (by hand) -/
def zNp (a j : Int) : Prop := (a = 58 ∧ 13 ≤ j ∧ j ≤ 18) ∨ a = 27 ∨ a = 30 ∨ a = 33 ∨ a = 36 ∨ a = 39 ∨ a = 42
noncomputable def zNr (M : zM) : zM := fun a j => zif (zNp a j) (zw (M a j)) (M a j)
theorem zNr_fr {M : zM} : zFr zNp M (zNr M) := fun a j h => zif_f h
theorem zNr_v {M : zM} {a j : Int} (h : zNp a j) : zNr M a j = zw (M a j) := zif_t h
theorem zNr_i (g : zG) {M : zM} {a j : Int} : zT g (0, zNr M a j) = zT g (0, M a j) := by
  by_cases c : zNp a j
  · rw [zNr_v c]
    show Value.int (Int32.ofInt (zw (M a j))) = Value.int (Int32.ofInt (M a j))
    rw [zw_ofw]
  · rw [show zNr M a j = M a j from zif_f c]
theorem zR_norm {g : zG} {s : State} {N : Nat} {M : zM} {H : Heap} (h : zR g s N M H) : zR g s N (zNr M) H := by
  refine ⟨h.1, h.2.1, h.2.2.1, fun k hk => ?_⟩
  have hC := h.2.2.2 k hk
  by_cases c : k = 58
  · subst c
    have e : (fun j : Nat => zT g (ztg (zty 10 j), zNr M ((58 : Nat) : Int) (j : Int))) = fun j : Nat => zT g (ztg (zty 10 j), M ((58 : Nat) : Int) (j : Int)) := by
      funext j
      by_cases d : zNp 58 (j : Int)
      · have dj : j = 13 ∨ j = 14 ∨ j = 15 ∨ j = 16 ∨ j = 17 ∨ j = 18 := by
          unfold zNp at d
          omega
        rcases dj with rfl | rfl | rfl | rfl | rfl | rfl <;> exact zNr_i g
      · exact congrArg (fun z => zT g (ztg (zty 10 j), z)) (zif_f d)
    rw [zC_ob (ci := 10) rfl] at hC ⊢
    rw [e]
    exact hC
  · by_cases d : k = 27 ∨ k = 30 ∨ k = 33 ∨ k = 36 ∨ k = 39 ∨ k = 42
    · have e : (fun j : Nat => zT g (zeg 0, zNr M (k : Int) (j : Int))) = fun j : Nat => zT g (zeg 0, M (k : Int) (j : Int)) := by
        funext j
        exact zNr_i g
      have hs : zsh k = (1, 0, 160) := by rcases d with rfl | rfl | rfl | rfl | rfl | rfl <;> rfl
      rw [zC_ar hs] at hC ⊢
      rw [e]
      exact hC
    · have e : zNr M (k : Int) = M (k : Int) := by
        funext j
        exact zif_f (fun y => by unfold zNp at y; omega)
      rw [e]
      exact hC
theorem zV_order {g : zG} {X : zX} {P : zP} {pc : Nat} {ls st : List zv} {N : Nat} {M : zM} {kc ks : Nat} (h : zV g X P pc ls st N (zNr M) kc ks) : zV g X P pc ls st N M kc ks := fun p e s m args below meth c H locs Q la F hlen L R S E => h p e s m args below meth c H locs Q la F hlen L (zR_norm R) S E
/-- in order -/
def zJn (M : zM) : Prop := zJ M ∧ zNamR M ∧ ∀ t j : Int, 0 ≤ t → t < 6 → -2147483648 ≤ M (27 + 3 * t) j ∧ M (27 + 3 * t) j ≤ 2147483647
theorem zw_in (x : Int) : -2147483648 ≤ zw x ∧ zw x ≤ 2147483647 := by
  unfold zw
  omega
theorem zNp_t {t j : Int} (h : 0 ≤ t ∧ t < 6) : zNp (27 + 3 * t) j := by
  unfold zNp
  omega
theorem zJ.nr {M : zM} (h : zJ M) : zJn (zNr M) := by
  refine ⟨?_, fun j j0 j1 => ?_, fun t j t0 t1 => ?_⟩
  · obtain ⟨hS, hT, hW, hh, hr, ht, hi, hs, hx⟩ := h
    have f := zNr_fr (M := M)
    refine ⟨hS.fr f (by unfold zNp; decide), hT.fr f ?_ ?_ ?_ ?_ ?_, hW.frm f ?_ ?_, ?_, hr.fr f ?_ ?_ ?_ ?_, ht.fr f ?_ ?_ ?_, hi.fr f ?_ ?_ ?_ ?_ hT.2.1, hs.fr f ?_ ?_, ?_⟩
    case refine_8 =>
      rw [f 1 2 (by unfold zNp; omega)]
      exact hh
    case refine_22 =>
      intro t t0 t1
      rw [f 58 3 (by unfold zNp; omega)] at t1
      have h3 := hr.2.2.2.2
      obtain ⟨tp, z, ⟨⟨a, b⟩, c, d, e⟩, q2, q3, q4, q5⟩ := hx t t0 t1
      refine ⟨tp, z, ⟨⟨(f _ _ (by unfold zNp; omega)).trans a, fun j x hx => ?_⟩, (f _ _ (by unfold zNp; omega)).trans c, (f _ _ (by unfold zNp; omega)).trans d, (f _ _ (by unfold zNp; omega)).trans e⟩, q2, q3, (f _ _ (by unfold zNp; omega)).trans q4, fun j j0 j1 => (f _ _ (by unfold zNp; omega)).trans (q5 j j0 j1)⟩
      rw [zNr_v (zNp_t ⟨t0, by omega⟩), b j x hx]
      have al := (zp_all q2).2.1
      have := zsm_a (zsm_a al.1 al.2.1) al.2.2 x (List.mem_of_getElem? hx)
      exact zw_id (by omega)
    all_goals (intros; unfold zNp; omega)
  · rw [zNr_v (by unfold zNp; omega)]
    exact zw_in _
  · rw [zNr_v (zNp_t ⟨t0, t1⟩)]
    exact zw_in _
theorem zJn.ro {M : zM} (h : zJn M) : zRo M := by
  obtain ⟨⟨hS, hT, hW, hh, hr, ht, hi, hs, hx⟩, -, hq⟩ := h
  refine ⟨hS, hW, ⟨⟨hr.2.1.1, by have := hr.2.1; have := hr.2.2.2; omega⟩, ?_⟩, hh⟩
  obtain ⟨tp, z, ⟨⟨a, b⟩, c, d, e⟩, q2, -⟩ := hx (M 1 3) hr.2.1.1 hr.2.1.2
  have al := (zp_all q2).2.2
  refine ⟨fun j j0 j1 => ?_, ?_, fun j _ _ => hq (M 1 3) j hr.2.1.1 (by have := hr.2.1; have := hr.2.2.2; omega)⟩
  · rcases (show j = 0 ∨ j = 1 ∨ j = 2 by omega) with rfl | rfl | rfl
    · rw [c]; omega
    · rw [d]; omega
    · rw [e]; omega
  · rw [c, d, e]
    omega
theorem zJ.ro2 {M : zM} (h : zJ M) : ∃ (tp : Int → Int) (z : Int), zRo2 M tp z ∧ zTr M tp z := by
  obtain ⟨hS, hT, hW, hh, hr, ht, hi, hs, hx⟩ := h
  obtain ⟨tp, z, q1, q2, q3, q4, q5⟩ := hx (M 1 3) hr.2.1.1 hr.2.1.2
  refine ⟨tp, z, ⟨hS, ⟨by rw [← hT.1]; exact hT.2.1, fun i i0 i1 => hW.T hT ⟨i0, by rw [hT.1]; exact i1⟩⟩, ?_, by rw [← hT.2.2.1]; exact hh⟩, fun k nm k0 k1 => ztl_e q2 q3 q1 ⟨k0, k1⟩⟩
  unfold zMU
  rw [← hr.1]
  exact ⟨⟨hr.2.1.1, by have := hr.2.1; have := hr.2.2.2; omega⟩, q4, q5, q2, q3⟩
/-- both sides answer the same, and what stands, stands -/
def zS1 (g : zG) (y2 : MethodName) (X2 : zX) (A2 : List zv) : zP := fun w N' M1 => N' = 75 ∧ ∃ v : Int, w = some (zi v) ∧ zK g y2 X2 A2 75 M1 (fun w2 N2 M2 => N2 = 75 ∧ w2 = some (zi v) ∧ zJ M2)
def zS2 (g : zG) (y2 : MethodName) (X2 : zX) (A2 : List zv) : zP := fun w N' M1 => N' = 75 ∧ ∃ v : Int, w = some (zl v) ∧ zK g y2 X2 A2 75 M1 (fun w2 N2 M2 => N2 = 75 ∧ w2 = some (zl v) ∧ zJ M2)
theorem zFr.A {M M1 : zM} (f : zFr zSc M M1) : zFr zFA M M1 := f.mono (fun _ _ y => Or.inl y)
theorem zFr.B {M M1 : zM} (f : zFr zMs M M1) : zFr zFA M M1 := f.mono (fun _ _ y => Or.inr y)
/-- the class's things at M and the model's at M1, when the class alone has run -/
theorem zTi.up {M M1 : zM} (h : zTi M M) (f : zFr zSc M M1) : zTi M M1 := by
  obtain ⟨a, b, c, d⟩ := h
  refine ⟨a.trans (f _ _ (by unfold zSc; omega)).symm, b, c.trans (f _ _ (by unfold zSc; omega)).symm, fun i i0 i1 k k0 k1 => (d i i0 i1 k k0 k1).trans (f (62 + k) i (by unfold zSc; omega)).symm⟩
theorem zS1_q {g : zG} {y1 y2 : MethodName} {X1 X2 : zX} {A1 A2 : List zv} {M : zM} {a : Int} (hJ : zJ M) (k1 : zK g y1 X1 A1 75 M (zPq (zi a) 75 (fun M1 => zFr zSc M M1)))
    (k2 : ∀ M1, zFr zSc M M1 → zJ M1 → zK g y2 X2 A2 75 M1 (zPq (zi a) 75 (fun M2 => zFr zMs M1 M2))) : zK g y1 X1 A1 75 M (zS1 g y2 X2 A2) :=
  k1.mono (fun w N' M1 h => ⟨h.2.1, a, h.1, (k2 M1 h.2.2 (hJ.fr h.2.2.A)).mono (fun w2 N2 M2 h2 => ⟨h2.2.1, h2.1, (hJ.fr h.2.2.A).fr h2.2.2.B⟩)⟩)
theorem zS2_q {g : zG} {y1 y2 : MethodName} {X1 X2 : zX} {A1 A2 : List zv} {M : zM} {a : Int} (hJ : zJ M) (k1 : zK g y1 X1 A1 75 M (zPq (zl a) 75 (fun M1 => zFr zSc M M1)))
    (k2 : ∀ M1, zFr zSc M M1 → zJ M1 → zK g y2 X2 A2 75 M1 (zPq (zl a) 75 (fun M2 => zFr zMs M1 M2))) : zK g y1 X1 A1 75 M (zS2 g y2 X2 A2) :=
  k1.mono (fun w N' M1 h => ⟨h.2.1, a, h.1, (k2 M1 h.2.2 (hJ.fr h.2.2.A)).mono (fun w2 N2 M2 h2 => ⟨h2.2.1, h2.1, (hJ.fr h.2.2.A).fr h2.2.2.B⟩)⟩)
theorem zPp.q {z : zv} {N : Nat} {M : zM} {C : Int → Int → Prop} : ∀ w N' M', zPp z N M w N' M' → zPq z N (fun M1 => zFr C M M1) w N' M' := fun w N' M' h => ⟨h.1, h.2.1, by rw [h.2.2]; exact zFr.rf⟩
