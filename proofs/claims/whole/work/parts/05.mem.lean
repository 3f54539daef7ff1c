/-! ROWS THAT TOUCH MEMORY, over the small machine -/
/-- an object of a class; an array of a kind and a length -/
def zOb (N : Nat) (a : Int) (ci : Nat) : Prop := 0 ≤ a ∧ a < N ∧ zsh a.toNat = (0, ci, 0)
def zAr (N : Nat) (a : Int) (t n : Nat) : Prop := 0 ≤ a ∧ a < N ∧ zsh a.toNat = (1, t, n)
theorem zOb_of {N : Nat} {a : Int} {ci : Nat} (h : (decide (0 ≤ a) && decide (a < N) && decide (zsh a.toNat = (0, ci, 0))) = true) : zOb N a ci := by
  simp only [Bool.and_eq_true, decide_eq_true_eq] at h
  exact ⟨h.1.1, h.1.2, h.2⟩
theorem zAr_of {N : Nat} {a : Int} {t n : Nat} (h : (decide (0 ≤ a) && decide (a < N) && decide (zsh a.toNat = (1, t, n))) = true) : zAr N a t n := by
  simp only [Bool.and_eq_true, decide_eq_true_eq] at h
  exact ⟨h.1.1, h.1.2, h.2⟩
theorem zOb.up {N N' : Nat} {a : Int} {ci : Nat} (h : zOb N a ci) (hN : N ≤ N') : zOb N' a ci := ⟨h.1, by have := h.2.1; omega, h.2.2⟩
theorem zAr.up {N N' : Nat} {a : Int} {t n : Nat} (h : zAr N a t n) (hN : N ≤ N') : zAr N' a t n := ⟨h.1, by have := h.2.1; omega, h.2.2⟩
theorem zsh_n (k : Nat) : (zsh k).2.2 ≤ 1000 := by
  have h : ∀ q ∈ zshL, q.2.2 ≤ 1000 := by decide +kernel
  unfold zsh
  rw [List.getD_eq_getElem?_getD]
  cases e : zshL[k]? with
  | none => exact Nat.zero_le _
  | some q => exact h q (List.mem_of_getElem? e)
/-- one slot new -/
def zU (M : zM) (a j z : Int) : zM := fun a' j' => if a' = a then (if j' = j then z else M a' j') else M a' j'
theorem zU_s (M : zM) (a j z : Int) : zU M a j z a j = z := by
  unfold zU
  rw [if_pos rfl, if_pos rfl]
theorem zU_j (M : zM) (a j z : Int) {a' j' : Int} (h : j' ≠ j) : zU M a j z a' j' = M a' j' := by
  unfold zU
  rw [if_neg h]
  split <;> rfl
theorem zU_a (M : zM) (a j z : Int) {a' j' : Int} (h : a' ≠ a) : zU M a j z a' j' = M a' j' := by
  unfold zU
  rw [if_neg h]
/-- a new cell -/
def zNw (M : zM) (a : Int) (d : Int → Int) : zM := fun a' j' => if a' = a then d j' else M a' j'
theorem zNw_s (M : zM) (a : Int) (d : Int → Int) (j : Int) : zNw M a d a j = d j := by
  unfold zNw
  rw [if_pos rfl]
theorem zNw_a (M : zM) (a : Int) (d : Int → Int) {a' j' : Int} (h : a' ≠ a) : zNw M a d a' j' = M a' j' := by
  unfold zNw
  rw [if_neg h]
theorem zC_ob {g : zG} {U : State} {k ci : Nat} {f : Int → Int} {H : Heap} (h : zsh k = (0, ci, 0)) : zC g U k f H = t_OB (g.2.2.2.1 + k) (g.2.1 ci) (zcl ci).2.2 (g.2.2.1 ci) H (fun j => zT g (ztg (zty ci j), f (j : Int))) := by
  unfold zC
  rw [h]
  rfl
theorem zC_ar {g : zG} {U : State} {k t n : Nat} {f : Int → Int} {H : Heap} (h : zsh k = (1, t, n)) : zC g U k f H = ∃ cA : ClassId, ArrOfT U cA (zet t) ∧ va_RA U cA (zet t) ∧ H[g.2.2.2.1 + k]? = some (arrV cA n (fun j => zT g (zeg t, f (j : Int)))) := by
  unfold zC
  rw [h]
  rfl
theorem zcl_at {ci : Nat} (h : ci < 11) : vwCl[ci]? = some (zcl ci) := by
  unfold zcl
  rw [List.getD_eq_getElem?_getD]
  have h2 : ci < vwCl.length := h
  rw [List.getElem?_eq_getElem h2]
  rfl
theorem zws0 : ((List.range 11).all fun ci => (u_ws (zcl ci).1 (zcl ci).2.1 (zcl ci).2.2).all fun w => decide (w ∈ lw_tbl) && zgw w) = true := by decide +kernel
theorem zws {ci : Nat} (h : ci < 11) : ∀ w ∈ u_ws (zcl ci).1 (zcl ci).2.1 (zcl ci).2.2, w ∈ zTb := by
  intro w hw
  have h1 := List.all_eq_true.mp zws0 ci (List.mem_range.mpr h)
  have h2 := List.all_eq_true.mp h1 w hw
  rw [Bool.and_eq_true] at h2
  exact zin (of_decide_eq_true h2.1) h2.2
theorem zty_ok {ci : Nat} (h : ci < 11) : ∀ k, k < (zcl ci).2.2 → parseFieldDescriptor ((zcl ci).2.1 k).2.2.1 = some (zty ci k) := by
  match ci, h with
  | 0, _ => exact tyX0_ok
  | 1, _ => exact tyX1_ok
  | 2, _ => exact tyX2_ok
  | 3, _ => exact tyX3_ok
  | 4, _ => exact tyX4_ok
  | 5, _ => exact tyX5_ok
  | 6, _ => exact tyX6_ok
  | 7, _ => exact tyX7_ok
  | 8, _ => exact tyX8_ok
  | 9, _ => exact tyX9_ok
  | 10, _ => exact tyX10_ok
theorem znm_ok {ci : Nat} (h : ci < 11) : ∀ a, a < (zcl ci).2.2 → ∀ b, b < (zcl ci).2.2 → a ≠ b → ((zcl ci).2.1 a).2.1 ≠ ((zcl ci).2.1 b).2.1 := by
  match ci, h with
  | 0, _ => exact nmX0
  | 1, _ => exact nmX1
  | 2, _ => exact nmX2
  | 3, _ => exact nmX3
  | 4, _ => exact nmX4
  | 5, _ => exact nmX5
  | 6, _ => exact nmX6
  | 7, _ => exact nmX7
  | 8, _ => exact nmX8
  | 9, _ => exact nmX9
  | 10, _ => exact nmX10
/-- an entry of a class's pool is a field of a class, of a kind t -/
def zFL (own : String) (idx ci f t : Nat) : Prop := ci < 11 ∧ f < (zcl ci).2.2 ∧ t = ztg (zty ci f) ∧ Cond.fieldLink own idx ((zcl ci).2.1 f).1 ((zcl ci).2.1 f).2.1 ((zcl ci).2.1 f).2.2.1 ∈ zTb
/-- may be written outside constructors: not final; of a kind whose every number fits (a truth value's: 0, 1) -/
def zfty (ty : FieldType) (z : Int) : Prop := match ty with
  | .int => True
  | .long => True
  | .boolean => z = 0 ∨ z = 1
  | .object _ => True
  | .array _ => True
  | _ => False
theorem zfit {g : zG} {ty : FieldType} {z : Int} (h : zfty ty z) : narrow ty (zT g (ztg ty, z)) = zT g (ztg ty, z) ∧ fits ty (zT g (ztg ty, z)) = true := by
  match ty, h with
  | .int, _ => exact ⟨rfl, rfl⟩
  | .long, _ => exact ⟨rfl, rfl⟩
  | .boolean, h =>
    rcases h with rfl | rfl
    · exact ⟨rfl, rfl⟩
    · exact ⟨rfl, rfl⟩
  | .object C, _ =>
    show narrow (.object C) (if z < 0 then Value.null else .ref (zAd g z)) = (if z < 0 then Value.null else .ref (zAd g z)) ∧ fits (.object C) (if z < 0 then Value.null else .ref (zAd g z)) = true
    split <;> exact ⟨rfl, rfl⟩
  | .array t, _ =>
    show narrow (.array t) (if z < 0 then Value.null else .ref (zAd g z)) = (if z < 0 then Value.null else .ref (zAd g z)) ∧ fits (.array t) (if z < 0 then Value.null else .ref (zAd g z)) = true
    split <;> exact ⟨rfl, rfl⟩
section
variable {g : zG} {X : zX} {P : zP} {pc : Nat} {ls st : List zv} {N : Nat} {M : zM} {kc ks : Nat}
theorem zV_get {a z j : Int} {idx ci f t : Nat} (hd : decode X.cc pc = .ok (.getfield idx, 3)) (hl : zFL X.own idx ci f t) (hO : zOb N a ci) (hj : (f : Int) = j) (hz : M a j = z) (k : zV g X P (pc + 3) ls ((t, z) :: st) N M kc ks) : zV g X P pc ls (zr a :: st) N M kc ks := by
  subst hj
  intro p e s m args below meth c H locs Q la F hlen L R S E
  have k := k p e s m args below meth c H locs Q la F hlen L R S E
  obtain ⟨h1, h2, rfl, h4⟩ := hl
  obtain ⟨a0, aN, ash⟩ := hO
  have ea : ((a.toNat : Nat) : Int) = a := Int.toNat_of_nonneg a0
  have hC := R.2.2.2 a.toNat (by omega)
  rw [zC_ob ash, ea] at hC
  obtain ⟨cell, q1, q2, q3, q4⟩ := hC
  obtain ⟨hS, hfc, kC, hkC, hkind⟩ := R.2.2.1 ci _ (zcl_at h1)
  obtain ⟨cf, kf, fi, fd, hi, hsl⟩ := hS f h2
  show W p g.1 e X.rm s m args below meth c H locs kc ks Q (F0 m pc la (zT g (zr a) :: st.map (zT g)))
  rw [zT_r g a0, zAd_lt g (by have := R.1; omega)]
  refine W.getf F.1 F.2.1 F.2.2.2.1 (F.2.2.2.2.1 _ h4) hi (u_facts hfc hkC (u_lays F.2.2.2.2.1 (zws h1) h2) hi).1 q1 (by rw [q3]; exact fun h => by cases h) (v := zT g (ztg (zty ci f), z)) ?_ rfl rfl hd k
  rw [hsl, q4 f h2]
  show some (zT g (ztg (zty ci f), M a (f : Int))) = _
  rw [hz]
/-- what a heap becomes by one slot of one object -/
theorem zR_put {s : State} {args : Array Value} {H H1 : Heap} {a z : Int} {ci f : Nat} {cell : Cell} (F : ∀ w ∈ zTb, w.before args s = true) (h1 : ci < 11) (h2 : f < (zcl ci).2.2) (hO : zOb N a ci) (R : zR g s N M H) (q4 : ∀ k, k < (zcl ci).2.2 → cell.slots[g.2.2.1 ci k]? = some (zT g (ztg (zty ci k), M a (k : Int)))) (q2 : cell.cls = g.2.1 ci) (q3 : cell.vm = .none)
    (e1 : H1[g.2.2.2.1 + a.toNat]? = some (cell.setSlot (g.2.2.1 ci f) (zT g (ztg (zty ci f), z)))) (e2 : H1.size = H.size) (e3 : ∀ q : Nat, q ≠ g.2.2.2.1 + a.toNat → H1[q]? = H[q]?) : zR g s N (zU M a (f : Int) z) H1 := by
  obtain ⟨a0, aN, ash⟩ := hO
  have ea : ((a.toNat : Nat) : Int) = a := Int.toNat_of_nonneg a0
  refine ⟨R.1, by rw [e2]; exact R.2.1, R.2.2.1, fun k hk => ?_⟩
  by_cases hka : k = a.toNat
  · subst hka
    rw [zC_ob ash, ea]
    have hK : va_K (g.2.1, g.2.2.1) vwCl [] s := ⟨R.2.2.1, fun k q h => by simp at h⟩
    have hap := va_apart (own := "") F (zws h1) (zty ci) (zty_ok h1) (znm_ok h1) hK (zcl_at h1)
    refine ⟨_, e1, q2, q3, fun j hj => (t_set q4 hap h2 _ j hj).trans ?_⟩
    show some (if j = f then _ else _) = some (zT g (ztg (zty ci j), zU M a (f : Int) z a (j : Int)))
    by_cases hjf : j = f
    · subst hjf
      rw [if_pos rfl, zU_s]
    · rw [if_neg hjf, zU_j M a _ z (show ((j : Nat) : Int) ≠ (f : Int) from fun e => hjf (Int.ofNat_inj.mp e))]
  · have hf : zU M a (f : Int) z (k : Int) = M (k : Int) := by
      funext j
      exact zU_a M a _ z (by omega)
    rw [hf]
    exact (R.2.2.2 k hk).kept (e3 _ (by omega))
theorem zV_put {a z j : Int} {idx ci f t : Nat} (hd : decode X.cc pc = .ok (.putfield idx, 3)) (hl : zFL X.own idx ci f t) (hfin : ((zcl ci).2.1 f).2.2.2 = false) (hO : zOb N a ci) (hj : (f : Int) = j) (hf : zfty (zty ci f) z) (k : zV g X P (pc + 3) ls st N (zU M a j z) kc ks) : zV g X P pc ls ((t, z) :: zr a :: st) N M kc ks := by
  subst hj
  intro p e s m args below meth c H locs Q la F hlen L R S E
  obtain ⟨h1, h2, rfl, h4⟩ := hl
  obtain ⟨a0, aN, ash⟩ := id hO
  have ea : ((a.toNat : Nat) : Int) = a := Int.toNat_of_nonneg a0
  have hC := R.2.2.2 a.toNat (by omega)
  rw [zC_ob ash, ea] at hC
  obtain ⟨cell, q1, q2, q3, q4⟩ := hC
  obtain ⟨hS, hfc, kC, hkC, hkind⟩ := R.2.2.1 ci _ (zcl_at h1)
  obtain ⟨cf, kf, fi, fd, hi, hsl⟩ := hS f h2
  show W p g.1 e X.rm s m args below meth c H locs kc ks Q (F0 m pc la (zT g (ztg (zty ci f), z) :: zT g (zr a) :: st.map (zT g)))
  rw [zT_r g a0, zAd_lt g (by have := R.1; omega)]
  have hlay := F.2.2.2.2.1 _ (zws h1 _ (u_in_lay h2))
  unfold u_lay at hlay
  rw [if_neg (by rw [hfin]; decide)] at hlay
  have hst := (u_facts hfc hkC (u_lays F.2.2.2.2.1 (zws h1) h2) hi).1
  have h6 := u_store hfc hkC hkind hlay hi (zty_ok h1 f h2) (zfit (g := g) hf).1 (zfit (g := g) hf).2
  refine W.putK F.1 F.2.1 (f := fd) ⟨F.2.2.2.1, F.2.2.2.2.1 _ h4, ⟨_, _, _, hi⟩, hst⟩ (by rw [q2]; exact h6) q1 q3 (by rw [hsl]; exact k2_hasslot (q4 f h2)) rfl rfl hd fun H' e1 e2 e3 => ?_
  rw [hsl] at e1 ⊢
  exact k p e s m args below meth c H' _ Q la F hlen L (zR_put F.2.2.2.2.1 h1 h2 hO R q4 q2 q3 e1 e2 e3) (S.put e2 e3 (by show g.2.2.2.1 ≤ _; omega)) E
theorem zV_putF {a z j : Int} {idx ci f t : Nat} (hd : decode X.cc pc = .ok (.putfield idx, 3)) (hl : zFL X.own idx ci f t) (hfin : ((zcl ci).2.1 f).2.2.2 = true) (hini : X.ini = true) (hown : ((zcl ci).2.1 f).1 = X.own) (hO : zOb N a ci) (hj : (f : Int) = j) (hf : zfty (zty ci f) z) (k : zV g X P (pc + 3) ls st N (zU M a j z) kc ks) : zV g X P pc ls ((t, z) :: zr a :: st) N M kc ks := by
  subst hj
  intro p e s m args below meth c H locs Q la F hlen L R S E
  obtain ⟨h1, h2, rfl, h4⟩ := hl
  obtain ⟨a0, aN, ash⟩ := id hO
  have ea : ((a.toNat : Nat) : Int) = a := Int.toNat_of_nonneg a0
  have hC := R.2.2.2 a.toNat (by omega)
  rw [zC_ob ash, ea] at hC
  obtain ⟨cell, q1, q2, q3, q4⟩ := hC
  obtain ⟨hS, hfc, kC, hkC, hkind⟩ := R.2.2.1 ci _ (zcl_at h1)
  obtain ⟨cf, kf, fi, fd, hi, hsl⟩ := hS f h2
  show W p g.1 e X.rm s m args below meth c H locs kc ks Q (F0 m pc la (zT g (ztg (zty ci f), z) :: zT g (zr a) :: st.map (zT g)))
  rw [zT_r g a0, zAd_lt g (by have := R.1; omega)]
  have hlay := F.2.2.2.2.1 _ (zws h1 _ (u_in_lay h2))
  unfold u_lay at hlay
  rw [if_pos hfin] at hlay
  have hst := (u_facts hfc hkC (u_lays F.2.2.2.2.1 (zws h1) h2) hi).1
  have hcf : m.cls = cf := by
    obtain ⟨_, _, c', _, _, _, -, -, hf', -, -, -, hown2, -⟩ := Cond.laysFinal_spec hlay
    have e1 : c' = cf := by have := hi.symm.trans hf'; simp at this; exact this.1.symm
    rw [hown] at hown2
    rw [← e1]; exact Option.some.inj (F.2.2.2.1.symm.trans hown2)
  have h6 := u_fits hfc hkC hkind (Or.inr hlay) hi (zty_ok h1 f h2) (zfit (g := g) hf).1 (zfit (g := g) hf).2
  refine W.putFinK F.1 F.2.1 F.2.2.2.1 (F.2.2.2.2.1 _ h4) hi hst hcf (F.2.2.2.2.2.2 hini) (by rw [q2]; exact h6) q1 q3 (by rw [hsl]; exact k2_hasslot (q4 f h2)) rfl rfl hd fun H' e1 e2 e3 => ?_
  rw [hsl] at e1 ⊢
  exact k p e s m args below meth c H' _ Q la F hlen L (zR_put F.2.2.2.2.1 h1 h2 hO R q4 q2 q3 e1 e2 e3) (S.put e2 e3 (by show g.2.2.2.1 ≤ _; omega)) E
theorem zix {i : Int} {n : Nat} (h : 0 ≤ i ∧ i < n) (hn : n ≤ 1000) : (Int32.ofInt i).toNatClampNeg = i.toNat ∧ ¬ (Int32.ofInt i < 0 ∨ n ≤ (Int32.ofInt i).toNatClampNeg) := by
  have e : (Int32.ofInt i).toNatClampNeg = i.toNat := by
    show (Int32.ofInt i).toInt.toNat = _
    rw [zw_eq, zw_id (by omega)]
  refine ⟨e, ?_⟩
  rw [e]
  rintro (q | q)
  · rw [show (0 : Int32) = Int32.ofInt 0 from rfl, zw_lt, zw_id (by omega), zw_id (by omega)] at q
    omega
  · omega
/-- what a heap becomes by one place of one array -/
theorem zR_ast {s : State} {H H1 : Heap} {a i z : Int} {t n : Nat} {cA : ClassId} (hA : zAr N a t n) (hi : 0 ≤ i ∧ i < n) (R : zR g s N M H) (h1 : ArrOfT s cA (zet t)) (h2 : va_RA s cA (zet t))
    (e1 : H1[g.2.2.2.1 + a.toNat]? = some ((arrV cA n (fun j => zT g (zeg t, M a (j : Int)))).setSlot i.toNat (zT g (zeg t, z)))) (e2 : H1.size = H.size) (e3 : ∀ q : Nat, q ≠ g.2.2.2.1 + a.toNat → H1[q]? = H[q]?) : zR g s N (zU M a i z) H1 := by
  obtain ⟨a0, aN, ash⟩ := hA
  have ea : ((a.toNat : Nat) : Int) = a := Int.toNat_of_nonneg a0
  refine ⟨R.1, by rw [e2]; exact R.2.1, R.2.2.1, fun k hk => ?_⟩
  by_cases hka : k = a.toNat
  · subst hka
    rw [zC_ar ash, ea]
    refine ⟨cA, h1, h2, ?_⟩
    rw [e1, arrV_store]
    congr 2
    funext j
    show (if j = i.toNat then _ else _) = _
    by_cases hj : j = i.toNat
    · rw [if_pos hj, show ((j : Nat) : Int) = i by omega, zU_s]
    · rw [if_neg hj, zU_j M a i z (by omega)]
  · have hf : zU M a i z (k : Int) = M (k : Int) := by
      funext j
      exact zU_a M a i z (by omega)
    rw [hf]
    exact (R.2.2.2 k hk).kept (e3 _ (by omega))
theorem zV_iald {a i z : Int} {n : Nat} (hd : decode X.cc pc = .ok (.iaload, 1)) (hA : zAr N a 0 n) (hi : 0 ≤ i ∧ i < n) (hz : M a i = z) (k : zV g X P (pc + 1) ls (zi z :: st) N M kc ks) : zV g X P pc ls (zi i :: zr a :: st) N M kc ks := by
  intro p e s m args below meth c H locs Q la F hlen L R S E
  have k := k p e s m args below meth c H locs Q la F hlen L R S E
  obtain ⟨a0, aN, ash⟩ := hA
  have hn := zsh_n a.toNat
  rw [ash] at hn
  have ea : ((a.toNat : Nat) : Int) = a := Int.toNat_of_nonneg a0
  have hC := R.2.2.2 a.toNat (by omega)
  rw [zC_ar ash, ea] at hC
  obtain ⟨cA, q1, q2, q3⟩ := hC
  show W p g.1 e X.rm s m args below meth c H locs kc ks Q (F0 m pc la (.int (Int32.ofInt i) :: zT g (zr a) :: st.map (zT g)))
  rw [zT_r g a0, zAd_lt g (by have := R.1; omega)]
  obtain ⟨e1, e2⟩ := zix hi hn
  refine W.iald (v := zT g (0, z)) F.1 F.2.1 q3 (q1 n _) (fun q => by cases q) (by rw [arrV_size]; exact e2) ?_ rfl rfl hd k
  rw [e1, arrV_read _ _ (by omega), show ((i.toNat : Nat) : Int) = i by omega, hz]
  rfl
theorem zV_zald {a i z : Int} {n : Nat} (hd : decode X.cc pc = .ok (.baload, 1)) (hA : zAr N a 1 n) (hi : 0 ≤ i ∧ i < n) (hz : M a i = z) (k : zV g X P (pc + 1) ls (zi z :: st) N M kc ks) : zV g X P pc ls (zi i :: zr a :: st) N M kc ks := by
  intro p e s m args below meth c H locs Q la F hlen L R S E
  have k := k p e s m args below meth c H locs Q la F hlen L R S E
  obtain ⟨a0, aN, ash⟩ := hA
  have hn := zsh_n a.toNat
  rw [ash] at hn
  have ea : ((a.toNat : Nat) : Int) = a := Int.toNat_of_nonneg a0
  have hC := R.2.2.2 a.toNat (by omega)
  rw [zC_ar ash, ea] at hC
  obtain ⟨cA, q1, q2, q3⟩ := hC
  show W p g.1 e X.rm s m args below meth c H locs kc ks Q (F0 m pc la (.int (Int32.ofInt i) :: zT g (zr a) :: st.map (zT g)))
  rw [zT_r g a0, zAd_lt g (by have := R.1; omega)]
  obtain ⟨e1, e2⟩ := zix hi hn
  refine W.zald (v := zT g (0, z)) F.1 F.2.1 q3 (q1 n _) (fun q => by cases q) (by rw [arrV_size]; exact e2) ?_ rfl rfl hd k
  rw [e1, arrV_read _ _ (by omega), show ((i.toNat : Nat) : Int) = i by omega, hz]
  rfl
theorem zV_aald {a i z : Int} {t n : Nat} (hd : decode X.cc pc = .ok (.aaload, 1)) (hA : zAr N a t n) (ht : (zet t).isReference = true ∧ zeg t = 2) (hi : 0 ≤ i ∧ i < n) (hz : M a i = z) (k : zV g X P (pc + 1) ls (zr z :: st) N M kc ks) : zV g X P pc ls (zi i :: zr a :: st) N M kc ks := by
  intro p e s m args below meth c H locs Q la F hlen L R S E
  have k := k p e s m args below meth c H locs Q la F hlen L R S E
  obtain ⟨a0, aN, ash⟩ := hA
  have hn := zsh_n a.toNat
  rw [ash] at hn
  have ea : ((a.toNat : Nat) : Int) = a := Int.toNat_of_nonneg a0
  have hC := R.2.2.2 a.toNat (by omega)
  rw [zC_ar ash, ea] at hC
  obtain ⟨cA, q1, q2, q3⟩ := hC
  show W p g.1 e X.rm s m args below meth c H locs kc ks Q (F0 m pc la (.int (Int32.ofInt i) :: zT g (zr a) :: st.map (zT g)))
  rw [zT_r g a0, zAd_lt g (by have := R.1; omega)]
  obtain ⟨e1, e2⟩ := zix hi hn
  refine W.aald (v := zT g (zr z)) (ty := zet t) F.1 F.2.1 q3 (q1 n _) ht.1 (fun q => by cases q) (by rw [arrV_size]; exact e2) ?_ rfl rfl hd k
  rw [e1, arrV_read _ _ (by omega), show ((i.toNat : Nat) : Int) = i by omega, hz, ht.2]
theorem zV_alen {a : Int} {t n : Nat} (hd : decode X.cc pc = .ok (.arraylength, 1)) (hA : zAr N a t n) (k : zV g X P (pc + 1) ls (zi n :: st) N M kc ks) : zV g X P pc ls (zr a :: st) N M kc ks := by
  intro p e s m args below meth c H locs Q la F hlen L R S E
  have k := k p e s m args below meth c H locs Q la F hlen L R S E
  obtain ⟨a0, aN, ash⟩ := hA
  have hC := R.2.2.2 a.toNat (by omega)
  rw [zC_ar ash] at hC
  obtain ⟨cA, q1, q2, q3⟩ := hC
  show W p g.1 e X.rm s m args below meth c H locs kc ks Q (F0 m pc la (zT g (zr a) :: st.map (zT g)))
  rw [zT_r g a0, zAd_lt g (by have := R.1; omega)]
  exact W.alen (n := Int32.ofInt n) F.1 F.2.1 q3 (q1 n _) (by rw [arrV_size]; exact Int32.ofInt_eq_ofNat.symm) rfl rfl hd k
theorem zV_iast {a i z : Int} {n : Nat} (hd : decode X.cc pc = .ok (.iastore, 1)) (hA : zAr N a 0 n) (hi : 0 ≤ i ∧ i < n) (k : zV g X P (pc + 1) ls st N (zU M a i z) kc ks) : zV g X P pc ls (zi z :: zi i :: zr a :: st) N M kc ks := by
  intro p e s m args below meth c H locs Q la F hlen L R S E
  obtain ⟨a0, aN, ash⟩ := id hA
  have hn := zsh_n a.toNat
  rw [ash] at hn
  have ea : ((a.toNat : Nat) : Int) = a := Int.toNat_of_nonneg a0
  have hC := R.2.2.2 a.toNat (by omega)
  rw [zC_ar ash, ea] at hC
  obtain ⟨cA, q1, q2, q3⟩ := hC
  show W p g.1 e X.rm s m args below meth c H locs kc ks Q (F0 m pc la (.int (Int32.ofInt z) :: .int (Int32.ofInt i) :: zT g (zr a) :: st.map (zT g)))
  rw [zT_r g a0, zAd_lt g (by have := R.1; omega)]
  obtain ⟨e1, e2⟩ := zix hi hn
  refine W.iast F.1 F.2.1 q3 (q1 n _) (fun q => by cases q) (by rw [arrV_size]; exact e2) rfl rfl hd fun H1 z1 z2 z3 => ?_
  rw [e1] at z1 ⊢
  exact k p e s m args below meth c H1 _ Q la F hlen L (zR_ast hA hi R q1 q2 z1 z2 z3) (S.put z2 z3 (by show g.2.2.2.1 ≤ _; omega)) E
theorem zV_zast {a i z : Int} {n : Nat} (hd : decode X.cc pc = .ok (.bastore, 1)) (hA : zAr N a 1 n) (hi : 0 ≤ i ∧ i < n) (hz : z = 0 ∨ z = 1) (k : zV g X P (pc + 1) ls st N (zU M a i z) kc ks) : zV g X P pc ls (zi z :: zi i :: zr a :: st) N M kc ks := by
  intro p e s m args below meth c H locs Q la F hlen L R S E
  obtain ⟨a0, aN, ash⟩ := id hA
  have hn := zsh_n a.toNat
  rw [ash] at hn
  have ea : ((a.toNat : Nat) : Int) = a := Int.toNat_of_nonneg a0
  have hC := R.2.2.2 a.toNat (by omega)
  rw [zC_ar ash, ea] at hC
  obtain ⟨cA, q1, q2, q3⟩ := hC
  show W p g.1 e X.rm s m args below meth c H locs kc ks Q (F0 m pc la (.int (Int32.ofInt z) :: .int (Int32.ofInt i) :: zT g (zr a) :: st.map (zT g)))
  rw [zT_r g a0, zAd_lt g (by have := R.1; omega)]
  obtain ⟨e1, e2⟩ := zix hi hn
  refine W.zast F.1 F.2.1 q3 (q1 n _) (fun q => by cases q) (by rw [arrV_size]; exact e2) rfl rfl hd fun H1 z1 z2 z3 => ?_
  rw [e1] at z1 ⊢
  have hnz : narrow .boolean (.int (Int32.ofInt z)) = .int (Int32.ofInt z) := by rcases hz with rfl | rfl <;> rfl
  rw [hnz] at z1
  exact k p e s m args below meth c H1 _ Q la F hlen L (zR_ast hA hi R q1 q2 z1 z2 z3) (S.put z2 z3 (by show g.2.2.2.1 ≤ _; omega)) E
theorem zV_aast {a i v : Int} {t n ci : Nat} (hd : decode X.cc pc = .ok (.aastore, 1)) (hA : zAr N a t n) (ht : zet t = .object (zcl ci).1 ∧ zeg t = 2 ∧ ci < 11) (hi : 0 ≤ i ∧ i < n) (hO : zOb N v ci) (k : zV g X P (pc + 1) ls st N (zU M a i v) kc ks) : zV g X P pc ls (zr v :: zi i :: zr a :: st) N M kc ks := by
  intro p e s m args below meth c H locs Q la F hlen L R S E
  obtain ⟨a0, aN, ash⟩ := id hA
  obtain ⟨v0, vN, vsh⟩ := hO
  obtain ⟨t1, t2, t3⟩ := ht
  have hn := zsh_n a.toNat
  rw [ash] at hn
  have ea : ((a.toNat : Nat) : Int) = a := Int.toNat_of_nonneg a0
  have hC := R.2.2.2 a.toNat (by omega)
  rw [zC_ar ash, ea] at hC
  obtain ⟨cA, q1, q2, q3⟩ := hC
  have hV := R.2.2.2 v.toNat (by omega)
  rw [zC_ob vsh] at hV
  obtain ⟨cellV, g1, g2, g3, -⟩ := hV
  have hcls := (R.2.2.1 ci _ (zcl_at t3)).2
  have q2' := q2
  rw [t1] at q2'
  obtain ⟨kA, comp, k1, k2, k3, -⟩ := q2'
  have hcomp : comp = g.2.1 ci := Option.some.inj (k3.symm.trans hcls.1)
  subst hcomp
  obtain ⟨kC, hkC, -⟩ := hcls.2
  show W p g.1 e X.rm s m args below meth c H locs kc ks Q (F0 m pc la (zT g (zr v) :: .int (Int32.ofInt i) :: zT g (zr a) :: st.map (zT g)))
  rw [zT_r g a0, zT_r g v0, zAd_lt g (by have := R.1; omega), zAd_lt g (by have := R.1; omega)]
  obtain ⟨e1, e2⟩ := zix hi hn
  refine W.aast F.1 F.2.1 q3 (fun q h => by cases h) (fun h => by cases h) k1 k2 rfl hkC ⟨fun q => e2 (Or.inl q), by rw [arrV_size, e1]; omega⟩ g1 (fun q h => by rw [g3] at h; cases h) (by rw [g2]; exact hkC) (by rw [g2]; exact va_assign hcls) rfl rfl hd fun H1 z1 z2 z3 => ?_
  rw [e1] at z1 ⊢
  refine k p e s m args below meth c H1 _ Q la F hlen L (zR_ast hA hi R q1 q2 ?_ z2 z3) (S.put z2 z3 (by show g.2.2.2.1 ≤ _; omega)) E
  rw [z1, t2, zT_r g v0, zAd_lt g (by have := R.1; omega)]
/-! what is made -/
def zdf (ty : FieldType) : Int := if ztg ty = 2 then -1 else 0
theorem zdf_v (g : zG) {ty : FieldType} (h : zfty ty 0) : zT g (ztg ty, zdf ty) = defaultValue ty := by
  cases ty <;> first | exact h.elim | rfl
theorem zR_new {s : State} {H H1 : Heap} {f : Int → Int} (R : zR g s N M H) (hN : N + 1 < 1000000) (e2 : H1.size = g.2.2.2.1 + N + 1) (e3 : ∀ q : Nat, q < g.2.2.2.1 + N → H1[q]? = H[q]?) (hC : zC g s N f H1) : zR g s (N + 1) (zNw M N f) H1 := by
  refine ⟨hN, by omega, R.2.2.1, fun k hk => ?_⟩
  by_cases hkN : k = N
  · subst hkN
    have hf : zNw M (k : Int) f (k : Int) = f := by
      funext j
      exact zNw_s M _ f j
    rw [hf]
    exact hC
  · have hf : zNw M (N : Int) f (k : Int) = M (k : Int) := by
      funext j
      exact zNw_a M _ f (by omega)
    rw [hf]
    exact (R.2.2.2 k (by omega)).kept (e3 _ (by omega))
theorem zV_new {idx ci : Nat} (hd : decode X.cc pc = .ok (.new idx, 3)) (hci : ci < 11) (hc : Cond.classLink X.own idx (zcl ci).1 ∈ zTb) (hin : Cond.instantiable (zcl ci).1 (zcl ci).2.2 ∈ zTb) (hini : Cond.initialized (zcl ci).1 ∈ zTb) (hsh : zsh N = (0, ci, 0)) (hty : ∀ k, k < (zcl ci).2.2 → zfty (zty ci k) 0) (hN : N + 1 < 1000000) (hb : kc + 1 ≤ X.rm.cells ∧ ks + (zcl ci).2.2 ≤ X.rm.slots)
    (k : zV g X P (pc + 3) ls (zr N :: st) (N + 1) (zNw M N (fun j => zdf (zty ci j.toNat))) (kc + 1) (ks + (zcl ci).2.2)) : zV g X P pc ls st N M kc ks := by
  intro p e s m args below meth c H locs Q la F hlen L R S E
  have hKn := R.2.2.1 ci _ (zcl_at hci)
  refine W.newcK F.1 F.2.1 F.2.2.2.1 (F.2.2.2.2.1 _ hc) (F.2.2.2.2.1 _ hin) (F.2.2.2.2.1 _ hini) rfl hd hb.1 hb.2 hKn.2.1 R.2.1 fun H1 kC hkC e1 z1 o1 => ?_
  have k := k p e s m args below meth c H1 locs Q la F hlen L (zR_new R hN z1 o1 ?_) ⟨Nat.le_trans S.1 (by rw [z1, R.2.1]; omega), fun q h1 h2 => (o1 q (Nat.lt_of_lt_of_le h1 (by rw [← R.2.1]; exact S.1))).trans (S.2.1 q h1 h2), S.2.2⟩ E
  · have k : W p g.1 e X.rm s m args below meth c H1 locs (kc + 1) (ks + (zcl ci).2.2) Q (F0 m (pc + 3) la (zT g (zr N) :: st.map (zT g))) := k
    rw [zT_r g (by omega), zAd_in g N (by omega)] at k
    exact k
  · rw [zC_ob hsh]
    refine (u_born (zty ci) F.2.2.2.2.1 (zws hci) hKn hkC e1 (zty_ok hci)).to (fun j hj => ?_)
    rw [← zdf_v g (hty j hj), Int.toNat_natCast]
theorem zV_newa {atype : ArrayType} {n : Int} {t L0 : Nat} (hd : decode X.cc pc = .ok (.newarray atype, 2)) (hat : newarray.typeOf atype = zet t) (hc : Cond.arrayClass (newarray.typeOf atype) ∈ zTb) (ht : t ≤ 1) (hn : n = L0) (hL : L0 ≤ 1000) (hsh : zsh N = (1, t, L0)) (hN : N + 1 < 1000000) (hb : kc + 1 ≤ X.rm.cells ∧ ks + L0 ≤ X.rm.slots)
    (k : zV g X P (pc + 2) ls (zr N :: st) (N + 1) (zNw M N (fun _ => 0)) (kc + 1) (ks + L0)) : zV g X P pc ls (zi n :: st) N M kc ks := by
  intro p e s m args below meth c H locs Q la F hlen L R S E
  have e0 : (Int32.ofInt n).toNatClampNeg = L0 := by
    show (Int32.ofInt n).toInt.toNat = _
    rw [zw_eq, zw_id (by omega)]
    omega
  refine va_newaK F.1 F.2.1 (F.2.2.2.2.1 _ hc) rfl hd rfl (n := Int32.ofInt n) ?_ e0 ?_ hb.1 hb.2 R.2.1 fun H1 cA e1 z1 o1 hAr hNm => ?_
  · rw [show (0 : Int32) = Int32.ofInt 0 from rfl, zw_lt, zw_id (by omega), zw_id (by omega)]
    omega
  · have : componentBytes (newarray.typeOf atype) ≤ 8 := by cases atype <;> exact Nat.le_of_ble_eq_true rfl
    calc L0 * componentBytes (newarray.typeOf atype) ≤ 1000 * 8 := Nat.mul_le_mul hL this
      _ ≤ _ := Nat.le_of_ble_eq_true rfl
  have k := k p e s m args below meth c H1 locs Q la F hlen L (zR_new R hN z1 o1 ?_) ⟨Nat.le_trans S.1 (by rw [z1, R.2.1]; omega), fun q h1 h2 => (o1 q (Nat.lt_of_lt_of_le h1 (by rw [← R.2.1]; exact S.1))).trans (S.2.1 q h1 h2), S.2.2⟩ E
  · have k : W p g.1 e X.rm s m args below meth c H1 locs (kc + 1) (ks + L0) Q (F0 m (pc + 2) la (zT g (zr N) :: st.map (zT g))) := k
    rw [zT_r g (by omega), zAd_in g N (by omega)] at k
    exact k
  · rw [zC_ar hsh]
    rw [hat] at hAr hNm e1
    refine ⟨cA, hAr, ?_, ?_⟩
    · rcases (show t = 0 ∨ t = 1 by omega) with rfl | rfl <;> exact hNm
    · rw [e1]
      rcases (show t = 0 ∨ t = 1 by omega) with rfl | rfl <;> rfl
theorem zV_anew {idx : Nat} {n : Int} {t L0 ci : Nat} (hd : decode X.cc pc = .ok (.anewarray idx, 3)) (hci : ci < 11) (hat : zet t = .object (zcl ci).1) (hg : zeg t = 2) (hc : Cond.classLink X.own idx (zcl ci).1 ∈ zTb) (hov : Cond.arrayOver (.object (zcl ci).1) ∈ zTb) (hn : n = L0) (hL : L0 ≤ 1000) (hsh : zsh N = (1, t, L0)) (hN : N + 1 < 1000000) (hb : kc + 1 ≤ X.rm.cells ∧ ks + L0 ≤ X.rm.slots)
    (k : zV g X P (pc + 3) ls (zr N :: st) (N + 1) (zNw M N (fun _ => -1)) (kc + 1) (ks + L0)) : zV g X P pc ls (zi n :: st) N M kc ks := by
  intro p e s m args below meth c H locs Q la F hlen L R S E
  have e0 : (Int32.ofInt n).toNatClampNeg = L0 := by
    show (Int32.ofInt n).toInt.toNat = _
    rw [zw_eq, zw_id (by omega)]
    omega
  refine W.anew F.1 F.2.1 F.2.2.2.1 (F.2.2.2.2.1 _ hc) (F.2.2.2.2.1 _ hov) rfl hd (n := Int32.ofInt n) rfl ?_ (by rw [e0]; omega) hb.1 (by rw [e0]; exact hb.2) fun cA kA comp f1 f2 f3 f4 => ?_
  · rw [show (0 : Int32) = Int32.ofInt 0 from rfl, zw_lt, zw_id (by omega), zw_id (by omega)]
    omega
  rw [e0, R.2.1]
  generalize hH1 : H.push ({ cls := cA, slots := Array.replicate L0 .null, vm := .none } : Cell) = H1
  have z1 : H1.size = g.2.2.2.1 + N + 1 := by rw [← hH1, Array.size_push, R.2.1]
  have e1 : H1[g.2.2.2.1 + N]? = some (arrV cA L0 (fun _ => .null)) := by rw [← hH1, ← R.2.1, Array.getElem?_push_size, ← arrV_new]
  have o1 : ∀ q : Nat, q < g.2.2.2.1 + N → H1[q]? = H[q]? := fun q hq => by rw [← hH1, Array.getElem?_push, if_neg (by rw [R.2.1]; exact Nat.ne_of_lt hq)]
  have hAr : ArrOfT s cA (.object (zcl ci).1) := fun N z => ⟨(fun k h => by cases h), kA, f2, comp, f3⟩
  have k := k p e s m args below meth c H1 locs Q la F hlen L (zR_new R hN z1 o1 ?_) ⟨Nat.le_trans S.1 (by rw [z1, R.2.1]; omega), fun q h1 h2 => (o1 q (Nat.lt_of_lt_of_le h1 (by rw [← R.2.1]; exact S.1))).trans (S.2.1 q h1 h2), S.2.2⟩ E
  · have k : W p g.1 e X.rm s m args below meth c H1 locs (kc + 1) (ks + L0) Q (F0 m (pc + 3) la (zT g (zr N) :: st.map (zT g))) := k
    rw [zT_r g (by omega), zAd_in g N (by omega)] at k
    exact k
  · rw [zC_ar hsh, hat, hg]
    exact ⟨cA, hAr, ⟨kA, comp, f2, f3, f4, f1⟩, e1⟩
end
