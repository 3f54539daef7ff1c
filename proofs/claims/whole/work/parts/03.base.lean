/-! THE SMALL MACHINE: values are (kind, number): kind 0 an int, 1 a long, 2 a reference (a place; below 0: null). Memory: place, slot ↦ number. -/
abbrev zv : Type := Nat × Int
abbrev zi (z : Int) : zv := (0, z)
abbrev zl (z : Int) : zv := (1, z)
abbrev zr (z : Int) : zv := (2, z)
abbrev zM : Type := Int → Int → Int
/-- launch, class numbers, slots of fields, first address, addresses of what is old (texts, the script) -/
abbrev zG : Type := Launch × (Nat → ClassId) × (Nat → Nat → Nat) × Nat × (Nat → Nat)
def zAd (g : zG) (z : Int) : Nat := if z < 1000000 then g.2.2.2.1 + z.toNat else g.2.2.2.2 (z.toNat - 1000000)
def zT (g : zG) (v : zv) : Value := match v.1 with
  | 0 => .int (Int32.ofInt v.2)
  | 1 => .long (Int64.ofInt v.2)
  | _ => if v.2 < 0 then .null else .ref (zAd g v.2)
theorem zT_i (g : zG) (z : Int) : zT g (zi z) = .int (Int32.ofInt z) := rfl
theorem zT_l (g : zG) (z : Int) : zT g (zl z) = .long (Int64.ofInt z) := rfl
theorem zT_r (g : zG) {a : Int} (h : 0 ≤ a) : zT g (zr a) = .ref (zAd g a) := by
  show (if a < 0 then Value.null else .ref (zAd g a)) = _
  rw [if_neg (by omega)]
theorem zAd_in (g : zG) (k : Nat) (h : k < 1000000) : zAd g (k : Int) = g.2.2.2.1 + k := by
  unfold zAd
  rw [if_pos (by omega), Int.toNat_natCast]
theorem zAd_lt (g : zG) {a : Int} (h : a < 1000000) : zAd g a = g.2.2.2.1 + a.toNat := by
  unfold zAd
  rw [if_pos h]
theorem zT_cat (g : zG) (v : zv) (h : v.1 ≠ 1) : (zT g v).category = 1 := by
  obtain ⟨t, z⟩ := v
  match t, h with
  | 0, _ => rfl
  | 1, h => exact absurd rfl h
  | (n + 2), _ =>
    show (if z < 0 then Value.null else .ref (zAd g z)).category = 1
    split <;> rfl
/-! what is where: (0, class, 0): an object; (1, kind of elements, length): an array -/
def zshL : List (Nat × Nat × Nat) := [(0, 9, 0), (0, 5, 0), (1, 2, 6), (0, 8, 0), (0, 8, 0), (0, 8, 0), (0, 8, 0), (0, 8, 0), (0, 8, 0), (0, 5, 0), (1, 2, 6), (0, 8, 0), (0, 8, 0), (0, 8, 0), (0, 8, 0), (0, 8, 0), (0, 8, 0),
  (1, 3, 6), (0, 3, 0), (1, 0, 160), (0, 2, 0), (0, 1, 0), (1, 0, 20), (1, 1, 400), (0, 8, 0), (1, 4, 4),
  (0, 7, 0), (1, 0, 160), (1, 0, 3), (0, 7, 0), (1, 0, 160), (1, 0, 3), (0, 7, 0), (1, 0, 160), (1, 0, 3), (0, 7, 0), (1, 0, 160), (1, 0, 3), (0, 7, 0), (1, 0, 160), (1, 0, 3), (0, 7, 0), (1, 0, 160), (1, 0, 3),
  (0, 6, 0), (1, 0, 40), (0, 6, 0), (1, 0, 40), (0, 6, 0), (1, 0, 40), (0, 6, 0), (1, 0, 40), (0, 0, 0), (0, 4, 0), (1, 0, 6), (1, 0, 31), (0, 8, 0), (1, 0, 400),
  (0, 10, 0), (1, 0, 960), (1, 0, 6), (1, 0, 160), (1, 0, 6), (1, 0, 6), (1, 0, 6), (1, 0, 6), (1, 0, 400), (1, 0, 400), (1, 0, 400), (1, 1, 400), (1, 0, 18), (1, 1, 4), (1, 0, 4), (1, 0, 4), (1, 0, 160)]
def zsh (k : Nat) : Nat × Nat × Nat := zshL.getD k (9, 0, 0)
def zet (t : Nat) : FieldType := match t with
  | 0 => .int
  | 1 => .boolean
  | 2 => .object "EveryNinth$Thing"
  | 3 => .object "EveryNinth$Text"
  | _ => .object "EveryNinth$Sheet"
def zeg (t : Nat) : Nat := match t with
  | 0 => 0
  | 1 => 0
  | _ => 2
def zty (ci : Nat) : Nat → FieldType := match ci with
  | 0 => tyX0
  | 1 => tyX1
  | 2 => tyX2
  | 3 => tyX3
  | 4 => tyX4
  | 5 => tyX5
  | 6 => tyX6
  | 7 => tyX7
  | 8 => tyX8
  | 9 => tyX9
  | _ => tyX10
def ztg (t : FieldType) : Nat := match t with
  | .int => 0
  | .boolean => 0
  | .long => 1
  | _ => 2
def zcl (ci : Nat) : vw_C := vwCl.getD ci (RX0, TX0, 6)
def zC (g : zG) (U : State) (k : Nat) (f : Int → Int) (H : Heap) : Prop := match (zsh k).1 with
  | 0 => t_OB (g.2.2.2.1 + k) (g.2.1 (zsh k).2.1) (zcl (zsh k).2.1).2.2 (g.2.2.1 (zsh k).2.1) H (fun j => zT g (ztg (zty (zsh k).2.1 j), f (j : Int)))
  | 1 => ∃ cA : ClassId, ArrOfT U cA (zet (zsh k).2.1) ∧ va_RA U cA (zet (zsh k).2.1) ∧ H[g.2.2.2.1 + k]? = some (arrV cA (zsh k).2.2 (fun j => zT g (zeg (zsh k).2.1, f (j : Int))))
  | _ => True
/-- what the tables say of the classes -/
def zKn (g : zG) (U : State) : Prop := ∀ (ci : Nat) (q : vw_C), vwCl[ci]? = some q → u_Kn U q.1 q.2.1 q.2.2 (g.2.1 ci) (g.2.2.1 ci)
def zR (g : zG) (U : State) (N : Nat) (M : zM) (H : Heap) : Prop := N < 1000000 ∧ H.size = g.2.2.2.1 + N ∧ zKn g U ∧ ∀ k : Nat, k < N → zC g U k (M (k : Int)) H
theorem zC.moved {g : zG} {u U : State} {k : Nat} {f : Int → Int} {H : Heap} (hvm : u.vm.Alike U.vm) (h : zC g u k f H) : zC g U k f H := by
  unfold zC at h ⊢
  split at h
  · exact h
  · obtain ⟨cA, h1, h2, h3⟩ := h
    exact ⟨cA, arrOfT_moved hvm h1, h2.moved hvm, h3⟩
  · trivial
theorem zC.kept {g : zG} {U : State} {k : Nat} {f : Int → Int} {H H1 : Heap} (h : zC g U k f H) (hq : H1[g.2.2.2.1 + k]? = H[g.2.2.2.1 + k]?) : zC g U k f H1 := by
  unfold zC at h ⊢
  split at h
  · exact h.kept hq
  · obtain ⟨cA, h1, h2, h3⟩ := h
    exact ⟨cA, h1, h2, hq.trans h3⟩
  · trivial
theorem zR.moved {g : zG} {u U : State} {N : Nat} {M : zM} {H : Heap} (hvm : u.vm.Alike U.vm) (h : zR g u N M H) : zR g U N M H :=
  ⟨h.1, h.2.1, fun ci q hq => u_Kn_moved hvm (h.2.2.1 ci q hq), fun k hk => (h.2.2.2 k hk).moved hvm⟩
/-! the texts of the class -/
def nJS : Nat := 14
def ownJS : List String := ["EveryNinth", "EveryNinth$Reader", "EveryNinth$Reader", "EveryNinth$Reader", "EveryNinth$Reader", "EveryNinth$Reader", "EveryNinth$Reader", "EveryNinth$Reader", "EveryNinth$Reader", "EveryNinth$Reader", "EveryNinth$Reader", "EveryNinth$Reader", "EveryNinth$Reader", "EveryNinth$Reader"]
def idxJS : List Nat := [61, 121, 123, 125, 127, 129, 131, 133, 135, 137, 139, 141, 143, 98]
def txtJS : List String := ["costs 1 ; crowds many * many ; minds rest ;", "day", "thing", "many", "period", "rest", "number", "costs", "crowds", "minds", "or", "and", "not", "();+-*<="]
def bytJS : List (List Int32) := [[99, 111, 115, 116, 115, 32, 49, 32, 59, 32, 99, 114, 111, 119, 100, 115, 32, 109, 97, 110, 121, 32, 42, 32, 109, 97, 110, 121, 32, 59, 32, 109, 105, 110, 100, 115, 32, 114, 101, 115, 116, 32, 59],
  [100, 97, 121], [116, 104, 105, 110, 103], [109, 97, 110, 121], [112, 101, 114, 105, 111, 100], [114, 101, 115, 116], [110, 117, 109, 98, 101, 114], [99, 111, 115, 116, 115], [99, 114, 111, 119, 100, 115], [109, 105, 110, 100, 115], [111, 114], [97, 110, 100], [110, 111, 116], [40, 41, 59, 43, 45, 42, 60, 61]]
def lenJS : List Nat := [43, 3, 5, 4, 6, 4, 6, 5, 6, 5, 2, 3, 3, 8]
def tmJS (i : Nat) : Term := .string (ownJS.getD i "") (idxJS.getD i 0)
/-- the script: at address 300 of what is old, its length at 301, its ints from 1000 on -/
def zScr (g : zG) (U : State) (H : Heap) : Prop := va_X (g.2.2.2.2 300) (g.2.2.2.2 301) (fun j => Int32.ofInt (g.2.2.2.2 (1000 + j) : Nat)) U H ∧ g.2.2.2.2 300 < g.2.2.2.1
/-- the texts' cells, in a heap; what the tables say of them -/
def zS (g : zG) (U : State) (H : Heap) : Prop := vk_S nJS lenJS bytJS g.2.2.2.2 (fun i => g.2.2.2.2 (100 + i)) (fun q => g.2.2.2.1 ≤ q) U H ∧ (∀ i : Nat, i < nJS → vk_R (ownJS.getD i "") (idxJS.getD i 0) (txtJS.getD i "") (g.2.2.2.2 i) U) ∧ va_Z "java/lang/String" "COMPACT_STRINGS" "Z" (.int 1) (fun q => g.2.2.2.1 ≤ q) U H ∧ ∃ z : Int, va_Z "jdk/internal/util/Preconditions" "SIOOBE_FORMATTER" "Ljava/util/function/BiFunction;" (zT g (zr z)) (fun q => g.2.2.2.1 ≤ q) U H ∧ zScr g U H
theorem zS.on {g : zG} {s U : State} {H1 : Heap} (hW : s.WarmedH U.vm) (h : zS g s s.heap) (hq : ∀ a : Nat, a < s.heap.size → ¬ g.2.2.2.1 ≤ a → H1[a]? = s.heap[a]?) : zS g U H1 := by
  obtain ⟨h1, h2, h3, z, h4, ⟨scr, e1, e2⟩, e3⟩ := h
  exact ⟨(h1.moved hW.alike).kept hq, fun i hi => (h2 i hi).warm hW, (h3.moved hW.alike).kept hq, z, (h4.moved hW.alike).kept hq, (va_X.moved hW.alike ⟨scr, e1, e2⟩).kept (hq _ (Array.getElem?_eq_some_iff.mp e1).1 (by omega)), e3⟩
/-! a method: class, code, locals, room, what it returns, whether it is a constructor -/
abbrev zX : Type := String × ByteArray × Nat × Room × Option FieldType × Bool
def zrm (d mc ms : Nat) : Room := { frames := d, cells := mc, slots := ms, locals := 64 * d }
abbrev zX.own (X : zX) : String := X.1
abbrev zX.cc (X : zX) : ByteArray := X.2.1
abbrev zX.nL (X : zX) : Nat := X.2.2.1
abbrev zX.rm (X : zX) : Room := X.2.2.2.1
abbrev zX.ret (X : zX) : Option FieldType := X.2.2.2.2.1
abbrev zX.ini (X : zX) : Bool := X.2.2.2.2.2
/-- what holds of a method that runs: machine, code, tables, texts -/
def zF (g : zG) (X : zX) (p : Program) (s : State) (m : MethodId) (args : Array Value) (meth : Method) (c : Code) : Prop :=
  p.tables.exec = Jvm.exec ∧ c.code = X.cc ∧ c.maxLocals = X.nL ∧ s.vm.findClass X.own = some m.cls ∧ (∀ w ∈ zTb, w.before args s = true) ∧ zS g s s.heap ∧ (X.ini = true → meth.name = "<init>")
/-- the locals -/
def zas (g : zG) (ls : List zv) : List (Nat × Value) := (List.range ls.length).filterMap (fun i => match ls[i]? with
  | some v => if v.1 < 3 then some (i, zT g v) else none
  | none => none)
def zL (g : zG) (la : Array Slot) (ls : List zv) : Prop := lv_has la ls.length (zas g ls)
theorem zas_mem {g : zG} {ls : List zv} {i : Nat} {x : Value} : (i, x) ∈ zas g ls ↔ ∃ v, ls[i]? = some v ∧ v.1 < 3 ∧ x = zT g v := by
  unfold zas
  rw [List.mem_filterMap]
  constructor
  · rintro ⟨j, hj, he⟩
    cases hv : ls[j]? with
    | none => rw [hv] at he; cases he
    | some v =>
      rw [hv] at he
      by_cases h3 : v.1 < 3
      · simp only [h3, if_true, Option.some.injEq, Prod.mk.injEq] at he
        obtain ⟨rfl, rfl⟩ := he
        exact ⟨v, hv, h3, rfl⟩
      · simp [h3] at he
  · rintro ⟨v, hv, h3, rfl⟩
    refine ⟨i, List.mem_range.mpr (List.getElem?_eq_some_iff.mp hv).1, ?_⟩
    simp [hv, h3]
theorem zL.at {g : zG} {la : Array Slot} {ls : List zv} (h : zL g la ls) {i : Nat} {v : zv} (hv : ls[i]? = some v) (h3 : v.1 < 3) : la[i]? = some (.val (zT g v)) := h.2.2 (i, zT g v) (zas_mem.mpr ⟨v, hv, h3, rfl⟩)
theorem zT_cat2 (g : zG) (v : zv) (h : (zT g v).category = 2) : v.1 = 1 := by
  by_cases h1 : v.1 = 1
  · exact h1
  · rw [zT_cat g v h1] at h
    omega
theorem zL.set1 {g : zG} {la : Array Slot} {ls : List zv} {i : Nat} {v : zv} (h1 : ∀ u, 0 < i → ls[i - 1]? = some u → u.1 ≠ 1) {n : Nat} (hn : n = ls.length)
    (h : lv_has la n ((i, zT g v) :: (zas g ls).filter (fun q => !(q.1 == i) && !(q.1 + 1 == i && q.2.category == 2)))) : zL g la (ls.set i v) := by
  subst hn
  obtain ⟨a, b, c⟩ := h
  refine ⟨by rw [a, List.length_set], b, ?_⟩
  rintro ⟨j, x⟩ hq
  obtain ⟨u, hu, h3, rfl⟩ := zas_mem.mp hq
  by_cases hj : j = i
  · subst hj
    have : u = v := by
      rw [List.getElem?_set_self (by have := (List.getElem?_eq_some_iff.mp hu).1; rw [List.length_set] at this; exact this)] at hu
      exact (Option.some.inj hu).symm
    subst this
    exact c _ List.mem_cons_self
  · rw [List.getElem?_set_ne (fun e => hj e.symm)] at hu
    refine c _ (List.mem_cons_of_mem _ (List.mem_filter.mpr ⟨zas_mem.mpr ⟨u, hu, h3, rfl⟩, ?_⟩))
    have hne : ¬ (j + 1 = i ∧ (zT g u).category = 2) := by
      rintro ⟨e1, e2⟩
      exact h1 u (by omega) (by rw [← e1]; exact hu) (zT_cat2 g u e2)
    simp only [Bool.and_eq_true, Bool.not_eq_true', beq_eq_false_iff_ne, ne_eq, Bool.and_eq_false_iff]
    refine ⟨hj, ?_⟩
    by_cases e1 : j + 1 = i
    · exact Or.inr (fun e2 => hne ⟨e1, e2⟩)
    · exact Or.inl e1
theorem zL.set2 {g : zG} {la : Array Slot} {ls : List zv} {i : Nat} {v w : zv} (hw : w.1 = 3) (h1 : ∀ u, 0 < i → ls[i - 1]? = some u → u.1 ≠ 1) {n : Nat} (hn : n = ls.length)
    (h : lv_has la n ((i, zT g v) :: (zas g ls).filter (fun q => !(q.1 == i) && (!(q.1 == i + 1) && !(q.1 + 1 == i && q.2.category == 2))))) : zL g la ((ls.set i v).set (i + 1) w) := by
  subst hn
  obtain ⟨a, b, c⟩ := h
  refine ⟨by rw [a, List.length_set, List.length_set], b, ?_⟩
  rintro ⟨j, x⟩ hq
  obtain ⟨u, hu, h3, rfl⟩ := zas_mem.mp hq
  by_cases hk : j = i + 1
  · subst hk
    rw [List.getElem?_set_self (by have := (List.getElem?_eq_some_iff.mp hu).1; rw [List.length_set] at this; exact this)] at hu
    have : u = w := (Option.some.inj hu).symm
    subst this
    omega
  · rw [List.getElem?_set_ne (fun e => hk e.symm)] at hu
    by_cases hj : j = i
    · subst hj
      have : u = v := by
        rw [List.getElem?_set_self (by have := (List.getElem?_eq_some_iff.mp hu).1; rw [List.length_set] at this; exact this)] at hu
        exact (Option.some.inj hu).symm
      subst this
      exact c _ List.mem_cons_self
    · rw [List.getElem?_set_ne (fun e => hj e.symm)] at hu
      refine c _ (List.mem_cons_of_mem _ (List.mem_filter.mpr ⟨zas_mem.mpr ⟨u, hu, h3, rfl⟩, ?_⟩))
      have hne : ¬ (j + 1 = i ∧ (zT g u).category = 2) := by
        rintro ⟨e1, e2⟩
        exact h1 u (by omega) (by rw [← e1]; exact hu) (zT_cat2 g u e2)
      simp only [Bool.and_eq_true, Bool.not_eq_true', beq_eq_false_iff_ne, ne_eq, Bool.and_eq_false_iff]
      refine ⟨hj, hk, ?_⟩
      by_cases e1 : j + 1 = i
      · exact Or.inr (fun e2 => hne ⟨e1, e2⟩)
      · exact Or.inl e1
/-- what an instruction that returns is, for an answer; whether the answer is of the method's kind -/
def zri (v : Option zv) : Instr := match v with
  | none => .return_
  | some (0, _) => .ireturn
  | some (1, _) => .lreturn
  | some _ => .areturn
def zok (r : Option FieldType) (v : Option zv) : Prop := match r, v with
  | none, none => True
  | some .int, some (0, _) => True
  | some .boolean, some (0, z) => z = 0 ∨ z = 1
  | some .char, some (0, z) => 0 ≤ z ∧ z ≤ 65535
  | some .byte, some (0, z) => z = 0
  | some .long, some (1, _) => True
  | some (.object _), some (2, z) => 0 ≤ z
  | _, _ => False
abbrev zP : Type := Option zv → Nat → zM → Prop
/-- where a return goes on -/
def zH (g : zG) (X : zX) (P : zP) (p : Program) (e : Env) (s : State) (m : MethodId) (args : Array Value) (below : List Frame) (meth : Method) (c : Code) (Q : State → Prop) : Prop :=
  ∀ (pc : Nat) (la : Array Slot) (v : Option zv) (N' : Nat) (M' : zM) (H' : Heap) (locs' : List Loc) (kc ks : Nat), decode X.cc pc = .ok (zri v, 1) → zok X.ret v → P v N' M' → zR g s N' M' H' → va_S (fun q => g.2.2.2.1 ≤ q) s.heap H' locs' → kc ≤ X.rm.cells → ks ≤ X.rm.slots →
    W p g.1 e X.rm s m args below meth c H' locs' kc ks Q (F0 m pc la (v.toList.map (zT g)))
/-- THE JUDGEMENT: the method X, at pc, with locals ls, stack st, N cells that hold M, comes to a return with P -/
def zV (g : zG) (X : zX) (P : zP) (pc : Nat) (ls st : List zv) (N : Nat) (M : zM) (kc ks : Nat) : Prop :=
  ∀ (p : Program) (e : Env) (s : State) (m : MethodId) (args : Array Value) (below : List Frame) (meth : Method) (c : Code) (H : Heap) (locs : List Loc) (Q : State → Prop) (la : Array Slot),
    zF g X p s m args meth c → ls.length = X.nL → zL g la ls → zR g s N M H → va_S (fun q => g.2.2.2.1 ≤ q) s.heap H locs → zH g X P p e s m args below meth c Q → W p g.1 e X.rm s m args below meth c H locs kc ks Q (F0 m pc la (st.map (zT g)))
/-- a method's contract: at these arguments, N cells that hold M, it returns with P -/
def zQ (g : zG) (P : zP) : Array Value → State → Outcome → State → Prop := fun _ st oc t =>
  (∃ (v : Option zv) (N' : Nat) (M' : zM), oc = .returned (v.map (zT g)) ∧ P v N' M' ∧ zR g t N' M' t.heap) ∧ va_F (fun q => g.2.2.2.1 ≤ q) st t
def zK (g : zG) (y : MethodName) (X : zX) (As : List zv) (N : Nat) (M : zM) (P : zP) : Prop :=
  Met g.1 y (Cond.code y X.cc X.nL X.ret :: zTb) X.rm (va_Pc (As.map (zT g)) (fun U => zS g U U.heap ∧ zR g U N M U.heap)) (zQ g P) X.rm.cells X.rm.slots (fun q => g.2.2.2.1 ≤ q)
