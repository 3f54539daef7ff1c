/-! CALLS AND CONTRACTS over the small machine -/
/-- what a method is, for whoever calls it: its code, its class stands, n arguments -/
def zCY (y : MethodName) (Y : zX) (n : Nat) : Prop := Cond.code y Y.cc Y.nL Y.ret ∈ zTb ∧ Cond.initialized y.cls ∈ zTb ∧ (y.cls ≠ "java/lang/invoke/MethodHandle" ∧ y.cls ≠ "java/lang/invoke/VarHandle") ∧ (parseMethodDescriptor y.desc).map (fun d => d.parameters.length) = some n
def zCV (y : MethodName) (Y : zX) (n : Nat) : Prop := zCY y Y n ∧ Cond.instanceMethod y ∈ zTb ∧ Cond.selects y.cls y y ∈ zTb
def zCS (y : MethodName) (Y : zX) (n : Nat) : Prop := zCY y Y n ∧ Cond.static y ∈ zTb
def zCI (y : MethodName) (Y : zX) (n : Nat) : Prop := zCY y Y n ∧ Cond.instanceMethod y ∈ zTb ∧ y.name = "<init>"
/-- the callee's room fits the caller's -/
def zRm (X Y : zX) (kc ks : Nat) : Prop := Y.rm.frames + 1 ≤ X.rm.frames ∧ 8 + (Y.nL + 11) + Y.rm.locals ≤ X.rm.locals ∧ kc + Y.rm.cells ≤ X.rm.cells ∧ ks + Y.rm.slots ≤ X.rm.slots
section
variable {p : Program} {l : Launch} {e : Env} {R : Room} {s : State} {m : MethodId} {args : Array Value} {below : List Frame} {meth : Method} {c : Code} {H : Heap} {locs : List Loc} {cells slots : Nat} {Q : State → Prop}
theorem zcat (g : zG) : ∀ (st : List zv), (st.map fun v => if v.1 = 1 then 2 else 1).sum ≤ 8 → ((st.map (zT g)).map fun v => v.category).sum ≤ 8 := by
  have h : ∀ (st : List zv), ((st.map (zT g)).map fun v => v.category).sum ≤ (st.map fun v => if v.1 = 1 then 2 else 1).sum := by
    intro st
    induction st with
    | nil => exact Nat.le_refl _
    | cons v st ih =>
      simp only [List.map_cons, List.sum_cons]
      have h1 : (zT g v).category ≤ if v.1 = 1 then 2 else 1 := by
        by_cases hv : v.1 = 1
        · rw [if_pos hv]
          obtain ⟨t, z⟩ := v
          subst hv
          exact Nat.le_refl 2
        · rw [if_neg hv, zT_cat g v hv]
          exact Nat.le_refl 1
      omega
  intro st h1
  exact Nat.le_trans (h st) h1
theorem zlim : ∀ (as : List zv) (g : zG), (as.map (zT g)).length = as.length := fun as g => List.length_map ..
/-- behind a call -/
theorem zgo {g : zG} {P' : zP} {mc ms pc : Nat} {la : Array Slot} {st0 rest : List zv} {av : Array Value} {st9 : List Value} (hr : va_Run p l e R s m args below meth c H locs cells slots mc ms (F0 m pc la st9) (rest.map (zT g)) (zQ g P' av) (fun q => g.2.2.2.1 ≤ q)) (hS : va_S (fun q => g.2.2.2.1 ≤ q) s.heap H locs)
    (kk : ∀ (v : Option zv) (N' : Nat) (M' : zM) (H1 : Heap) (locs1 : List Loc), P' v N' M' → zR g s N' M' H1 → va_S (fun q => g.2.2.2.1 ≤ q) s.heap H1 locs1 → W p l e R s m args below meth c H1 locs1 (cells + mc) (slots + ms) Q (F0 m (pc + 3) la ((v.toList ++ rest).map (zT g)))) : W p l e R s m args below meth c H locs cells slots Q (F0 m pc la st9) := by
  intro T hT X
  obtain ⟨v, st₀, t, T', L, h0, X', hL, e1, e2, ⟨⟨v', N', M', hv, hp, hR⟩, hz, hk⟩, st⟩ := hr T hT X
  have hv : v = v'.map (zT g) := Outcome.returned.inj hv
  subst hv
  rw [h0] at hz hk
  have hal : t.vm.Alike s.vm := by rw [← e2]; exact X'.warmed.alike.symm
  obtain ⟨t2, a1, b1⟩ := kk v' N' M' T'.heap (locs ++ L) hp (by rw [e1]; exact hR.moved hal) ⟨Nat.le_trans hS.1 (by rw [e1]; exact hz), fun q h1 h2 => by rw [e1, hk q (Nat.lt_of_lt_of_le h1 hS.1) h2]; exact hS.2.1 q h1 h2, fun q hq => by
      rcases List.mem_append.mp hq with h | h
      · exact hS.2.2 q h
      · exact hL q h⟩ T' rfl X'
  refine ⟨t2, st t2 ?_, b1⟩
  have e9 : (v'.map (zT g)).toList ++ rest.map (zT g) = (v'.toList ++ rest).map (zT g) := by cases v' <;> rfl
  rw [e9]
  exact a1
end
section
variable {g : zG} {X Y : zX} {P P' : zP} {pc : Nat} {ls st : List zv} {N : Nat} {M : zM} {kc ks : Nat} {y : MethodName}
theorem zblind {As : List zv} : FrameBlind (va_Pc (As.map (zT g)) (fun U => zS g U U.heap ∧ zR g U N M U.heap)) := by
  intro a U f mk hq
  obtain ⟨q0, ⟨q1, q2, q3, z, q5, q6⟩, q4⟩ := hq
  exact ⟨q0, ⟨vk_S.moved (u := U) (U := U.calling f mk a) (Vm.Alike.refl U.vm) q1, fun i hi => vk_R.same (u := U) (U := U.calling f mk a) rfl (q2 i hi), va_Z.moved (u := U) (U := U.calling f mk a) (Vm.Alike.refl U.vm) q3, z, va_Z.moved (u := U) (U := U.calling f mk a) (Vm.Alike.refl U.vm) q5, va_X.moved (u := U) (U := U.calling f mk a) (Vm.Alike.refl U.vm) q6.1, q6.2⟩, zR.moved (u := U) (U := U.calling f mk a) (Vm.Alike.refl U.vm) q4⟩
theorem zpre {p : Program} {s : State} {m : MethodId} {args : Array Value} {meth : Method} {c : Code} {H : Heap} {locs : List Loc} {As : List zv} (F : zF g X p s m args meth c) (R : zR g s N M H) (S : va_S (fun q => g.2.2.2.1 ≤ q) s.heap H locs) : ∀ U : State, U.heap = H → s.WarmedH U.vm → va_Pc (As.map (zT g)) (fun U => zS g U U.heap ∧ zR g U N M U.heap) (As.map (zT g)).toArray U := by
  intro U hU hW
  refine ⟨rfl, F.2.2.2.2.2.1.on hW ?_, by rw [hU]; exact R.moved hW.alike⟩
  intro a h1 h2
  rw [hU]
  exact S.2.1 a h1 h2
theorem zcallB {p : Program} {s : State} {m : MethodId} {args : Array Value} {meth : Method} {c : Code} {n idx : Nat} (F : zF g X p s m args meth c) (hc : zCY y Y n) (hr : zRm X Y kc ks) (hl : (Cond.methodLink X.own idx y) ∈ zTb) :
    CallB X.rm s args X.own idx y Y.cc Y.nL Y.ret (Cond.code y Y.cc Y.nL Y.ret :: zTb) Y.rm Y.rm.cells Y.rm.slots n := by
  obtain ⟨h1, h2, h3, h4⟩ := hc
  refine ⟨rfl, rfl, hr.1, hr.2.1, fun w hw a' U hW => ?_, List.mem_cons_self, F.2.2.2.2.1 _ h1, F.2.2.2.2.1 _ h2, h3, fun sig h => ?_, F.2.2.2.2.1 _ hl⟩
  · rcases List.mem_cons.mp hw with rfl | hw
    · exact ztb_last hW F.2.2.2.2.1 _ h1
    · exact ztb_last hW F.2.2.2.2.1 _ hw
  · rw [h] at h4
    exact (Option.some.inj h4).symm
theorem zcallN {p : Program} {s : State} {m : MethodId} {args : Array Value} {meth : Method} {c : Code} {n idx : Nat} {host : String} (F : zF g X p s m args meth c) (hc : zCY y Y n) (hr : zRm X Y kc ks) (hl : (Cond.methodLinkNest X.own idx y host) ∈ zTb) :
    va_CN X.rm s args X.own idx y host Y.cc Y.nL Y.ret (Cond.code y Y.cc Y.nL Y.ret :: zTb) Y.rm Y.rm.cells Y.rm.slots n := by
  obtain ⟨h1, h2, h3, h4⟩ := hc
  refine ⟨⟨rfl, rfl, hr.1, hr.2.1, fun w hw a' U hW => ?_, List.mem_cons_self⟩, F.2.2.2.2.1 _ h1, F.2.2.2.2.1 _ h2, h3, fun sig h => ?_, F.2.2.2.2.1 _ hl⟩
  · rcases List.mem_cons.mp hw with rfl | hw
    · exact ztb_last hW F.2.2.2.2.1 _ h1
    · exact ztb_last hW F.2.2.2.2.1 _ hw
  · rw [h] at h4
    exact (Option.some.inj h4).symm
/-- a receiver -/
theorem zrecv {s : State} {H : Heap} {b : Int} {ci : Nat} (R : zR g s N M H) (hO : zOb N b ci) (hci : ci < 11) : ∃ cellB : Cell, H[g.2.2.2.1 + b.toNat]? = some cellB ∧ cellB.vm.isStatics = false ∧ s.vm.findClass (zcl ci).1 = some cellB.cls := by
  obtain ⟨b0, bN, bsh⟩ := hO
  have hC := R.2.2.2 b.toNat (by omega)
  rw [zC_ob bsh] at hC
  obtain ⟨cell, q1, q2, q3, -⟩ := hC
  exact ⟨cell, q1, by rw [q3]; rfl, by rw [q2]; exact (R.2.2.1 ci _ (zcl_at hci)).2.1⟩
theorem zstk {g : zG} {a b : Nat} {As st : List zv} {v : zv} : ((As.reverse ++ v :: st).map (zT g)) = (As.map (zT g)).reverse ++ zT g v :: st.map (zT g) := by
  rw [List.map_append, List.map_reverse, List.map_cons]
/-- invokevirtual: the arguments As, behind the receiver -/
theorem zV_iv {idx n ci : Nat} {b : Int} {As st0 : List zv} (hd : decode X.cc pc = .ok (.invokevirtual idx, 3)) (hl : Cond.methodLink X.own idx y ∈ zTb) (hc : zCV y Y n) (hci : ci < 11 ∧ (zcl ci).1 = y.cls) (hr : zRm X Y kc ks) (hK : zK g y Y (zr b :: As) N M P') (hO : zOb N b ci) (hst : st0 = As.reverse ++ zr b :: st) (hn : As.length = n) (hs : (st.map fun v => if v.1 = 1 then 2 else 1).sum ≤ 8)
    (k : ∀ (v : Option zv) (N' : Nat) (M' : zM), P' v N' M' → zV g X P (pc + 3) ls (v.toList ++ st) N' M' (kc + Y.rm.cells) (ks + Y.rm.slots)) : zV g X P pc ls st0 N M kc ks := by
  subst hst
  intro p e s m args below meth c H locs Q la F hlen L R S E
  have e0 : zT g (zr b) = .ref (g.2.2.2.1 + b.toNat) := by rw [zT_r g hO.1, zAd_lt g (by have := R.1; have := hO.2.1; omega)]
  have e1 : (((zr b :: As).map (zT g)).toArray) = (Value.ref (g.2.2.2.1 + b.toNat) :: As.map (zT g)).toArray := by rw [List.map_cons, e0]
  have hpre := zpre (As := zr b :: As) F R S
  rw [e1] at hpre
  rw [zstk (a := 0) (b := 0), e0]
  exact zgo (st0 := []) (va_runV (As := As.map (zT g)) (rest := st.map (zT g)) (C := y.cls) ⟨F.1, F.2.1, F.2.2.1, F.2.2.2.1, F.2.2.2.2.1⟩ hK ⟨zcallB F hc.1 hr hl, F.2.2.2.2.1 _ hc.2.1, F.2.2.2.2.1 _ hc.2.2⟩ ⟨zblind, by rw [← hci.2]; exact zrecv R hO hci.1, hpre⟩ rfl (by rw [List.length_map]; exact hn) (L.1.trans hlen) rfl (lv_room (zcat g st hs)) hd ⟨hr.2.2.1, hr.2.2.2⟩) S
    (fun v N' M' H1 locs1 hp hR hS1 => k v N' M' hp p e s m args below meth c H1 locs1 Q la F hlen L hR hS1 E)
theorem zV_ivN {idx n ci : Nat} {host : String} {b : Int} {As st0 : List zv} (hd : decode X.cc pc = .ok (.invokevirtual idx, 3)) (hl : Cond.methodLinkNest X.own idx y host ∈ zTb) (hc : zCV y Y n) (hci : ci < 11 ∧ (zcl ci).1 = y.cls) (hr : zRm X Y kc ks) (hK : zK g y Y (zr b :: As) N M P') (hO : zOb N b ci) (hst : st0 = As.reverse ++ zr b :: st) (hn : As.length = n) (hs : (st.map fun v => if v.1 = 1 then 2 else 1).sum ≤ 8)
    (k : ∀ (v : Option zv) (N' : Nat) (M' : zM), P' v N' M' → zV g X P (pc + 3) ls (v.toList ++ st) N' M' (kc + Y.rm.cells) (ks + Y.rm.slots)) : zV g X P pc ls st0 N M kc ks := by
  subst hst
  intro p e s m args below meth c H locs Q la F hlen L R S E
  have e0 : zT g (zr b) = .ref (g.2.2.2.1 + b.toNat) := by rw [zT_r g hO.1, zAd_lt g (by have := R.1; have := hO.2.1; omega)]
  have e1 : (((zr b :: As).map (zT g)).toArray) = (Value.ref (g.2.2.2.1 + b.toNat) :: As.map (zT g)).toArray := by rw [List.map_cons, e0]
  have hpre := zpre (As := zr b :: As) F R S
  rw [e1] at hpre
  rw [zstk (a := 0) (b := 0), e0]
  exact zgo (st0 := []) (va_runVN (As := As.map (zT g)) (rest := st.map (zT g)) (C := y.cls) ⟨F.1, F.2.1, F.2.2.1, F.2.2.2.1, F.2.2.2.2.1⟩ hK ⟨zcallN F hc.1 hr hl, F.2.2.2.2.1 _ hc.2.1, F.2.2.2.2.1 _ hc.2.2⟩ ⟨zblind, by rw [← hci.2]; exact zrecv R hO hci.1, hpre⟩ rfl (by rw [List.length_map]; exact hn) (L.1.trans hlen) rfl (lv_room (zcat g st hs)) hd ⟨hr.2.2.1, hr.2.2.2⟩) S
    (fun v N' M' H1 locs1 hp hR hS1 => k v N' M' hp p e s m args below meth c H1 locs1 Q la F hlen L hR hS1 E)
/-- invokespecial of a constructor -/
theorem zV_ii {idx n : Nat} {b : Int} {As st0 : List zv} (hd : decode X.cc pc = .ok (.invokespecial idx, 3)) (hl : Cond.methodLink X.own idx y ∈ zTb) (hc : zCI y Y n) (hret : Y.ret = none) (hr : zRm X Y kc ks) (hK : zK g y Y (zr b :: As) N M P') (hb : 0 ≤ b ∧ b < N) (hst : st0 = As.reverse ++ zr b :: st) (hn : As.length = n) (hs : (st.map fun v => if v.1 = 1 then 2 else 1).sum ≤ 8)
    (k : ∀ (v : Option zv) (N' : Nat) (M' : zM), P' v N' M' → zV g X P (pc + 3) ls (v.toList ++ st) N' M' (kc + Y.rm.cells) (ks + Y.rm.slots)) : zV g X P pc ls st0 N M kc ks := by
  subst hst
  intro p e s m args below meth c H locs Q la F hlen L R S E
  have e0 : zT g (zr b) = .ref (g.2.2.2.1 + b.toNat) := by rw [zT_r g hb.1, zAd_lt g (by have := R.1; omega)]
  have e1 : (((zr b :: As).map (zT g)).toArray) = (Value.ref (g.2.2.2.1 + b.toNat) :: As.map (zT g)).toArray := by rw [List.map_cons, e0]
  have hpre := zpre (As := zr b :: As) F R S
  rw [e1] at hpre
  rw [zstk (a := 0) (b := 0), e0]
  have hB := zcallB F hc.1 hr hl
  rw [hret] at hB
  exact zgo (st0 := []) (va_runI (As := As.map (zT g)) (rest := st.map (zT g)) ⟨F.1, F.2.1, F.2.2.1, F.2.2.2.1, F.2.2.2.2.1⟩ (by rw [zK, hret] at hK; exact hK) ⟨hB, hc.2.2, F.2.2.2.2.1 _ hc.2.1⟩ ⟨zblind, hpre⟩ rfl (by rw [List.length_map]; exact hn) (L.1.trans hlen) rfl (lv_room (zcat g st hs)) hd ⟨hr.2.2.1, hr.2.2.2⟩) S
    (fun v N' M' H1 locs1 hp hR hS1 => k v N' M' hp p e s m args below meth c H1 locs1 Q la F hlen L hR hS1 E)
theorem zV_iiN {idx n : Nat} {host : String} {b : Int} {As st0 : List zv} (hd : decode X.cc pc = .ok (.invokespecial idx, 3)) (hl : Cond.methodLinkNest X.own idx y host ∈ zTb) (hc : zCI y Y n) (hret : Y.ret = none) (hr : zRm X Y kc ks) (hK : zK g y Y (zr b :: As) N M P') (hb : 0 ≤ b ∧ b < N) (hst : st0 = As.reverse ++ zr b :: st) (hn : As.length = n) (hs : (st.map fun v => if v.1 = 1 then 2 else 1).sum ≤ 8)
    (k : ∀ (v : Option zv) (N' : Nat) (M' : zM), P' v N' M' → zV g X P (pc + 3) ls (v.toList ++ st) N' M' (kc + Y.rm.cells) (ks + Y.rm.slots)) : zV g X P pc ls st0 N M kc ks := by
  subst hst
  intro p e s m args below meth c H locs Q la F hlen L R S E
  have e0 : zT g (zr b) = .ref (g.2.2.2.1 + b.toNat) := by rw [zT_r g hb.1, zAd_lt g (by have := R.1; omega)]
  have e1 : (((zr b :: As).map (zT g)).toArray) = (Value.ref (g.2.2.2.1 + b.toNat) :: As.map (zT g)).toArray := by rw [List.map_cons, e0]
  have hpre := zpre (As := zr b :: As) F R S
  rw [e1] at hpre
  rw [zstk (a := 0) (b := 0), e0]
  have hB := zcallN F hc.1 hr hl
  rw [hret] at hB
  exact zgo (st0 := []) (va_runIN (As := As.map (zT g)) (rest := st.map (zT g)) ⟨F.1, F.2.1, F.2.2.1, F.2.2.2.1, F.2.2.2.2.1⟩ (by rw [zK, hret] at hK; exact hK) ⟨hB, hc.2.2, F.2.2.2.2.1 _ hc.2.1⟩ ⟨zblind, hpre⟩ rfl (by rw [List.length_map]; exact hn) (L.1.trans hlen) rfl (lv_room (zcat g st hs)) hd ⟨hr.2.2.1, hr.2.2.2⟩) S
    (fun v N' M' H1 locs1 hp hR hS1 => k v N' M' hp p e s m args below meth c H1 locs1 Q la F hlen L hR hS1 E)
/-- invokestatic -/
theorem zV_is {idx n : Nat} {As st0 : List zv} (hd : decode X.cc pc = .ok (.invokestatic idx, 3)) (hl : Cond.methodLink X.own idx y ∈ zTb) (hc : zCS y Y n) (hr : zRm X Y kc ks) (hK : zK g y Y As N M P') (hst : st0 = As.reverse ++ st) (hn : As.length = n) (hs : (st.map fun v => if v.1 = 1 then 2 else 1).sum ≤ 8)
    (k : ∀ (v : Option zv) (N' : Nat) (M' : zM), P' v N' M' → zV g X P (pc + 3) ls (v.toList ++ st) N' M' (kc + Y.rm.cells) (ks + Y.rm.slots)) : zV g X P pc ls st0 N M kc ks := by
  subst hst
  intro p e s m args below meth c H locs Q la F hlen L R S E
  rw [List.map_append, List.map_reverse]
  exact zgo (st0 := []) (va_runS (As := As.map (zT g)) (rest := st.map (zT g)) ⟨F.1, F.2.1, F.2.2.1, F.2.2.2.1, F.2.2.2.2.1⟩ hK ⟨zcallB F hc.1 hr hl, F.2.2.2.2.1 _ hc.2⟩ ⟨zblind, zpre F R S⟩ rfl (by rw [List.length_map]; exact hn) (L.1.trans hlen) rfl (lv_room (zcat g st hs)) hd ⟨hr.2.2.1, hr.2.2.2⟩) S
    (fun v N' M' H1 locs1 hp hR hS1 => k v N' M' hp p e s m args below meth c H1 locs1 Q la F hlen L hR hS1 E)
theorem zV_isN {idx n : Nat} {host : String} {As st0 : List zv} (hd : decode X.cc pc = .ok (.invokestatic idx, 3)) (hl : Cond.methodLinkNest X.own idx y host ∈ zTb) (hc : zCS y Y n) (hr : zRm X Y kc ks) (hK : zK g y Y As N M P') (hst : st0 = As.reverse ++ st) (hn : As.length = n) (hs : (st.map fun v => if v.1 = 1 then 2 else 1).sum ≤ 8)
    (k : ∀ (v : Option zv) (N' : Nat) (M' : zM), P' v N' M' → zV g X P (pc + 3) ls (v.toList ++ st) N' M' (kc + Y.rm.cells) (ks + Y.rm.slots)) : zV g X P pc ls st0 N M kc ks := by
  subst hst
  intro p e s m args below meth c H locs Q la F hlen L R S E
  rw [List.map_append, List.map_reverse]
  exact zgo (st0 := []) (va_runSN (As := As.map (zT g)) (rest := st.map (zT g)) ⟨F.1, F.2.1, F.2.2.1, F.2.2.2.1, F.2.2.2.2.1⟩ hK ⟨zcallN F hc.1 hr hl, F.2.2.2.2.1 _ hc.2, trivial⟩ ⟨zblind, zpre F R S⟩ rfl (by rw [List.length_map]; exact hn) (L.1.trans hlen) rfl (lv_room (zcat g st hs)) hd ⟨hr.2.2.1, hr.2.2.2⟩) S
    (fun v N' M' H1 locs1 hp hR hS1 => k v N' M' hp p e s m args below meth c H1 locs1 Q la F hlen L hR hS1 E)
/-- Object() -/
theorem zV_obj {idx : Nat} {b : Int} (hd : decode X.cc pc = .ok (.invokespecial idx, 3)) (hl : Cond.methodLink X.own idx objectInit ∈ zTb) (hi : Cond.instanceMethod objectInit ∈ zTb) (hc : Cond.code objectInit ⟨#[0xb1]⟩ 1 none ∈ zTb) (hb : 0 ≤ b) (hr : 1 ≤ X.rm.frames ∧ 20 ≤ X.rm.locals) (hs : (st.map fun v => if v.1 = 1 then 2 else 1).sum ≤ 8) (k : zV g X P (pc + 3) ls st N M kc ks) : zV g X P pc ls (zr b :: st) N M kc ks := by
  intro p e s m args below meth c H locs Q la F hlen L R S E
  have k := k p e s m args below meth c H locs Q la F hlen L R S E
  show W p g.1 e X.rm s m args below meth c H locs kc ks Q (F0 m pc la (zT g (zr b) :: st.map (zT g)))
  rw [zT_r g hb]
  refine W.objInit F.1 F.2.1 F.2.2.2.1 (F.2.2.2.2.1 _ hl) (F.2.2.2.2.1 _ hi) (F.2.2.2.2.1 _ hc) rfl (by rw [F.2.2.1]; exact L.1.trans hlen) rfl hd hr.1 ?_ k
  have h1 := lv_room (m := m) (pc := pc) (ls := la) (rest := []) (zcat g st hs)
  have h2 : 2 * (F0 m pc la (.ref (zAd g b) :: st.map (zT g))).monitorRoom + ((st.map (zT g)).map fun v => v.category).sum ≤ 8 := lv_room (zcat g st hs)
  omega
/-! returns -/
theorem zV_ret (v : Option zv) {st0 : List zv} (hd : decode X.cc pc = .ok (zri v, 1)) (hst : st0 = v.toList) (ho : zok X.ret v) (hk : kc ≤ X.rm.cells ∧ ks ≤ X.rm.slots) (hp : P v N M) : zV g X P pc ls st0 N M kc ks := by
  subst hst
  intro p e s m args below meth c H locs Q la F hlen L R S E
  exact E pc la v N M H locs kc ks hd ho hp R S hk.1 hk.2
theorem zV_iret {z : Int} (hd : decode X.cc pc = .ok (.ireturn, 1)) (ho : zok X.ret (some (zi z))) (hk : kc ≤ X.rm.cells ∧ ks ≤ X.rm.slots) (hp : P (some (zi z)) N M) : zV g X P pc ls [zi z] N M kc ks := zV_ret (some (zi z)) hd rfl ho hk hp
theorem zV_lret {z : Int} (hd : decode X.cc pc = .ok (.lreturn, 1)) (ho : zok X.ret (some (zl z))) (hk : kc ≤ X.rm.cells ∧ ks ≤ X.rm.slots) (hp : P (some (zl z)) N M) : zV g X P pc ls [zl z] N M kc ks := zV_ret (some (zl z)) hd rfl ho hk hp
theorem zV_aret {z : Int} (hd : decode X.cc pc = .ok (.areturn, 1)) (ho : zok X.ret (some (zr z))) (hk : kc ≤ X.rm.cells ∧ ks ≤ X.rm.slots) (hp : P (some (zr z)) N M) : zV g X P pc ls [zr z] N M kc ks := zV_ret (some (zr z)) hd rfl ho hk hp
theorem zV_vret (hd : decode X.cc pc = .ok (.return_, 1)) (ho : zok X.ret none) (hk : kc ≤ X.rm.cells ∧ ks ≤ X.rm.slots) (hp : P none N M) : zV g X P pc ls [] N M kc ks := zV_ret none hd rfl ho hk hp
/-- less is owed -/
theorem zV.mono {st0 : List zv} {P2 : zP} (h : zV g X P pc ls st0 N M kc ks) (h2 : ∀ v N' M', P v N' M' → P2 v N' M') : zV g X P2 pc ls st0 N M kc ks := by
  intro p e s m args below meth c H locs Q la F hlen L R S E
  exact h p e s m args below meth c H locs Q la F hlen L R S (fun pc la v N' M' H' locs' kc ks a b c2 => E pc la v N' M' H' locs' kc ks a b (h2 v N' M' c2))
theorem zK.mono {As : List zv} {P2 : zP} (h : zK g y X As N M P) (h2 : ∀ v N' M', P v N' M' → P2 v N' M') : zK g y X As N M P2 := by
  intro p e ha hc hk s m args below hf hh hP ht
  obtain ⟨k, o, a1, a2, a3, ⟨⟨⟨v, N', M', b1, b2, b3⟩, b4⟩, b5⟩⟩ := h p e ha hc hk s m args below hf hh hP ht
  exact ⟨k, o, a1, a2, a3, ⟨⟨⟨v, N', M', b1, h2 _ _ _ b2, b3⟩, b4⟩, b5⟩⟩
/-- the locals at the entry -/
def zen (As : List zv) : List zv := As.flatMap fun v => if v.1 = 1 then [v, (3, 0)] else [v]
def zent (As : List zv) (n : Nat) : List zv := zen As ++ List.replicate (n - (zen As).length) (3, 0)
theorem zT_c1 (g : zG) (v : zv) : (zT g v).category = 2 ↔ v.1 = 1 := by
  constructor
  · exact zT_cat2 g v
  · intro h
    obtain ⟨t, z⟩ := v
    subst h
    rfl
theorem zsl_len (g : zG) (As : List zv) : (lg_sl (As.map (zT g))).length = (zen As).length := by
  induction As with
  | nil => rfl
  | cons v As ih =>
    simp only [List.map_cons, lg_sl, zen, List.flatMap_cons, List.length_append] at ih ⊢
    rw [ih]
    by_cases h : v.1 = 1
    · simp [(zT_c1 g v).mpr h, h]
    · have h2 : ¬ (zT g v).category = 2 := fun q => h ((zT_c1 g v).mp q)
      simp [h2, h]
theorem zen_in (g : zG) (As : List zv) : ∀ (o i : Nat) (v : zv), (zen As)[i]? = some v → v.1 < 3 → (o + i, zT g v) ∈ lv_args o (As.map (zT g)) := by
  induction As with
  | nil =>
    intro o i v h
    simp [zen] at h
  | cons u As ih =>
    intro o i v h h3
    rw [List.map_cons, lv_args]
    by_cases hu : u.1 = 1
    · rw [if_pos ((zT_c1 g u).mpr hu)]
      have e : zen (u :: As) = u :: (3, 0) :: zen As := by simp [zen, hu]
      rw [e] at h
      match i, h with
      | 0, h =>
        have h : u = v := by simpa using h
        rw [h]
        exact List.mem_cons_self
      | 1, h =>
        have h : ((3, 0) : zv) = v := by simpa using h
        rw [← h] at h3
        exact absurd h3 (by decide)
      | i + 2, h =>
        have h : (zen As)[i]? = some v := by simpa using h
        have := ih (o + 2) i v h h3
        rw [show o + (i + 2) = o + 2 + i by omega]
        exact List.mem_cons_of_mem _ this
    · rw [if_neg (fun q => hu ((zT_c1 g u).mp q))]
      have e : zen (u :: As) = u :: zen As := by simp [zen, hu]
      rw [e] at h
      match i, h with
      | 0, h =>
        have h : u = v := by simpa using h
        rw [h]
        exact List.mem_cons_self
      | i + 1, h =>
        have h : (zen As)[i]? = some v := by simpa using h
        have := ih (o + 1) i v h h3
        rw [show o + (i + 1) = o + 1 + i by omega]
        exact List.mem_cons_of_mem _ this
theorem zok_cases {r : Option FieldType} {v : Option zv} (h : zok r v) : (r = none ∧ v = none) ∨ (∃ z, r = some .int ∧ v = some (zi z)) ∨ (∃ z, r = some .boolean ∧ v = some (zi z) ∧ (z = 0 ∨ z = 1)) ∨ (∃ z, r = some .long ∧ v = some (zl z)) ∨ (∃ C z, r = some (.object C) ∧ v = some (zr z) ∧ 0 ≤ z) ∨ (∃ z, r = some .char ∧ v = some (zi z) ∧ 0 ≤ z ∧ z ≤ 65535) ∨ (∃ z, r = some .byte ∧ v = some (zi z) ∧ z = 0) := by
  unfold zok at h
  split at h
  · exact Or.inl ⟨rfl, rfl⟩
  · exact Or.inr (Or.inl ⟨_, rfl, rfl⟩)
  · exact Or.inr (Or.inr (Or.inl ⟨_, rfl, rfl, h⟩))
  · exact Or.inr (Or.inr (Or.inr (Or.inr (Or.inr (Or.inl ⟨_, rfl, rfl, h⟩)))))
  · exact Or.inr (Or.inr (Or.inr (Or.inr (Or.inr (Or.inr ⟨_, rfl, rfl, h⟩)))))
  · exact Or.inr (Or.inr (Or.inr (Or.inl ⟨_, rfl, rfl⟩)))
  · exact Or.inr (Or.inr (Or.inr (Or.inr (Or.inl ⟨_, _, rfl, rfl, h⟩))))
  · exact h.elim
theorem zchr {z : Int} (h : 0 ≤ z ∧ z ≤ 65535) : narrow .char (.int (Int32.ofInt z)) = .int (Int32.ofInt z) := by
  have e : Int32.ofInt z = nI z.toNat := by
    conv => lhs; rw [show z = ((z.toNat : Nat) : Int) by omega]
    exact Int32.ofInt_eq_ofNat
  rw [e]
  exact (pk_charN (by omega)).1
/-- A CONTRACT OUT OF A WALK -/
theorem zK_of {As ls0 : List zv} (hy : plainName y.cls = true) (hown : y.cls = X.own) (hini : X.ini = true → y.name = "<init>") (hls : zent As X.nL = ls0) (hle : (zen As).length ≤ X.nL) (h : zV g X P 0 ls0 [] N M 0 0) : zK g y X As N M P := by
  refine Met.ofW (cc := X.cc) (maxL := X.nL) (ret := X.ret) hy rfl ?_
  intro p e s m args below meth c s₁ B hml hv
  obtain ⟨rfl, hZ, hR⟩ := hv
  have hts := atoms_spec (ws := Cond.code y X.cc X.nL X.ret :: zTb) B.pre
  have F : zF g X p s m (As.map (zT g)).toArray meth c := ⟨B.exec, B.bytes, hml, by rw [← hown]; exact findClass_of_methodNamed B.named, fun w hw => hts w (List.mem_cons_of_mem _ hw), hZ, fun q => (name_of_methodNamed B.named B.method).1.trans (hini q)⟩
  have hlocks := B.notSynchronized
  have hr := B.returns
  have hl := lv_entry (As.map (zT g)) (n := X.nL) (by rw [zsl_len]; exact hle)
  rw [lg_entry_eq]
  have hlen : ls0.length = X.nL := by
    rw [← hls]
    simp only [zent, List.length_append, List.length_replicate]
    omega
  refine h p e s m _ below meth c s.heap [] _ _ F hlen ?_ hR va_S.rf ?_
  · refine ⟨by rw [hlen]; exact hl.1, hl.2.1, ?_⟩
    rintro ⟨i, x⟩ hq
    obtain ⟨v, hv, h3, rfl⟩ := zas_mem.mp hq
    refine hl.2.2 _ ?_
    rw [← hls] at hv
    unfold zent at hv
    by_cases hi : i < (zen As).length
    · rw [List.getElem?_append_left hi] at hv
      have := zen_in g As 0 i v hv h3
      rw [Nat.zero_add] at this
      exact this
    · rw [List.getElem?_append_right (by omega), List.getElem?_replicate] at hv
      split at hv
      · cases hv
        exact absurd h3 (by decide)
      · cases hv
  · intro pc la v N' M' H' locs' kc ks hd ho hp hR' hS' hk1 hk2
    refine W.widen hk1 hk2 ?_
    have hq : ∀ t : State, t.heap = H' → s.WarmedH t.vm → zQ g P (As.map (zT g)).toArray s (.returned (v.map (zT g))) t := fun t ht hW => ⟨⟨v, N', M', rfl, hp, by rw [ht]; exact hR'.moved hW.alike⟩, hS'.F ht⟩
    rcases zok_cases ho with ⟨h1, rfl⟩ | ⟨z, h1, rfl⟩ | ⟨z, h1, rfl, h01⟩ | ⟨z, h1, rfl⟩ | ⟨C, z, h1, rfl, h0⟩ | ⟨z, h1, rfl, h0⟩ | ⟨z, h1, rfl, h0⟩
    · exact W.vret F.1 F.2.1 (hr.trans h1) hq hS'.2.2 hd
    · exact W.iret F.1 F.2.1 (hr.trans h1) hq hS'.2.2 hd
    · exact W.zret F.1 F.2.1 (hr.trans h1) (by rcases h01 with rfl | rfl <;> rfl) hq hS'.2.2 hd
    · exact W.lret F.1 F.2.1 (hr.trans h1) hq hS'.2.2 hd
    · refine W.aret F.1 F.2.1 (hr.trans h1) (Or.inl ⟨C, rfl⟩) (Or.inr ⟨zAd g z, zT_r g h0⟩) hq hS'.2.2 hd
    · exact W.zret F.1 F.2.1 (hr.trans h1) (zchr h0) hq hS'.2.2 hd
    · exact W.zret F.1 F.2.1 (hr.trans h1) (by rw [h0]; rfl) hq hS'.2.2 hd
/-- a callee that makes no cell: its room fits -/
def zRm0 (X Y : zX) : Bool := decide (Y.rm.frames + 1 ≤ X.rm.frames) && decide (8 + (Y.nL + 11) + Y.rm.locals ≤ X.rm.locals) && decide (Y.rm.cells = 0) && decide (Y.rm.slots = 0)
theorem zRm0.rm {X Y : zX} {kc ks : Nat} (h : zRm0 X Y = true) (hk : kc ≤ X.rm.cells ∧ ks ≤ X.rm.slots) : zRm X Y kc ks ∧ Y.rm.cells = 0 ∧ Y.rm.slots = 0 := by
  simp only [zRm0, Bool.and_eq_true, decide_eq_true_eq] at h
  obtain ⟨⟨⟨h1, h2⟩, h3⟩, h4⟩ := h
  exact ⟨⟨h1, h2, by rw [h3]; exact hk.1, by rw [h4]; exact hk.2⟩, h3, h4⟩
/-- a contract of what changes nothing and answers z -/
def zPp (z : zv) (N : Nat) (M : zM) : zP := fun v N' M' => v = some z ∧ N' = N ∧ M' = M
theorem zV_ivp {idx n ci : Nat} {b : Int} {As st0 : List zv} (hd : decode X.cc pc = .ok (.invokevirtual idx, 3)) (hl : Cond.methodLink X.own idx y ∈ zTb) (hc : zCV y Y n) (hci : ci < 11 ∧ (zcl ci).1 = y.cls) (hr : zRm0 X Y = true) (hk : kc ≤ X.rm.cells ∧ ks ≤ X.rm.slots) {z : zv} (hK : zK g y Y (zr b :: As) N M (zPp z N M)) (hO : zOb N b ci) (hst : st0 = As.reverse ++ zr b :: st) (hn : As.length = n) (hs : (st.map fun v => if v.1 = 1 then 2 else 1).sum ≤ 8) (k : zV g X P (pc + 3) ls (z :: st) N M kc ks) : zV g X P pc ls st0 N M kc ks := by
  obtain ⟨h1, h2, h3⟩ := zRm0.rm hr hk
  refine zV_iv hd hl hc hci h1 hK hO hst hn hs ?_
  rintro v N' M' ⟨rfl, rfl, rfl⟩
  rw [h2, h3]
  exact k
theorem zV_ivs {idx n ci : Nat} {b : Int} {As st0 : List zv} (hd : decode X.cc pc = .ok (.invokevirtual idx, 3)) (hl : Cond.methodLink X.own idx y ∈ zTb) (hc : zCV y Y n) (hci : ci < 11 ∧ (zcl ci).1 = y.cls) (hr : zRm0 X Y = true) (hk : kc ≤ X.rm.cells ∧ ks ≤ X.rm.slots) (hK : zK g y Y (zr b :: As) N M P') (hO : zOb N b ci) (hst : st0 = As.reverse ++ zr b :: st) (hn : As.length = n) (hs : (st.map fun v => if v.1 = 1 then 2 else 1).sum ≤ 8) (k : ∀ (v : Option zv) (N' : Nat) (M' : zM), P' v N' M' → zV g X P (pc + 3) ls (v.toList ++ st) N' M' kc ks) : zV g X P pc ls st0 N M kc ks := by
  obtain ⟨h1, h2, h3⟩ := zRm0.rm hr hk
  refine zV_iv hd hl hc hci h1 hK hO hst hn hs ?_
  rw [h2, h3]
  exact k
theorem zV_ivNp {idx n ci : Nat} {host : String} {b : Int} {As st0 : List zv} (hd : decode X.cc pc = .ok (.invokevirtual idx, 3)) (hl : Cond.methodLinkNest X.own idx y host ∈ zTb) (hc : zCV y Y n) (hci : ci < 11 ∧ (zcl ci).1 = y.cls) (hr : zRm0 X Y = true) (hk : kc ≤ X.rm.cells ∧ ks ≤ X.rm.slots) {z : zv} (hK : zK g y Y (zr b :: As) N M (zPp z N M)) (hO : zOb N b ci) (hst : st0 = As.reverse ++ zr b :: st) (hn : As.length = n) (hs : (st.map fun v => if v.1 = 1 then 2 else 1).sum ≤ 8) (k : zV g X P (pc + 3) ls (z :: st) N M kc ks) : zV g X P pc ls st0 N M kc ks := by
  obtain ⟨h1, h2, h3⟩ := zRm0.rm hr hk
  refine zV_ivN hd hl hc hci h1 hK hO hst hn hs ?_
  rintro v N' M' ⟨rfl, rfl, rfl⟩
  rw [h2, h3]
  exact k
theorem zV_ivNs {idx n ci : Nat} {host : String} {b : Int} {As st0 : List zv} (hd : decode X.cc pc = .ok (.invokevirtual idx, 3)) (hl : Cond.methodLinkNest X.own idx y host ∈ zTb) (hc : zCV y Y n) (hci : ci < 11 ∧ (zcl ci).1 = y.cls) (hr : zRm0 X Y = true) (hk : kc ≤ X.rm.cells ∧ ks ≤ X.rm.slots) (hK : zK g y Y (zr b :: As) N M P') (hO : zOb N b ci) (hst : st0 = As.reverse ++ zr b :: st) (hn : As.length = n) (hs : (st.map fun v => if v.1 = 1 then 2 else 1).sum ≤ 8) (k : ∀ (v : Option zv) (N' : Nat) (M' : zM), P' v N' M' → zV g X P (pc + 3) ls (v.toList ++ st) N' M' kc ks) : zV g X P pc ls st0 N M kc ks := by
  obtain ⟨h1, h2, h3⟩ := zRm0.rm hr hk
  refine zV_ivN hd hl hc hci h1 hK hO hst hn hs ?_
  rw [h2, h3]
  exact k
theorem zV_isp {idx n : Nat} {As st0 : List zv} (hd : decode X.cc pc = .ok (.invokestatic idx, 3)) (hl : Cond.methodLink X.own idx y ∈ zTb) (hc : zCS y Y n) (hr : zRm0 X Y = true) (hk : kc ≤ X.rm.cells ∧ ks ≤ X.rm.slots) {z : zv} (hK : zK g y Y As N M (zPp z N M)) (hst : st0 = As.reverse ++ st) (hn : As.length = n) (hs : (st.map fun v => if v.1 = 1 then 2 else 1).sum ≤ 8) (k : zV g X P (pc + 3) ls (z :: st) N M kc ks) : zV g X P pc ls st0 N M kc ks := by
  obtain ⟨h1, h2, h3⟩ := zRm0.rm hr hk
  refine zV_is hd hl hc h1 hK hst hn hs ?_
  rintro v N' M' ⟨rfl, rfl, rfl⟩
  rw [h2, h3]
  exact k
theorem zV_iss {idx n : Nat} {As st0 : List zv} (hd : decode X.cc pc = .ok (.invokestatic idx, 3)) (hl : Cond.methodLink X.own idx y ∈ zTb) (hc : zCS y Y n) (hr : zRm0 X Y = true) (hk : kc ≤ X.rm.cells ∧ ks ≤ X.rm.slots) (hK : zK g y Y As N M P') (hst : st0 = As.reverse ++ st) (hn : As.length = n) (hs : (st.map fun v => if v.1 = 1 then 2 else 1).sum ≤ 8) (k : ∀ (v : Option zv) (N' : Nat) (M' : zM), P' v N' M' → zV g X P (pc + 3) ls (v.toList ++ st) N' M' kc ks) : zV g X P pc ls st0 N M kc ks := by
  obtain ⟨h1, h2, h3⟩ := zRm0.rm hr hk
  refine zV_is hd hl hc h1 hK hst hn hs ?_
  rw [h2, h3]
  exact k
theorem zV_isNp {idx n : Nat} {host : String} {As st0 : List zv} (hd : decode X.cc pc = .ok (.invokestatic idx, 3)) (hl : Cond.methodLinkNest X.own idx y host ∈ zTb) (hc : zCS y Y n) (hr : zRm0 X Y = true) (hk : kc ≤ X.rm.cells ∧ ks ≤ X.rm.slots) {z : zv} (hK : zK g y Y As N M (zPp z N M)) (hst : st0 = As.reverse ++ st) (hn : As.length = n) (hs : (st.map fun v => if v.1 = 1 then 2 else 1).sum ≤ 8) (k : zV g X P (pc + 3) ls (z :: st) N M kc ks) : zV g X P pc ls st0 N M kc ks := by
  obtain ⟨h1, h2, h3⟩ := zRm0.rm hr hk
  refine zV_isN hd hl hc h1 hK hst hn hs ?_
  rintro v N' M' ⟨rfl, rfl, rfl⟩
  rw [h2, h3]
  exact k
theorem zV_isNs {idx n : Nat} {host : String} {As st0 : List zv} (hd : decode X.cc pc = .ok (.invokestatic idx, 3)) (hl : Cond.methodLinkNest X.own idx y host ∈ zTb) (hc : zCS y Y n) (hr : zRm0 X Y = true) (hk : kc ≤ X.rm.cells ∧ ks ≤ X.rm.slots) (hK : zK g y Y As N M P') (hst : st0 = As.reverse ++ st) (hn : As.length = n) (hs : (st.map fun v => if v.1 = 1 then 2 else 1).sum ≤ 8) (k : ∀ (v : Option zv) (N' : Nat) (M' : zM), P' v N' M' → zV g X P (pc + 3) ls (v.toList ++ st) N' M' kc ks) : zV g X P pc ls st0 N M kc ks := by
  obtain ⟨h1, h2, h3⟩ := zRm0.rm hr hk
  refine zV_isN hd hl hc h1 hK hst hn hs ?_
  rw [h2, h3]
  exact k
end
theorem zok_b {q : Prop} : zok (some .boolean) (some (zi (zb q))) := zb_01 q
theorem zok_b0 : zok (some .boolean) (some (zi 0)) := Or.inl rfl
theorem zok_b1 : zok (some .boolean) (some (zi 1)) := Or.inr rfl
