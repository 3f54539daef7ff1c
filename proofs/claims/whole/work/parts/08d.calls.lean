/-! calls of what answers nothing, or z, and leaves a memory of which Q holds -/
def zPn (N : Nat) (Q : zM → Prop) : zP := fun v N' M' => v = none ∧ N' = N ∧ Q M'
def zPq (z : zv) (N : Nat) (Q : zM → Prop) : zP := fun v N' M' => v = some z ∧ N' = N ∧ Q M'
section
variable {g : zG} {X Y : zX} {P P' : zP} {pc : Nat} {ls st : List zv} {N : Nat} {M : zM} {kc ks : Nat} {y : MethodName}
theorem zV_ivn {idx n ci : Nat} {b : Int} {As st0 : List zv} (hd : decode X.cc pc = .ok (.invokevirtual idx, 3)) (hl : Cond.methodLink X.own idx y ∈ zTb) (hc : zCV y Y n) (hci : ci < 11 ∧ (zcl ci).1 = y.cls) (hr : zRm0 X Y = true) (hk : kc ≤ X.rm.cells ∧ ks ≤ X.rm.slots) {Q : zM → Prop} (hK : zK g y Y (zr b :: As) N M (zPn N Q)) (hO : zOb N b ci) (hst : st0 = As.reverse ++ zr b :: st) (hn : As.length = n) (hs : (st.map fun v => if v.1 = 1 then 2 else 1).sum ≤ 8) (k : ∀ M' : zM, Q M' → zV g X P (pc + 3) ls st N M' kc ks) : zV g X P pc ls st0 N M kc ks := by
  refine zV_ivs hd hl hc hci hr hk hK hO hst hn hs ?_
  rintro v N' M' ⟨rfl, rfl, hq⟩
  exact k M' hq
theorem zV_ivq {idx n ci : Nat} {b : Int} {As st0 : List zv} (hd : decode X.cc pc = .ok (.invokevirtual idx, 3)) (hl : Cond.methodLink X.own idx y ∈ zTb) (hc : zCV y Y n) (hci : ci < 11 ∧ (zcl ci).1 = y.cls) (hr : zRm0 X Y = true) (hk : kc ≤ X.rm.cells ∧ ks ≤ X.rm.slots) {z : zv} {Q : zM → Prop} (hK : zK g y Y (zr b :: As) N M (zPq z N Q)) (hO : zOb N b ci) (hst : st0 = As.reverse ++ zr b :: st) (hn : As.length = n) (hs : (st.map fun v => if v.1 = 1 then 2 else 1).sum ≤ 8) (k : ∀ M' : zM, Q M' → zV g X P (pc + 3) ls (z :: st) N M' kc ks) : zV g X P pc ls st0 N M kc ks := by
  refine zV_ivs hd hl hc hci hr hk hK hO hst hn hs ?_
  rintro v N' M' ⟨rfl, rfl, hq⟩
  exact k M' hq
theorem zV_ivNn {idx n ci : Nat} {host : String} {b : Int} {As st0 : List zv} (hd : decode X.cc pc = .ok (.invokevirtual idx, 3)) (hl : Cond.methodLinkNest X.own idx y host ∈ zTb) (hc : zCV y Y n) (hci : ci < 11 ∧ (zcl ci).1 = y.cls) (hr : zRm0 X Y = true) (hk : kc ≤ X.rm.cells ∧ ks ≤ X.rm.slots) {Q : zM → Prop} (hK : zK g y Y (zr b :: As) N M (zPn N Q)) (hO : zOb N b ci) (hst : st0 = As.reverse ++ zr b :: st) (hn : As.length = n) (hs : (st.map fun v => if v.1 = 1 then 2 else 1).sum ≤ 8) (k : ∀ M' : zM, Q M' → zV g X P (pc + 3) ls st N M' kc ks) : zV g X P pc ls st0 N M kc ks := by
  refine zV_ivNs hd hl hc hci hr hk hK hO hst hn hs ?_
  rintro v N' M' ⟨rfl, rfl, hq⟩
  exact k M' hq
theorem zV_ivNq {idx n ci : Nat} {host : String} {b : Int} {As st0 : List zv} (hd : decode X.cc pc = .ok (.invokevirtual idx, 3)) (hl : Cond.methodLinkNest X.own idx y host ∈ zTb) (hc : zCV y Y n) (hci : ci < 11 ∧ (zcl ci).1 = y.cls) (hr : zRm0 X Y = true) (hk : kc ≤ X.rm.cells ∧ ks ≤ X.rm.slots) {z : zv} {Q : zM → Prop} (hK : zK g y Y (zr b :: As) N M (zPq z N Q)) (hO : zOb N b ci) (hst : st0 = As.reverse ++ zr b :: st) (hn : As.length = n) (hs : (st.map fun v => if v.1 = 1 then 2 else 1).sum ≤ 8) (k : ∀ M' : zM, Q M' → zV g X P (pc + 3) ls (z :: st) N M' kc ks) : zV g X P pc ls st0 N M kc ks := by
  refine zV_ivNs hd hl hc hci hr hk hK hO hst hn hs ?_
  rintro v N' M' ⟨rfl, rfl, hq⟩
  exact k M' hq
theorem zV_isn {idx n : Nat} {As st0 : List zv} (hd : decode X.cc pc = .ok (.invokestatic idx, 3)) (hl : Cond.methodLink X.own idx y ∈ zTb) (hc : zCS y Y n) (hr : zRm0 X Y = true) (hk : kc ≤ X.rm.cells ∧ ks ≤ X.rm.slots) {Q : zM → Prop} (hK : zK g y Y As N M (zPn N Q)) (hst : st0 = As.reverse ++ st) (hn : As.length = n) (hs : (st.map fun v => if v.1 = 1 then 2 else 1).sum ≤ 8) (k : ∀ M' : zM, Q M' → zV g X P (pc + 3) ls st N M' kc ks) : zV g X P pc ls st0 N M kc ks := by
  refine zV_iss hd hl hc hr hk hK hst hn hs ?_
  rintro v N' M' ⟨rfl, rfl, hq⟩
  exact k M' hq
theorem zV_isq {idx n : Nat} {As st0 : List zv} (hd : decode X.cc pc = .ok (.invokestatic idx, 3)) (hl : Cond.methodLink X.own idx y ∈ zTb) (hc : zCS y Y n) (hr : zRm0 X Y = true) (hk : kc ≤ X.rm.cells ∧ ks ≤ X.rm.slots) {z : zv} {Q : zM → Prop} (hK : zK g y Y As N M (zPq z N Q)) (hst : st0 = As.reverse ++ st) (hn : As.length = n) (hs : (st.map fun v => if v.1 = 1 then 2 else 1).sum ≤ 8) (k : ∀ M' : zM, Q M' → zV g X P (pc + 3) ls (z :: st) N M' kc ks) : zV g X P pc ls st0 N M kc ks := by
  refine zV_iss hd hl hc hr hk hK hst hn hs ?_
  rintro v N' M' ⟨rfl, rfl, hq⟩
  exact k M' hq
theorem zV_isNn {idx n : Nat} {host : String} {As st0 : List zv} (hd : decode X.cc pc = .ok (.invokestatic idx, 3)) (hl : Cond.methodLinkNest X.own idx y host ∈ zTb) (hc : zCS y Y n) (hr : zRm0 X Y = true) (hk : kc ≤ X.rm.cells ∧ ks ≤ X.rm.slots) {Q : zM → Prop} (hK : zK g y Y As N M (zPn N Q)) (hst : st0 = As.reverse ++ st) (hn : As.length = n) (hs : (st.map fun v => if v.1 = 1 then 2 else 1).sum ≤ 8) (k : ∀ M' : zM, Q M' → zV g X P (pc + 3) ls st N M' kc ks) : zV g X P pc ls st0 N M kc ks := by
  refine zV_isNs hd hl hc hr hk hK hst hn hs ?_
  rintro v N' M' ⟨rfl, rfl, hq⟩
  exact k M' hq
theorem zV_isNq {idx n : Nat} {host : String} {As st0 : List zv} (hd : decode X.cc pc = .ok (.invokestatic idx, 3)) (hl : Cond.methodLinkNest X.own idx y host ∈ zTb) (hc : zCS y Y n) (hr : zRm0 X Y = true) (hk : kc ≤ X.rm.cells ∧ ks ≤ X.rm.slots) {z : zv} {Q : zM → Prop} (hK : zK g y Y As N M (zPq z N Q)) (hst : st0 = As.reverse ++ st) (hn : As.length = n) (hs : (st.map fun v => if v.1 = 1 then 2 else 1).sum ≤ 8) (k : ∀ M' : zM, Q M' → zV g X P (pc + 3) ls (z :: st) N M' kc ks) : zV g X P pc ls st0 N M kc ks := by
  refine zV_isNs hd hl hc hr hk hK hst hn hs ?_
  rintro v N' M' ⟨rfl, rfl, hq⟩
  exact k M' hq
end
