/-! CONSTRUCTORS: what stands behind both (printed by wip/whole/p71.py) -/
theorem zFr.nw {C : Int → Int → Prop} {M M1 : zM} {a : Int} {d : Int → Int} (h1 : zFr C M M1) (hC : ∀ j, C a j) : zFr C M (zNw M1 a d) := by
  intro a' j' hc
  refine Eq.trans (zNw_a M1 a d (fun e => hc ?_)) (h1 a' j' hc)
  rw [e]
  exact hC j'
def zB58 (a _j : Int) : Prop := 0 ≤ a ∧ a < 58
def zB75 (a _j : Int) : Prop := 58 ≤ a ∧ a < 75
theorem zi9_fr {M : zM} : zFr zB58 M (zi9c (zi9b (zi9a M))) := by
  unfold zi9c zi9b zi9a zro1 zro9
  (repeat (first | exact zFr.rf | refine zFr.up ?_ ⟨by decide, by decide⟩ | refine zFr.nw ?_ (fun _ => ⟨by decide, by decide⟩)))
theorem zmdl_fr {M : zM} : zFr zB75 M (zmdl M) := by
  unfold zmdl zsl
  (repeat (first | exact zFr.rf | refine zFr.up ?_ ⟨by decide, by decide⟩ | refine zFr.nw ?_ (fun _ => ⟨by decide, by decide⟩)))
theorem zi9_sw {M : zM} (h : ∀ q ∈ zstL, 52 ≤ q.1 → M q.1 q.2.1 = q.2.2) : zSw (zi9c (zi9b (zi9a M))) := by
  unfold zSw zSt
  unfold zstL at h ⊢
  refine List.forall_mem_cons.mpr ⟨rfl, ?_⟩
  refine List.forall_mem_cons.mpr ⟨rfl, ?_⟩
  refine List.forall_mem_cons.mpr ⟨rfl, ?_⟩
  refine List.forall_mem_cons.mpr ⟨rfl, ?_⟩
  refine List.forall_mem_cons.mpr ⟨rfl, ?_⟩
  refine List.forall_mem_cons.mpr ⟨rfl, ?_⟩
  refine List.forall_mem_cons.mpr ⟨rfl, ?_⟩
  refine List.forall_mem_cons.mpr ⟨rfl, ?_⟩
  refine List.forall_mem_cons.mpr ⟨rfl, ?_⟩
  refine List.forall_mem_cons.mpr ⟨rfl, ?_⟩
  refine List.forall_mem_cons.mpr ⟨rfl, ?_⟩
  refine List.forall_mem_cons.mpr ⟨rfl, ?_⟩
  refine List.forall_mem_cons.mpr ⟨rfl, ?_⟩
  refine List.forall_mem_cons.mpr ⟨rfl, ?_⟩
  refine List.forall_mem_cons.mpr ⟨rfl, ?_⟩
  refine List.forall_mem_cons.mpr ⟨rfl, ?_⟩
  refine List.forall_mem_cons.mpr ⟨rfl, ?_⟩
  refine List.forall_mem_cons.mpr ⟨rfl, ?_⟩
  refine List.forall_mem_cons.mpr ⟨rfl, ?_⟩
  refine List.forall_mem_cons.mpr ⟨rfl, ?_⟩
  refine List.forall_mem_cons.mpr ⟨rfl, ?_⟩
  refine List.forall_mem_cons.mpr ⟨rfl, ?_⟩
  refine List.forall_mem_cons.mpr ⟨rfl, ?_⟩
  refine List.forall_mem_cons.mpr ⟨rfl, ?_⟩
  refine List.forall_mem_cons.mpr ⟨rfl, ?_⟩
  refine List.forall_mem_cons.mpr ⟨rfl, ?_⟩
  refine List.forall_mem_cons.mpr ⟨rfl, ?_⟩
  refine List.forall_mem_cons.mpr ⟨rfl, ?_⟩
  refine List.forall_mem_cons.mpr ⟨rfl, ?_⟩
  refine List.forall_mem_cons.mpr ⟨rfl, ?_⟩
  refine List.forall_mem_cons.mpr ⟨rfl, ?_⟩
  refine List.forall_mem_cons.mpr ⟨rfl, ?_⟩
  refine List.forall_mem_cons.mpr ⟨rfl, ?_⟩
  refine List.forall_mem_cons.mpr ⟨rfl, ?_⟩
  refine List.forall_mem_cons.mpr ⟨rfl, ?_⟩
  refine List.forall_mem_cons.mpr ⟨rfl, ?_⟩
  refine List.forall_mem_cons.mpr ⟨rfl, ?_⟩
  refine List.forall_mem_cons.mpr ⟨rfl, ?_⟩
  refine List.forall_mem_cons.mpr ⟨rfl, ?_⟩
  refine List.forall_mem_cons.mpr ⟨rfl, ?_⟩
  refine List.forall_mem_cons.mpr ⟨rfl, ?_⟩
  refine List.forall_mem_cons.mpr ⟨rfl, ?_⟩
  refine List.forall_mem_cons.mpr ⟨rfl, ?_⟩
  refine List.forall_mem_cons.mpr ⟨rfl, ?_⟩
  refine List.forall_mem_cons.mpr ⟨rfl, ?_⟩
  refine List.forall_mem_cons.mpr ⟨rfl, ?_⟩
  refine List.forall_mem_cons.mpr ⟨rfl, ?_⟩
  refine List.forall_mem_cons.mpr ⟨rfl, ?_⟩
  refine List.forall_mem_cons.mpr ⟨rfl, ?_⟩
  refine List.forall_mem_cons.mpr ⟨rfl, ?_⟩
  refine List.forall_mem_cons.mpr ⟨rfl, ?_⟩
  refine List.forall_mem_cons.mpr ⟨rfl, ?_⟩
  refine List.forall_mem_cons.mpr ⟨h (52, 0, 1) (by decide) (by decide), ?_⟩
  refine List.forall_mem_cons.mpr ⟨h (52, 1, 17) (by decide) (by decide), ?_⟩
  refine List.forall_mem_cons.mpr ⟨h (52, 2, 53) (by decide) (by decide), ?_⟩
  refine List.forall_mem_cons.mpr ⟨h (52, 3, 56) (by decide) (by decide), ?_⟩
  refine List.forall_mem_cons.mpr ⟨h (52, 4, 57) (by decide) (by decide), ?_⟩
  refine List.forall_mem_cons.mpr ⟨h (53, 0, 54) (by decide) (by decide), ?_⟩
  refine List.forall_mem_cons.mpr ⟨h (53, 1, 55) (by decide) (by decide), ?_⟩
  refine List.forall_mem_cons.mpr ⟨h (58, 1, 59) (by decide) (by decide), ?_⟩
  refine List.forall_mem_cons.mpr ⟨h (58, 2, 60) (by decide) (by decide), ?_⟩
  refine List.forall_mem_cons.mpr ⟨h (58, 5, 61) (by decide) (by decide), ?_⟩
  refine List.forall_mem_cons.mpr ⟨h (58, 8, 62) (by decide) (by decide), ?_⟩
  refine List.forall_mem_cons.mpr ⟨h (58, 9, 63) (by decide) (by decide), ?_⟩
  refine List.forall_mem_cons.mpr ⟨h (58, 10, 64) (by decide) (by decide), ?_⟩
  refine List.forall_mem_cons.mpr ⟨h (58, 11, 65) (by decide) (by decide), ?_⟩
  refine List.forall_mem_cons.mpr ⟨h (58, 28, 66) (by decide) (by decide), ?_⟩
  refine List.forall_mem_cons.mpr ⟨h (58, 29, 67) (by decide) (by decide), ?_⟩
  refine List.forall_mem_cons.mpr ⟨h (58, 30, 68) (by decide) (by decide), ?_⟩
  refine List.forall_mem_cons.mpr ⟨h (58, 34, 69) (by decide) (by decide), ?_⟩
  refine List.forall_mem_cons.mpr ⟨h (58, 35, 70) (by decide) (by decide), ?_⟩
  refine List.forall_mem_cons.mpr ⟨h (58, 39, 71) (by decide) (by decide), ?_⟩
  refine List.forall_mem_cons.mpr ⟨h (58, 40, 72) (by decide) (by decide), ?_⟩
  refine List.forall_mem_cons.mpr ⟨h (58, 41, 73) (by decide) (by decide), ?_⟩
  refine List.forall_mem_cons.mpr ⟨h (58, 42, 74) (by decide) (by decide), ?_⟩
  exact fun q hq => absurd hq List.not_mem_nil
/-- the class's memory, when it is made: M1 after the reading -/
def zing (M2 : zM) : zM := zU (zal (zNw (zU (zU M2 18 1 0) 0 4 1) 52 (fun j => zdf (zty 0 j.toNat)))) 0 6 52
def zRdF (a j : Int) : Prop := (a = 19 ∨ (a = 18 ∧ 1 ≤ j)) ∨ a = 26 ∨ a = 27 ∨ a = 28
theorem zing_st {M M2 : zM} (h : ∀ q ∈ zstL, 52 ≤ q.1 → M q.1 q.2.1 = q.2.2) (f : zFr zRdF (zi9c (zi9b (zi9a M))) M2) (h0 : M2 26 0 = 27) (h1 : M2 26 1 = 28) : zSt (zing M2) := by
  unfold zSt
  unfold zstL at h ⊢
  refine List.forall_mem_cons.mpr ⟨(f 0 0 (by unfold zRdF; decide)).trans rfl, ?_⟩
  refine List.forall_mem_cons.mpr ⟨(f 0 1 (by unfold zRdF; decide)).trans rfl, ?_⟩
  refine List.forall_mem_cons.mpr ⟨(f 0 3 (by unfold zRdF; decide)).trans rfl, ?_⟩
  refine List.forall_mem_cons.mpr ⟨(f 0 5 (by unfold zRdF; decide)).trans rfl, ?_⟩
  refine List.forall_mem_cons.mpr ⟨rfl, ?_⟩
  refine List.forall_mem_cons.mpr ⟨(f 0 7 (by unfold zRdF; decide)).trans rfl, ?_⟩
  refine List.forall_mem_cons.mpr ⟨(f 0 8 (by unfold zRdF; decide)).trans rfl, ?_⟩
  refine List.forall_mem_cons.mpr ⟨(f 0 9 (by unfold zRdF; decide)).trans rfl, ?_⟩
  refine List.forall_mem_cons.mpr ⟨(f 0 10 (by unfold zRdF; decide)).trans rfl, ?_⟩
  refine List.forall_mem_cons.mpr ⟨(f 1 0 (by unfold zRdF; decide)).trans rfl, ?_⟩
  refine List.forall_mem_cons.mpr ⟨(f 2 0 (by unfold zRdF; decide)).trans rfl, ?_⟩
  refine List.forall_mem_cons.mpr ⟨(f 2 1 (by unfold zRdF; decide)).trans rfl, ?_⟩
  refine List.forall_mem_cons.mpr ⟨(f 2 2 (by unfold zRdF; decide)).trans rfl, ?_⟩
  refine List.forall_mem_cons.mpr ⟨(f 2 3 (by unfold zRdF; decide)).trans rfl, ?_⟩
  refine List.forall_mem_cons.mpr ⟨(f 2 4 (by unfold zRdF; decide)).trans rfl, ?_⟩
  refine List.forall_mem_cons.mpr ⟨(f 2 5 (by unfold zRdF; decide)).trans rfl, ?_⟩
  refine List.forall_mem_cons.mpr ⟨(f 9 0 (by unfold zRdF; decide)).trans rfl, ?_⟩
  refine List.forall_mem_cons.mpr ⟨(f 10 0 (by unfold zRdF; decide)).trans rfl, ?_⟩
  refine List.forall_mem_cons.mpr ⟨(f 10 1 (by unfold zRdF; decide)).trans rfl, ?_⟩
  refine List.forall_mem_cons.mpr ⟨(f 10 2 (by unfold zRdF; decide)).trans rfl, ?_⟩
  refine List.forall_mem_cons.mpr ⟨(f 10 3 (by unfold zRdF; decide)).trans rfl, ?_⟩
  refine List.forall_mem_cons.mpr ⟨(f 10 4 (by unfold zRdF; decide)).trans rfl, ?_⟩
  refine List.forall_mem_cons.mpr ⟨(f 10 5 (by unfold zRdF; decide)).trans rfl, ?_⟩
  refine List.forall_mem_cons.mpr ⟨(f 17 0 (by unfold zRdF; decide)).trans rfl, ?_⟩
  refine List.forall_mem_cons.mpr ⟨(f 17 1 (by unfold zRdF; decide)).trans rfl, ?_⟩
  refine List.forall_mem_cons.mpr ⟨(f 17 2 (by unfold zRdF; decide)).trans rfl, ?_⟩
  refine List.forall_mem_cons.mpr ⟨(f 17 3 (by unfold zRdF; decide)).trans rfl, ?_⟩
  refine List.forall_mem_cons.mpr ⟨(f 17 4 (by unfold zRdF; decide)).trans rfl, ?_⟩
  refine List.forall_mem_cons.mpr ⟨(f 17 5 (by unfold zRdF; decide)).trans rfl, ?_⟩
  refine List.forall_mem_cons.mpr ⟨(f 18 0 (by unfold zRdF; decide)).trans rfl, ?_⟩
  refine List.forall_mem_cons.mpr ⟨(f 21 0 (by unfold zRdF; decide)).trans rfl, ?_⟩
  refine List.forall_mem_cons.mpr ⟨(f 21 4 (by unfold zRdF; decide)).trans rfl, ?_⟩
  refine List.forall_mem_cons.mpr ⟨(f 25 0 (by unfold zRdF; decide)).trans rfl, ?_⟩
  refine List.forall_mem_cons.mpr ⟨(f 25 1 (by unfold zRdF; decide)).trans rfl, ?_⟩
  refine List.forall_mem_cons.mpr ⟨(f 25 2 (by unfold zRdF; decide)).trans rfl, ?_⟩
  refine List.forall_mem_cons.mpr ⟨(f 25 3 (by unfold zRdF; decide)).trans rfl, ?_⟩
  refine List.forall_mem_cons.mpr ⟨h0, ?_⟩
  refine List.forall_mem_cons.mpr ⟨h1, ?_⟩
  refine List.forall_mem_cons.mpr ⟨(f 29 0 (by unfold zRdF; decide)).trans rfl, ?_⟩
  refine List.forall_mem_cons.mpr ⟨(f 29 1 (by unfold zRdF; decide)).trans rfl, ?_⟩
  refine List.forall_mem_cons.mpr ⟨(f 32 0 (by unfold zRdF; decide)).trans rfl, ?_⟩
  refine List.forall_mem_cons.mpr ⟨(f 32 1 (by unfold zRdF; decide)).trans rfl, ?_⟩
  refine List.forall_mem_cons.mpr ⟨(f 35 0 (by unfold zRdF; decide)).trans rfl, ?_⟩
  refine List.forall_mem_cons.mpr ⟨(f 35 1 (by unfold zRdF; decide)).trans rfl, ?_⟩
  refine List.forall_mem_cons.mpr ⟨(f 38 0 (by unfold zRdF; decide)).trans rfl, ?_⟩
  refine List.forall_mem_cons.mpr ⟨(f 38 1 (by unfold zRdF; decide)).trans rfl, ?_⟩
  refine List.forall_mem_cons.mpr ⟨(f 41 0 (by unfold zRdF; decide)).trans rfl, ?_⟩
  refine List.forall_mem_cons.mpr ⟨(f 41 1 (by unfold zRdF; decide)).trans rfl, ?_⟩
  refine List.forall_mem_cons.mpr ⟨(f 44 2 (by unfold zRdF; decide)).trans rfl, ?_⟩
  refine List.forall_mem_cons.mpr ⟨(f 46 2 (by unfold zRdF; decide)).trans rfl, ?_⟩
  refine List.forall_mem_cons.mpr ⟨(f 48 2 (by unfold zRdF; decide)).trans rfl, ?_⟩
  refine List.forall_mem_cons.mpr ⟨(f 50 2 (by unfold zRdF; decide)).trans rfl, ?_⟩
  refine List.forall_mem_cons.mpr ⟨rfl, ?_⟩
  refine List.forall_mem_cons.mpr ⟨rfl, ?_⟩
  refine List.forall_mem_cons.mpr ⟨rfl, ?_⟩
  refine List.forall_mem_cons.mpr ⟨rfl, ?_⟩
  refine List.forall_mem_cons.mpr ⟨rfl, ?_⟩
  refine List.forall_mem_cons.mpr ⟨rfl, ?_⟩
  refine List.forall_mem_cons.mpr ⟨rfl, ?_⟩
  refine List.forall_mem_cons.mpr ⟨(f 58 1 (by unfold zRdF; decide)).trans ((zi9_fr 58 1 (by unfold zB58; decide)).trans (h (58, 1, 59) (by decide) (by decide))), ?_⟩
  refine List.forall_mem_cons.mpr ⟨(f 58 2 (by unfold zRdF; decide)).trans ((zi9_fr 58 2 (by unfold zB58; decide)).trans (h (58, 2, 60) (by decide) (by decide))), ?_⟩
  refine List.forall_mem_cons.mpr ⟨(f 58 5 (by unfold zRdF; decide)).trans ((zi9_fr 58 5 (by unfold zB58; decide)).trans (h (58, 5, 61) (by decide) (by decide))), ?_⟩
  refine List.forall_mem_cons.mpr ⟨(f 58 8 (by unfold zRdF; decide)).trans ((zi9_fr 58 8 (by unfold zB58; decide)).trans (h (58, 8, 62) (by decide) (by decide))), ?_⟩
  refine List.forall_mem_cons.mpr ⟨(f 58 9 (by unfold zRdF; decide)).trans ((zi9_fr 58 9 (by unfold zB58; decide)).trans (h (58, 9, 63) (by decide) (by decide))), ?_⟩
  refine List.forall_mem_cons.mpr ⟨(f 58 10 (by unfold zRdF; decide)).trans ((zi9_fr 58 10 (by unfold zB58; decide)).trans (h (58, 10, 64) (by decide) (by decide))), ?_⟩
  refine List.forall_mem_cons.mpr ⟨(f 58 11 (by unfold zRdF; decide)).trans ((zi9_fr 58 11 (by unfold zB58; decide)).trans (h (58, 11, 65) (by decide) (by decide))), ?_⟩
  refine List.forall_mem_cons.mpr ⟨(f 58 28 (by unfold zRdF; decide)).trans ((zi9_fr 58 28 (by unfold zB58; decide)).trans (h (58, 28, 66) (by decide) (by decide))), ?_⟩
  refine List.forall_mem_cons.mpr ⟨(f 58 29 (by unfold zRdF; decide)).trans ((zi9_fr 58 29 (by unfold zB58; decide)).trans (h (58, 29, 67) (by decide) (by decide))), ?_⟩
  refine List.forall_mem_cons.mpr ⟨(f 58 30 (by unfold zRdF; decide)).trans ((zi9_fr 58 30 (by unfold zB58; decide)).trans (h (58, 30, 68) (by decide) (by decide))), ?_⟩
  refine List.forall_mem_cons.mpr ⟨(f 58 34 (by unfold zRdF; decide)).trans ((zi9_fr 58 34 (by unfold zB58; decide)).trans (h (58, 34, 69) (by decide) (by decide))), ?_⟩
  refine List.forall_mem_cons.mpr ⟨(f 58 35 (by unfold zRdF; decide)).trans ((zi9_fr 58 35 (by unfold zB58; decide)).trans (h (58, 35, 70) (by decide) (by decide))), ?_⟩
  refine List.forall_mem_cons.mpr ⟨(f 58 39 (by unfold zRdF; decide)).trans ((zi9_fr 58 39 (by unfold zB58; decide)).trans (h (58, 39, 71) (by decide) (by decide))), ?_⟩
  refine List.forall_mem_cons.mpr ⟨(f 58 40 (by unfold zRdF; decide)).trans ((zi9_fr 58 40 (by unfold zB58; decide)).trans (h (58, 40, 72) (by decide) (by decide))), ?_⟩
  refine List.forall_mem_cons.mpr ⟨(f 58 41 (by unfold zRdF; decide)).trans ((zi9_fr 58 41 (by unfold zB58; decide)).trans (h (58, 41, 73) (by decide) (by decide))), ?_⟩
  refine List.forall_mem_cons.mpr ⟨(f 58 42 (by unfold zRdF; decide)).trans ((zi9_fr 58 42 (by unfold zB58; decide)).trans (h (58, 42, 74) (by decide) (by decide))), ?_⟩
  exact fun q hq => absurd hq List.not_mem_nil
theorem zing_rt {M2 : zM} (h : zRT M2 0 ytc 43) : zRT (zing M2) 0 ytc 43 := h
theorem zing_fr {M M2 : zM} (f : zFr zRdF (zi9c (zi9b (zi9a M))) M2) : zFr zB58 M (zing M2) := by
  have f2 : zFr zB58 M M2 := zi9_fr.tr (f.mono (fun a j y => by unfold zRdF at y; unfold zB58; omega))
  refine f2.tr ?_
  unfold zing zal
  (repeat (first | exact zFr.rf | refine zFr.up ?_ ⟨by decide, by decide⟩ | refine zFr.nw ?_ (fun _ => ⟨by decide, by decide⟩)))
theorem zing_sh {M M2 : zM} (f : zFr zRdF (zi9c (zi9b (zi9a M))) M2) : ∀ s : Int, 0 ≤ s → s < 4 → zing M2 (44 + 2 * s) 0 = -1 ∧ zing M2 (44 + 2 * s) 1 = 0 ∧ ∀ i : Int, zing M2 (45 + 2 * s) i = 0 := by
  intro s s0 s1
  rcases (show s = 0 ∨ s = 1 ∨ s = 2 ∨ s = 3 by omega) with rfl | rfl | rfl | rfl
  · exact ⟨(f 44 0 (by unfold zRdF; decide)).trans rfl, (f 44 1 (by unfold zRdF; decide)).trans rfl, fun i => (f 45 i (by unfold zRdF; omega)).trans rfl⟩
  · exact ⟨(f 46 0 (by unfold zRdF; decide)).trans rfl, (f 46 1 (by unfold zRdF; decide)).trans rfl, fun i => (f 47 i (by unfold zRdF; omega)).trans rfl⟩
  · exact ⟨(f 48 0 (by unfold zRdF; decide)).trans rfl, (f 48 1 (by unfold zRdF; decide)).trans rfl, fun i => (f 49 i (by unfold zRdF; omega)).trans rfl⟩
  · exact ⟨(f 50 0 (by unfold zRdF; decide)).trans rfl, (f 50 1 (by unfold zRdF; decide)).trans rfl, fun i => (f 51 i (by unfold zRdF; omega)).trans rfl⟩
theorem zing_v {M M2 : zM} (f : zFr zRdF (zi9c (zi9b (zi9a M))) M2) : zing M2 1 1 = 0 ∧ zing M2 1 2 = 0 ∧ zing M2 1 3 = 0 ∧ zing M2 0 2 = M 0 2 ∧ zing M2 0 4 = 1 ∧ zing M2 18 1 = 0 :=
  ⟨(f 1 1 (by unfold zRdF; decide)).trans rfl, (f 1 2 (by unfold zRdF; decide)).trans rfl, (f 1 3 (by unfold zRdF; decide)).trans rfl, (f 0 2 (by unfold zRdF; decide)).trans rfl, rfl, rfl⟩
theorem zmdl_st {M : zM} (h : ∀ q ∈ zstL, q.1 < 58 → M q.1 q.2.1 = q.2.2) : zSt (zmdl M) := by
  unfold zSt
  unfold zstL at h ⊢
  refine List.forall_mem_cons.mpr ⟨(zmdl_fr 0 0 (by unfold zB75; decide)).trans (h (0, 0, 1) (by decide) (by decide)), ?_⟩
  refine List.forall_mem_cons.mpr ⟨(zmdl_fr 0 1 (by unfold zB75; decide)).trans (h (0, 1, 9) (by decide) (by decide)), ?_⟩
  refine List.forall_mem_cons.mpr ⟨(zmdl_fr 0 3 (by unfold zB75; decide)).trans (h (0, 3, 17) (by decide) (by decide)), ?_⟩
  refine List.forall_mem_cons.mpr ⟨(zmdl_fr 0 5 (by unfold zB75; decide)).trans (h (0, 5, 18) (by decide) (by decide)), ?_⟩
  refine List.forall_mem_cons.mpr ⟨(zmdl_fr 0 6 (by unfold zB75; decide)).trans (h (0, 6, 52) (by decide) (by decide)), ?_⟩
  refine List.forall_mem_cons.mpr ⟨(zmdl_fr 0 7 (by unfold zB75; decide)).trans (h (0, 7, 20) (by decide) (by decide)), ?_⟩
  refine List.forall_mem_cons.mpr ⟨(zmdl_fr 0 8 (by unfold zB75; decide)).trans (h (0, 8, 21) (by decide) (by decide)), ?_⟩
  refine List.forall_mem_cons.mpr ⟨(zmdl_fr 0 9 (by unfold zB75; decide)).trans (h (0, 9, 24) (by decide) (by decide)), ?_⟩
  refine List.forall_mem_cons.mpr ⟨(zmdl_fr 0 10 (by unfold zB75; decide)).trans (h (0, 10, 25) (by decide) (by decide)), ?_⟩
  refine List.forall_mem_cons.mpr ⟨(zmdl_fr 1 0 (by unfold zB75; decide)).trans (h (1, 0, 2) (by decide) (by decide)), ?_⟩
  refine List.forall_mem_cons.mpr ⟨(zmdl_fr 2 0 (by unfold zB75; decide)).trans (h (2, 0, 3) (by decide) (by decide)), ?_⟩
  refine List.forall_mem_cons.mpr ⟨(zmdl_fr 2 1 (by unfold zB75; decide)).trans (h (2, 1, 4) (by decide) (by decide)), ?_⟩
  refine List.forall_mem_cons.mpr ⟨(zmdl_fr 2 2 (by unfold zB75; decide)).trans (h (2, 2, 5) (by decide) (by decide)), ?_⟩
  refine List.forall_mem_cons.mpr ⟨(zmdl_fr 2 3 (by unfold zB75; decide)).trans (h (2, 3, 6) (by decide) (by decide)), ?_⟩
  refine List.forall_mem_cons.mpr ⟨(zmdl_fr 2 4 (by unfold zB75; decide)).trans (h (2, 4, 7) (by decide) (by decide)), ?_⟩
  refine List.forall_mem_cons.mpr ⟨(zmdl_fr 2 5 (by unfold zB75; decide)).trans (h (2, 5, 8) (by decide) (by decide)), ?_⟩
  refine List.forall_mem_cons.mpr ⟨(zmdl_fr 9 0 (by unfold zB75; decide)).trans (h (9, 0, 10) (by decide) (by decide)), ?_⟩
  refine List.forall_mem_cons.mpr ⟨(zmdl_fr 10 0 (by unfold zB75; decide)).trans (h (10, 0, 11) (by decide) (by decide)), ?_⟩
  refine List.forall_mem_cons.mpr ⟨(zmdl_fr 10 1 (by unfold zB75; decide)).trans (h (10, 1, 12) (by decide) (by decide)), ?_⟩
  refine List.forall_mem_cons.mpr ⟨(zmdl_fr 10 2 (by unfold zB75; decide)).trans (h (10, 2, 13) (by decide) (by decide)), ?_⟩
  refine List.forall_mem_cons.mpr ⟨(zmdl_fr 10 3 (by unfold zB75; decide)).trans (h (10, 3, 14) (by decide) (by decide)), ?_⟩
  refine List.forall_mem_cons.mpr ⟨(zmdl_fr 10 4 (by unfold zB75; decide)).trans (h (10, 4, 15) (by decide) (by decide)), ?_⟩
  refine List.forall_mem_cons.mpr ⟨(zmdl_fr 10 5 (by unfold zB75; decide)).trans (h (10, 5, 16) (by decide) (by decide)), ?_⟩
  refine List.forall_mem_cons.mpr ⟨(zmdl_fr 17 0 (by unfold zB75; decide)).trans (h (17, 0, 26) (by decide) (by decide)), ?_⟩
  refine List.forall_mem_cons.mpr ⟨(zmdl_fr 17 1 (by unfold zB75; decide)).trans (h (17, 1, 29) (by decide) (by decide)), ?_⟩
  refine List.forall_mem_cons.mpr ⟨(zmdl_fr 17 2 (by unfold zB75; decide)).trans (h (17, 2, 32) (by decide) (by decide)), ?_⟩
  refine List.forall_mem_cons.mpr ⟨(zmdl_fr 17 3 (by unfold zB75; decide)).trans (h (17, 3, 35) (by decide) (by decide)), ?_⟩
  refine List.forall_mem_cons.mpr ⟨(zmdl_fr 17 4 (by unfold zB75; decide)).trans (h (17, 4, 38) (by decide) (by decide)), ?_⟩
  refine List.forall_mem_cons.mpr ⟨(zmdl_fr 17 5 (by unfold zB75; decide)).trans (h (17, 5, 41) (by decide) (by decide)), ?_⟩
  refine List.forall_mem_cons.mpr ⟨(zmdl_fr 18 0 (by unfold zB75; decide)).trans (h (18, 0, 19) (by decide) (by decide)), ?_⟩
  refine List.forall_mem_cons.mpr ⟨(zmdl_fr 21 0 (by unfold zB75; decide)).trans (h (21, 0, 22) (by decide) (by decide)), ?_⟩
  refine List.forall_mem_cons.mpr ⟨(zmdl_fr 21 4 (by unfold zB75; decide)).trans (h (21, 4, 23) (by decide) (by decide)), ?_⟩
  refine List.forall_mem_cons.mpr ⟨(zmdl_fr 25 0 (by unfold zB75; decide)).trans (h (25, 0, 44) (by decide) (by decide)), ?_⟩
  refine List.forall_mem_cons.mpr ⟨(zmdl_fr 25 1 (by unfold zB75; decide)).trans (h (25, 1, 46) (by decide) (by decide)), ?_⟩
  refine List.forall_mem_cons.mpr ⟨(zmdl_fr 25 2 (by unfold zB75; decide)).trans (h (25, 2, 48) (by decide) (by decide)), ?_⟩
  refine List.forall_mem_cons.mpr ⟨(zmdl_fr 25 3 (by unfold zB75; decide)).trans (h (25, 3, 50) (by decide) (by decide)), ?_⟩
  refine List.forall_mem_cons.mpr ⟨(zmdl_fr 26 0 (by unfold zB75; decide)).trans (h (26, 0, 27) (by decide) (by decide)), ?_⟩
  refine List.forall_mem_cons.mpr ⟨(zmdl_fr 26 1 (by unfold zB75; decide)).trans (h (26, 1, 28) (by decide) (by decide)), ?_⟩
  refine List.forall_mem_cons.mpr ⟨(zmdl_fr 29 0 (by unfold zB75; decide)).trans (h (29, 0, 30) (by decide) (by decide)), ?_⟩
  refine List.forall_mem_cons.mpr ⟨(zmdl_fr 29 1 (by unfold zB75; decide)).trans (h (29, 1, 31) (by decide) (by decide)), ?_⟩
  refine List.forall_mem_cons.mpr ⟨(zmdl_fr 32 0 (by unfold zB75; decide)).trans (h (32, 0, 33) (by decide) (by decide)), ?_⟩
  refine List.forall_mem_cons.mpr ⟨(zmdl_fr 32 1 (by unfold zB75; decide)).trans (h (32, 1, 34) (by decide) (by decide)), ?_⟩
  refine List.forall_mem_cons.mpr ⟨(zmdl_fr 35 0 (by unfold zB75; decide)).trans (h (35, 0, 36) (by decide) (by decide)), ?_⟩
  refine List.forall_mem_cons.mpr ⟨(zmdl_fr 35 1 (by unfold zB75; decide)).trans (h (35, 1, 37) (by decide) (by decide)), ?_⟩
  refine List.forall_mem_cons.mpr ⟨(zmdl_fr 38 0 (by unfold zB75; decide)).trans (h (38, 0, 39) (by decide) (by decide)), ?_⟩
  refine List.forall_mem_cons.mpr ⟨(zmdl_fr 38 1 (by unfold zB75; decide)).trans (h (38, 1, 40) (by decide) (by decide)), ?_⟩
  refine List.forall_mem_cons.mpr ⟨(zmdl_fr 41 0 (by unfold zB75; decide)).trans (h (41, 0, 42) (by decide) (by decide)), ?_⟩
  refine List.forall_mem_cons.mpr ⟨(zmdl_fr 41 1 (by unfold zB75; decide)).trans (h (41, 1, 43) (by decide) (by decide)), ?_⟩
  refine List.forall_mem_cons.mpr ⟨(zmdl_fr 44 2 (by unfold zB75; decide)).trans (h (44, 2, 45) (by decide) (by decide)), ?_⟩
  refine List.forall_mem_cons.mpr ⟨(zmdl_fr 46 2 (by unfold zB75; decide)).trans (h (46, 2, 47) (by decide) (by decide)), ?_⟩
  refine List.forall_mem_cons.mpr ⟨(zmdl_fr 48 2 (by unfold zB75; decide)).trans (h (48, 2, 49) (by decide) (by decide)), ?_⟩
  refine List.forall_mem_cons.mpr ⟨(zmdl_fr 50 2 (by unfold zB75; decide)).trans (h (50, 2, 51) (by decide) (by decide)), ?_⟩
  refine List.forall_mem_cons.mpr ⟨(zmdl_fr 52 0 (by unfold zB75; decide)).trans (h (52, 0, 1) (by decide) (by decide)), ?_⟩
  refine List.forall_mem_cons.mpr ⟨(zmdl_fr 52 1 (by unfold zB75; decide)).trans (h (52, 1, 17) (by decide) (by decide)), ?_⟩
  refine List.forall_mem_cons.mpr ⟨(zmdl_fr 52 2 (by unfold zB75; decide)).trans (h (52, 2, 53) (by decide) (by decide)), ?_⟩
  refine List.forall_mem_cons.mpr ⟨(zmdl_fr 52 3 (by unfold zB75; decide)).trans (h (52, 3, 56) (by decide) (by decide)), ?_⟩
  refine List.forall_mem_cons.mpr ⟨(zmdl_fr 52 4 (by unfold zB75; decide)).trans (h (52, 4, 57) (by decide) (by decide)), ?_⟩
  refine List.forall_mem_cons.mpr ⟨(zmdl_fr 53 0 (by unfold zB75; decide)).trans (h (53, 0, 54) (by decide) (by decide)), ?_⟩
  refine List.forall_mem_cons.mpr ⟨(zmdl_fr 53 1 (by unfold zB75; decide)).trans (h (53, 1, 55) (by decide) (by decide)), ?_⟩
  refine List.forall_mem_cons.mpr ⟨rfl, ?_⟩
  refine List.forall_mem_cons.mpr ⟨rfl, ?_⟩
  refine List.forall_mem_cons.mpr ⟨rfl, ?_⟩
  refine List.forall_mem_cons.mpr ⟨rfl, ?_⟩
  refine List.forall_mem_cons.mpr ⟨rfl, ?_⟩
  refine List.forall_mem_cons.mpr ⟨rfl, ?_⟩
  refine List.forall_mem_cons.mpr ⟨rfl, ?_⟩
  refine List.forall_mem_cons.mpr ⟨rfl, ?_⟩
  refine List.forall_mem_cons.mpr ⟨rfl, ?_⟩
  refine List.forall_mem_cons.mpr ⟨rfl, ?_⟩
  refine List.forall_mem_cons.mpr ⟨rfl, ?_⟩
  refine List.forall_mem_cons.mpr ⟨rfl, ?_⟩
  refine List.forall_mem_cons.mpr ⟨rfl, ?_⟩
  refine List.forall_mem_cons.mpr ⟨rfl, ?_⟩
  refine List.forall_mem_cons.mpr ⟨rfl, ?_⟩
  refine List.forall_mem_cons.mpr ⟨rfl, ?_⟩
  exact fun q hq => absurd hq List.not_mem_nil
/-- the model's memory, when it is made -/
def zmi (M : zM) : zM := zmdl (zNw M 58 (fun j => zdf (zty 10 j.toNat)))
theorem zmi_v {M : zM} : (zmi M 58 12 = 0 ∧ zmi M 58 7 = 0 ∧ zmi M 58 4 = 0 ∧ zmi M 58 3 = 1 ∧ zmi M 58 6 = 0 ∧ zmi M 58 36 = -1) ∧ zmi M 60 0 = 48 ∧ ∀ i : Int, zmi M 71 i = 0 ∧ zmi M 72 i = 0 ∧ zmi M 73 i = 0 ∧ zmi M 74 i = 0 := ⟨⟨rfl, rfl, rfl, rfl, rfl, rfl⟩, rfl, fun i => ⟨rfl, rfl, rfl, rfl⟩⟩
theorem zmi_n {M : zM} : zmi M 58 13 = 0 ∧ zmi M 58 14 = 0 ∧ zmi M 58 15 = 0 ∧ zmi M 58 16 = 0 ∧ zmi M 58 17 = 0 ∧ zmi M 58 18 = 0 := ⟨rfl, rfl, rfl, rfl, rfl, rfl⟩
theorem zmi_t {M : zM} : ∀ j : Int, 0 ≤ j → j < 48 → zmi M 59 j = ytm j := by
  intro j j0 j1
  rcases (show j = 0 ∨ j = 1 ∨ j = 2 ∨ j = 3 ∨ j = 4 ∨ j = 5 ∨ j = 6 ∨ j = 7 ∨ j = 8 ∨ j = 9 ∨ j = 10 ∨ j = 11 ∨ j = 12 ∨ j = 13 ∨ j = 14 ∨ j = 15 ∨ j = 16 ∨ j = 17 ∨ j = 18 ∨ j = 19 ∨ j = 20 ∨ j = 21 ∨ j = 22 ∨ j = 23 ∨ j = 24 ∨ j = 25 ∨ j = 26 ∨ j = 27 ∨ j = 28 ∨ j = 29 ∨ j = 30 ∨ j = 31 ∨ j = 32 ∨ j = 33 ∨ j = 34 ∨ j = 35 ∨ j = 36 ∨ j = 37 ∨ j = 38 ∨ j = 39 ∨ j = 40 ∨ j = 41 ∨ j = 42 ∨ j = 43 ∨ j = 44 ∨ j = 45 ∨ j = 46 ∨ j = 47 by omega) with rfl | rfl | rfl | rfl | rfl | rfl | rfl | rfl | rfl | rfl | rfl | rfl | rfl | rfl | rfl | rfl | rfl | rfl | rfl | rfl | rfl | rfl | rfl | rfl | rfl | rfl | rfl | rfl | rfl | rfl | rfl | rfl | rfl | rfl | rfl | rfl | rfl | rfl | rfl | rfl | rfl | rfl | rfl | rfl | rfl | rfl | rfl | rfl <;> rfl
section
variable {g : zG} {N : Nat} {M : zM}
set_option maxRecDepth 20000 in
set_option maxHeartbeats 2000000 in
theorem kX9_init (h : ∀ q ∈ zstL, 52 ≤ q.1 → M q.1 q.2.1 = q.2.2) : zK g yX9_init xX9_init [zr 0] 1 M (fun w N' M1 => w = none ∧ N' = 58 ∧ zSt M1 ∧ zRT M1 0 ytc 43 ∧ (M1 1 1 = 0 ∧ M1 1 2 = 0 ∧ M1 1 3 = 0 ∧ M1 0 2 = M 0 2 ∧ M1 0 4 = 1 ∧ M1 18 1 = 0) ∧ (∀ s : Int, 0 ≤ s → s < 4 → M1 (44 + 2 * s) 0 = -1 ∧ M1 (44 + 2 * s) 1 = 0 ∧ ∀ i : Int, M1 (45 + 2 * s) i = 0) ∧ zFr zB58 M M1) := by
  refine zK_of (ls0 := [zr 0, (3, 0)]) (by decide) rfl (by decide) rfl (Nat.le_of_ble_eq_true rfl) ?_
  refine kX9_in0 (kX9_in1 rfl (kX9_in2 rfl ((kX9_inR (zi9_sw h) rfl rfl rfl rfl rfl).mono ?_)))
  rintro v N9 M9 ⟨rfl, rfl, M2, h1, h2, h3, h4, rfl⟩
  exact ⟨rfl, rfl, zing_st h h2 h3 h4, zing_rt h1, zing_v h2, zing_sh h2, zing_fr h2⟩
end
