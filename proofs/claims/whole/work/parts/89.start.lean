/-! THE CLAIM'S START: the texts, the script, the classes; then the law's walk (by hand) -/
/-- what the start says of text i -/
def lw_str (i : Nat) : List Cond := [Cond.exactly (tmJS i) "java/lang/String", Cond.eq (.field (tmJS i) "java/lang/String" "coder" "B") (.int 0), Cond.arrayOf (.field (tmJS i) "java/lang/String" "value" "[B") .byte, Cond.eq (.length (.field (tmJS i) "java/lang/String" "value" "[B")) (.int (Int32.ofNat (lenJS.getD i 0)))] ++ ((List.range (lenJS.getD i 0)).map (fun j => Cond.eq (.elem (.field (tmJS i) "java/lang/String" "value" "[B") (.int (Int32.ofNat j))) (.int ((bytJS.getD i []).getD j 0))) ++ (List.range i).map (fun j => Cond.not (Cond.eq (tmJS j) (tmJS i))))
set_option maxRecDepth 20000 in
theorem lw_strs : (flatC (Cond.and given_1 narrow_1)).drop 42 = (List.range 14).flatMap lw_str := by decide +kernel
def lw_sr : List Nat := [197, 279, 280, 281, 282, 283, 284, 285, 286, 287, 288, 289, 290, 301]
theorem lw_srs : ∀ i, i < 14 → tables_1[lw_sr.getD i 0]? = some (Cond.stringRef (ownJS.getD i "") (idxJS.getD i 0) (txtJS.getD i "")) := by decide +kernel
theorem lw_lens : ∀ i, i < 14 → lenJS.getD i 0 < 2 ^ 31 := by decide +kernel
theorem lw_in {w : Cond} (i : Nat) (h : tables_1[i]? = some w) : w ∈ lw_tbl := List.mem_append_right _ (List.mem_of_getElem? h)
theorem lw_ty {ci : Nat} (h : ci < 11) : Cond.instantiable (zcl ci).1 (zcl ci).2.2 ∈ zTb := by
  match ci, h with
  | 0, _ => exact icX0
  | 1, _ => exact icX1
  | 2, _ => exact icX2
  | 3, _ => exact icX3
  | 4, _ => exact icX4
  | 5, _ => exact icX5
  | 6, _ => exact icX6
  | 7, _ => exact icX7
  | 8, _ => exact icX8
  | 9, _ => exact icX9
  | 10, _ => exact icX10
/-- the memory at the start: any will do that says where the later places lie -/
def zM0 : zM := fun a j => ((zstL.find? (fun q => decide (q.1 = a) && decide (q.2.1 = j))).map (fun q => q.2.2)).getD 0
theorem zM0_ok : ∀ q ∈ zstL, 52 ≤ q.1 → zM0 q.1 q.2.1 = q.2.2 := by decide +kernel
/-- the addresses of what is old -/
def lw_ext (adK adV : Nat → Nat) (t b L : Nat) (xs : Nat → Int32) (n : Nat) : Nat := if n < 100 then adK n else if n < 200 then adV (n - 100) else if n = 200 then t else if n = 300 then b else if n = 301 then L else ((xs (n - 1000)).toInt % 4294967296).toNat
theorem lw_xs {adK adV : Nat → Nat} {t b L : Nat} {xs : Nat → Int32} (j : Nat) : Int32.ofInt ((lw_ext adK adV t b L xs (1000 + j) : Nat) : Int) = xs j := by
  have e : lw_ext adK adV t b L xs (1000 + j) = ((xs j).toInt % 4294967296).toNat := by
    unfold lw_ext
    rw [if_neg (by omega), if_neg (by omega), if_neg (by omega), if_neg (by omega), if_neg (by omega), Nat.add_sub_cancel_left]
  rw [e]
  have q : Int32.ofInt ((((xs j).toInt % 4294967296).toNat : Nat) : Int) = Int32.ofInt (xs j).toInt := zw_ee.mpr (by unfold zw; omega)
  rw [q, Int32.ofInt_toInt]
section
variable {s : State} {b : Nat}
theorem lw_texts (hts : ∀ w ∈ lw_tbl, w.before #[Value.ref b] s = true) (hgv : (Jvm.Cond.and given_1 narrow_1).before #[Value.ref b] s = true) : ∃ adK adV : Nat → Nat, vk_S nJS lenJS bytJS adK adV (fun q => s.heap.size ≤ q) s s.heap ∧ ∀ i : Nat, i < nJS → vk_R (ownJS.getD i "") (idxJS.getD i 0) (txtJS.getD i "") (adK i) s := by
  have hF := flat_of_before _ hgv
  have hm : ∀ i, i < 14 → ∀ w ∈ lw_str i, w.before #[Value.ref b] s = true := fun i hi w hw => hF w (List.mem_of_mem_drop (i := 42) (by rw [lw_strs]; exact List.mem_flatMap.mpr ⟨i, List.mem_range.mpr hi, hw⟩))
  obtain ⟨adK, adV, h1, h2⟩ := vk_Sof (args := #[Value.ref b]) (s := s) (N := nJS) (tm := tmJS) (len := lenJS) (byt := bytJS) (A := fun q => s.heap.size ≤ q) lw_lens
    (fun i hi => hm i hi _ (List.mem_append_left _ List.mem_cons_self))
    (fun i hi => hm i hi _ (List.mem_append_left _ (List.mem_cons_of_mem _ List.mem_cons_self)))
    (fun i hi => hm i hi _ (List.mem_append_left _ (List.mem_cons_of_mem _ (List.mem_cons_of_mem _ List.mem_cons_self))))
    (fun i hi => hm i hi _ (List.mem_append_left _ (List.mem_cons_of_mem _ (List.mem_cons_of_mem _ (List.mem_cons_of_mem _ List.mem_cons_self)))))
    (fun i hi j hj => hm i hi _ (List.mem_append_right _ (List.mem_append_left _ (List.mem_map.mpr ⟨j, List.mem_range.mpr hj, rfl⟩))))
    (fun i j hi hj hij => by
      rcases Nat.lt_or_gt_of_ne hij with q | q
      · exact Or.inl (hm j hj _ (List.mem_append_right _ (List.mem_append_right _ (List.mem_map.mpr ⟨i, List.mem_range.mpr q, rfl⟩))))
      · exact Or.inr (hm i hi _ (List.mem_append_right _ (List.mem_append_right _ (List.mem_map.mpr ⟨j, List.mem_range.mpr q, rfl⟩)))))
    (fun a ha => Nat.not_le.mpr ha)
  exact ⟨adK, adV, h1, fun i hi => vk_R.of (hts _ (lw_in _ (lw_srs i hi))) (h2 i hi)⟩
theorem lw_kn (htb : ∀ w ∈ zTb, w.before #[Value.ref b] s = true) : ∃ (dC : Nat → ClassId) (dI : Nat → Nat → Nat), ∀ (k : Nat) (q : vw_C), vwCl[k]? = some q → u_Kn s q.1 q.2.1 q.2.2 (dC k) (dI k) := by
  have h : ∀ k : Nat, ∃ q : ClassId × (Nat → Nat), k < 11 → u_Kn s (zcl k).1 (zcl k).2.1 (zcl k).2.2 q.1 q.2 := by
    intro k
    by_cases hk : k < 11
    · obtain ⟨c, i, q⟩ := u_known (C := (zcl k).1) (T := (zcl k).2.1) (N := (zcl k).2.2) (n := (zcl k).2.2) htb (zws hk) (htb _ (lw_ty hk))
      exact ⟨(c, i), fun _ => q⟩
    · obtain ⟨c, i, -⟩ := u_known (C := (zcl 0).1) (T := (zcl 0).2.1) (N := (zcl 0).2.2) (n := (zcl 0).2.2) htb (zws (by decide)) (htb _ (lw_ty (by decide)))
      exact ⟨(c, i), fun q => absurd q hk⟩
  obtain ⟨f, hf⟩ := Classical.axiomOfChoice h
  refine ⟨fun k => (f k).1, fun k => (f k).2, fun k q hq => ?_⟩
  have hk : k < 11 := (List.getElem?_eq_some_iff.mp hq).1
  have e : q = zcl k := Option.some.inj (hq.symm.trans (zcl_at hk))
  rw [e]
  exact hf k hk
end
