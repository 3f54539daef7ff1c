/-! the small pure methods of the class -/
section
variable {g : zG} {N : Nat} {M : zM}
set_option maxRecDepth 20000 in
set_option maxHeartbeats 2000000 in
theorem kX9_within {v a b : Int} (hv : -2147483648 ≤ v ∧ v ≤ 2147483647) (ha : -2147483648 ≤ a ∧ a ≤ 2147483647) (hb : -2147483648 ≤ b ∧ b ≤ 2147483647) : zK g yX9_within xX9_within [zi v, zi a, zi b] N M (zPp (zi (zb (a ≤ v ∧ v ≤ b))) N M) := by
  refine zK_of (by decide) rfl (by decide) rfl (Nat.le_of_ble_eq_true rfl) ?_
  refine zV_iload_n (pc := 0) (i := 0) dX9_within_0 rfl rfl ?_
  refine zV_iload_n (pc := 1) (i := 1) dX9_within_1 rfl rfl ?_
  refine zV_icmp_lt (pc := 2) (tgt := 14) dX9_within_2 (by decide) (by omega) (fun c_2 => ?_) (fun c_2 => ?_)
  · refine zV_iconst (pc := 14) dX9_within_14 ?_
    refine zV_iret (pc := 15) dX9_within_15 (by first | exact zok_b1 | exact zok_b0) ⟨Nat.zero_le _, Nat.zero_le _⟩ ?_
    first
      | exact ⟨by rw [zb_t (by omega)], rfl, rfl⟩
      | exact ⟨by rw [zb_f (by omega)], rfl, rfl⟩
  · refine zV_iload_n (pc := 5) (i := 0) dX9_within_5 rfl rfl ?_
    refine zV_iload_n (pc := 6) (i := 2) dX9_within_6 rfl rfl ?_
    refine zV_icmp_gt (pc := 7) (tgt := 14) dX9_within_7 (by decide) (by omega) (fun c_7 => ?_) (fun c_7 => ?_)
    · refine zV_iconst (pc := 14) dX9_within_14 ?_
      refine zV_iret (pc := 15) dX9_within_15 (by first | exact zok_b1 | exact zok_b0) ⟨Nat.zero_le _, Nat.zero_le _⟩ ?_
      first
        | exact ⟨by rw [zb_t (by omega)], rfl, rfl⟩
        | exact ⟨by rw [zb_f (by omega)], rfl, rfl⟩
    · refine zV_iconst (pc := 10) dX9_within_10 ?_
      refine zV_goto (pc := 11) (tgt := 15) dX9_within_11 (by decide) ?_
      refine zV_iret (pc := 15) dX9_within_15 (by first | exact zok_b1 | exact zok_b0) ⟨Nat.zero_le _, Nat.zero_le _⟩ ?_
      first
        | exact ⟨by rw [zb_t (by omega)], rfl, rfl⟩
        | exact ⟨by rw [zb_f (by omega)], rfl, rfl⟩
end
