/-! meet, every: the answers (printed by wip/whole/p32.py) -/
section
variable {g : zG} {N : Nat} {M : zM}
set_option maxRecDepth 20000 in
set_option maxHeartbeats 2000000 in
theorem kX9_meet (hR : zRo M) {S : Int} (hs : -2147483648 ≤ S ∧ S ≤ 2147483647) : zK g yX9_meet xX9_meet [zr 0, zi S] 75 M (fun w N' M1 => N' = 75 ∧ zFr zSc M M1 ∧ ((w = some (zl (-4611686018427387904)) ∧ (¬ (0 ≤ S ∧ S / 2 ^ (M 1 1).toNat = 0) ∨ ∀ d, ¬ zmc (zTc M) S (M 1 1) d)) ∨ ((0 ≤ S ∧ S / 2 ^ (M 1 1).toNat = 0) ∧ ∃ f s : Int, w = some (zl f) ∧ 1 ≤ s ∧ ∀ d, zmc (zTc M) S (M 1 1) d ↔ zmR f s d))) := by
  refine zK_of (ls0 := [zr 0, zi S]) (by decide) rfl (by decide) rfl (Nat.le_of_ble_eq_true rfl) ?_
  have hS := hR.1
  refine zV_aload_n (pc := 0) (i := 0) dX9_meet_0 rfl rfl ?_
  refine zV_iload_n (pc := 1) (i := 1) dX9_meet_1 rfl rfl ?_
  refine zV_ivs (pc := 2) (ci := 9) dX9_meet_2 klX9_177 mX9_findMeeting ⟨by decide, rfl⟩ rfl ⟨Nat.zero_le _, Nat.zero_le _⟩ (kX9_findMeeting hR hs) (zOb_of rfl) rfl rfl (Nat.le_of_ble_eq_true rfl) ?_
  rintro w N9 M1 ⟨rfl, q0, ⟨q1, rfl⟩ | ⟨q1, ⟨rfl, q2⟩ | ⟨rfl, q2, q3⟩⟩⟩
  · refine zV_if_eq (pc := 5) (tgt := 18) dX9_meet_5 (by decide) (by omega) (fun c_5 => ?_) (fun c_5 => absurd (by decide) c_5)
    refine zV_ldc2 (pc := 18) dX9_meet_18 kiX9_184 ?_
    refine zV_lret (pc := 21) dX9_meet_21 trivial ⟨Nat.zero_le _, Nat.zero_le _⟩ ?_
    exact ⟨rfl, q0, Or.inl ⟨rfl, Or.inl q1⟩⟩
  · refine zV_if_eq (pc := 5) (tgt := 18) dX9_meet_5 (by decide) (by omega) (fun c_5 => ?_) (fun c_5 => absurd (by decide) c_5)
    refine zV_ldc2 (pc := 18) dX9_meet_18 kiX9_184 ?_
    refine zV_lret (pc := 21) dX9_meet_21 trivial ⟨Nat.zero_le _, Nat.zero_le _⟩ ?_
    exact ⟨rfl, q0, Or.inl ⟨rfl, Or.inr q2⟩⟩
  · refine zV_if_eq (pc := 5) (tgt := 18) dX9_meet_5 (by decide) (by omega) (fun c_5 => ?_) (fun c_5 => ?_)
    · refine zV_ldc2 (pc := 18) dX9_meet_18 kiX9_184 ?_
      refine zV_lret (pc := 21) dX9_meet_21 trivial ⟨Nat.zero_le _, Nat.zero_le _⟩ ?_
      first
        | exact ⟨rfl, q0, Or.inr ⟨q1, M1 20 0, M1 20 1, rfl, q3.2.1, q2⟩⟩
        | exact absurd c_5 (by decide)
    · refine zV_aload_n (pc := 8) (i := 0) dX9_meet_8 rfl rfl ?_
      refine zV_get (pc := 9) (j := 7) dX9_meet_9 flX9_35 (zOb_of rfl) rfl ((q0 0 7 (by unfold zSc; omega)).trans hS.e0_7) ?_
      refine zV_get (pc := 12) (j := 0) dX9_meet_12 flX9_180 (zOb_of rfl) rfl rfl ?_
      refine zV_goto (pc := 15) (tgt := 21) dX9_meet_15 (by decide) ?_
      refine zV_lret (pc := 21) dX9_meet_21 trivial ⟨Nat.zero_le _, Nat.zero_le _⟩ ?_
      first
        | exact ⟨rfl, q0, Or.inr ⟨q1, M1 20 0, M1 20 1, rfl, q3.2.1, q2⟩⟩
        | exact absurd c_5 (by decide)
set_option maxRecDepth 20000 in
set_option maxHeartbeats 2000000 in
theorem kX9_every (hR : zRo M) {S : Int} (hs : -2147483648 ≤ S ∧ S ≤ 2147483647) : zK g yX9_every xX9_every [zr 0, zi S] 75 M (fun w N' M1 => N' = 75 ∧ zFr zSc M M1 ∧ ((w = some (zl (-4611686018427387904)) ∧ (¬ (0 ≤ S ∧ S / 2 ^ (M 1 1).toNat = 0) ∨ ∀ d, ¬ zmc (zTc M) S (M 1 1) d)) ∨ ((0 ≤ S ∧ S / 2 ^ (M 1 1).toNat = 0) ∧ ∃ f s : Int, w = some (zl s) ∧ 1 ≤ s ∧ ∀ d, zmc (zTc M) S (M 1 1) d ↔ zmR f s d))) := by
  refine zK_of (ls0 := [zr 0, zi S]) (by decide) rfl (by decide) rfl (Nat.le_of_ble_eq_true rfl) ?_
  have hS := hR.1
  refine zV_aload_n (pc := 0) (i := 0) dX9_every_0 rfl rfl ?_
  refine zV_iload_n (pc := 1) (i := 1) dX9_every_1 rfl rfl ?_
  refine zV_ivs (pc := 2) (ci := 9) dX9_every_2 klX9_177 mX9_findMeeting ⟨by decide, rfl⟩ rfl ⟨Nat.zero_le _, Nat.zero_le _⟩ (kX9_findMeeting hR hs) (zOb_of rfl) rfl rfl (Nat.le_of_ble_eq_true rfl) ?_
  rintro w N9 M1 ⟨rfl, q0, ⟨q1, rfl⟩ | ⟨q1, ⟨rfl, q2⟩ | ⟨rfl, q2, q3⟩⟩⟩
  · refine zV_if_eq (pc := 5) (tgt := 18) dX9_every_5 (by decide) (by omega) (fun c_5 => ?_) (fun c_5 => absurd (by decide) c_5)
    refine zV_ldc2 (pc := 18) dX9_every_18 kiX9_184 ?_
    refine zV_lret (pc := 21) dX9_every_21 trivial ⟨Nat.zero_le _, Nat.zero_le _⟩ ?_
    exact ⟨rfl, q0, Or.inl ⟨rfl, Or.inl q1⟩⟩
  · refine zV_if_eq (pc := 5) (tgt := 18) dX9_every_5 (by decide) (by omega) (fun c_5 => ?_) (fun c_5 => absurd (by decide) c_5)
    refine zV_ldc2 (pc := 18) dX9_every_18 kiX9_184 ?_
    refine zV_lret (pc := 21) dX9_every_21 trivial ⟨Nat.zero_le _, Nat.zero_le _⟩ ?_
    exact ⟨rfl, q0, Or.inl ⟨rfl, Or.inr q2⟩⟩
  · refine zV_if_eq (pc := 5) (tgt := 18) dX9_every_5 (by decide) (by omega) (fun c_5 => ?_) (fun c_5 => ?_)
    · refine zV_ldc2 (pc := 18) dX9_every_18 kiX9_184 ?_
      refine zV_lret (pc := 21) dX9_every_21 trivial ⟨Nat.zero_le _, Nat.zero_le _⟩ ?_
      first
        | exact ⟨rfl, q0, Or.inr ⟨q1, M1 20 0, M1 20 1, rfl, q3.2.1, q2⟩⟩
        | exact absurd c_5 (by decide)
    · refine zV_aload_n (pc := 8) (i := 0) dX9_every_8 rfl rfl ?_
      refine zV_get (pc := 9) (j := 7) dX9_every_9 flX9_35 (zOb_of rfl) rfl ((q0 0 7 (by unfold zSc; omega)).trans hS.e0_7) ?_
      refine zV_get (pc := 12) (j := 1) dX9_every_12 flX9_186 (zOb_of rfl) rfl rfl ?_
      refine zV_goto (pc := 15) (tgt := 21) dX9_every_15 (by decide) ?_
      refine zV_lret (pc := 21) dX9_every_21 trivial ⟨Nat.zero_le _, Nat.zero_le _⟩ ?_
      first
        | exact ⟨rfl, q0, Or.inr ⟨q1, M1 20 0, M1 20 1, rfl, q3.2.1, q2⟩⟩
        | exact absurd c_5 (by decide)
end
