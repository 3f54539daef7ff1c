/-! THE LAW: its loop (printed by wip/whole/p86.py) -/
section
variable {g : zG} {kc ks : Nat}
theorem lw_sw {P : zP} {M : zM} {i x : Int} (hk : kc ≤ xL_law.rm.cells ∧ ks ≤ xL_law.rm.slots) (hL : g.2.2.2.2 301 ≤ 3072) (hi : 0 ≤ i ∧ i + 6 ≤ ((g.2.2.2.2 301 : Nat) : Int)) (hx : -2147483648 ≤ x ∧ x ≤ 2147483647) (h : zJn M) (K : ∀ M2, zJ M2 → zV g xL_law P 1123 [zr 1000300, zr 0, zr 58, zi i] [] 75 M2 kc ks) : zV g xL_law P 33 [zr 1000300, zr 0, zr 58, zi i] [zi x] 75 M kc ks := by
  by_cases c : 0 ≤ x ∧ x ≤ 29
  · rcases (show x = 0 ∨ x = 1 ∨ x = 2 ∨ x = 3 ∨ x = 4 ∨ x = 5 ∨ x = 6 ∨ x = 7 ∨ x = 8 ∨ x = 9 ∨ x = 10 ∨ x = 11 ∨ x = 12 ∨ x = 13 ∨ x = 14 ∨ x = 15 ∨ x = 16 ∨ x = 17 ∨ x = 18 ∨ x = 19 ∨ x = 20 ∨ x = 21 ∨ x = 22 ∨ x = 23 ∨ x = 24 ∨ x = 25 ∨ x = 26 ∨ x = 27 ∨ x = 28 ∨ x = 29 by omega) with rfl | rfl | rfl | rfl | rfl | rfl | rfl | rfl | rfl | rfl | rfl | rfl | rfl | rfl | rfl | rfl | rfl | rfl | rfl | rfl | rfl | rfl | rfl | rfl | rfl | rfl | rfl | rfl | rfl | rfl
    · exact zV_tin (pc := 33) (tgt := 168) 0 dL_law_33 rfl (by decide) (by decide) rfl (by decide) (lw_c0 hk hL hi h K)
    · exact zV_tin (pc := 33) (tgt := 211) 1 dL_law_33 rfl (by decide) (by decide) rfl (by decide) (lw_c1 hk hL hi h K)
    · exact zV_tin (pc := 33) (tgt := 254) 2 dL_law_33 rfl (by decide) (by decide) rfl (by decide) (lw_c2 hk hL hi h K)
    · exact zV_tin (pc := 33) (tgt := 287) 3 dL_law_33 rfl (by decide) (by decide) rfl (by decide) (lw_c3 hk hL hi h K)
    · exact zV_tin (pc := 33) (tgt := 310) 4 dL_law_33 rfl (by decide) (by decide) rfl (by decide) (lw_c4 hk hL hi h K)
    · exact zV_tin (pc := 33) (tgt := 323) 5 dL_law_33 rfl (by decide) (by decide) rfl (by decide) (lw_c5 hk hL hi h K)
    · exact zV_tin (pc := 33) (tgt := 346) 6 dL_law_33 rfl (by decide) (by decide) rfl (by decide) (lw_c6 hk hL hi h K)
    · exact zV_tin (pc := 33) (tgt := 379) 7 dL_law_33 rfl (by decide) (by decide) rfl (by decide) (lw_c7 hk hL hi h K)
    · exact zV_tin (pc := 33) (tgt := 412) 8 dL_law_33 rfl (by decide) (by decide) rfl (by decide) (lw_c8 hk hL hi h K)
    · exact zV_tin (pc := 33) (tgt := 445) 9 dL_law_33 rfl (by decide) (by decide) rfl (by decide) (lw_c9 hk hL hi h K)
    · exact zV_tin (pc := 33) (tgt := 468) 10 dL_law_33 rfl (by decide) (by decide) rfl (by decide) (lw_c10 hk hL hi h K)
    · exact zV_tin (pc := 33) (tgt := 492) 11 dL_law_33 rfl (by decide) (by decide) rfl (by decide) (lw_c11 hk hL hi h K)
    · exact zV_tin (pc := 33) (tgt := 516) 12 dL_law_33 rfl (by decide) (by decide) rfl (by decide) (lw_c12 hk hL hi h K)
    · exact zV_tin (pc := 33) (tgt := 539) 13 dL_law_33 rfl (by decide) (by decide) rfl (by decide) (lw_c13 hk hL hi h K)
    · exact zV_tin (pc := 33) (tgt := 563) 14 dL_law_33 rfl (by decide) (by decide) rfl (by decide) (lw_c14 hk hL hi h K)
    · exact zV_tin (pc := 33) (tgt := 586) 15 dL_law_33 rfl (by decide) (by decide) rfl (by decide) (lw_c15 hk hL hi h K)
    · exact zV_tin (pc := 33) (tgt := 619) 16 dL_law_33 rfl (by decide) (by decide) rfl (by decide) (lw_c16 hk hL hi h K)
    · exact zV_tin (pc := 33) (tgt := 652) 17 dL_law_33 rfl (by decide) (by decide) rfl (by decide) (lw_c17 hk hL hi h K)
    · exact zV_tin (pc := 33) (tgt := 695) 18 dL_law_33 rfl (by decide) (by decide) rfl (by decide) (lw_c18 hk hL hi h K)
    · exact zV_tin (pc := 33) (tgt := 729) 19 dL_law_33 rfl (by decide) (by decide) rfl (by decide) (lw_c19 hk hL hi h K)
    · exact zV_tin (pc := 33) (tgt := 772) 20 dL_law_33 rfl (by decide) (by decide) rfl (by decide) (lw_c20 hk hL hi h K)
    · exact zV_tin (pc := 33) (tgt := 795) 21 dL_law_33 rfl (by decide) (by decide) rfl (by decide) (lw_c21 hk hL hi h K)
    · exact zV_tin (pc := 33) (tgt := 839) 22 dL_law_33 rfl (by decide) (by decide) rfl (by decide) (lw_c22 hk hL hi h K)
    · exact zV_tin (pc := 33) (tgt := 852) 23 dL_law_33 rfl (by decide) (by decide) rfl (by decide) (lw_c23 hk hL hi h K)
    · exact zV_tin (pc := 33) (tgt := 865) 24 dL_law_33 rfl (by decide) (by decide) rfl (by decide) (lw_c24 hk hL hi h K)
    · exact zV_tin (pc := 33) (tgt := 888) 25 dL_law_33 rfl (by decide) (by decide) rfl (by decide) (lw_c25 hk hL hi h K)
    · exact zV_tin (pc := 33) (tgt := 931) 26 dL_law_33 rfl (by decide) (by decide) rfl (by decide) (lw_c26 hk hL hi h K)
    · exact zV_tin (pc := 33) (tgt := 974) 27 dL_law_33 rfl (by decide) (by decide) rfl (by decide) (lw_c27 hk hL hi h K)
    · exact zV_tin (pc := 33) (tgt := 1037) 28 dL_law_33 rfl (by decide) (by decide) rfl (by decide) (lw_c28 hk hL hi h K)
    · exact zV_tin (pc := 33) (tgt := 1090) 29 dL_law_33 rfl (by decide) (by decide) rfl (by decide) (lw_c29 hk hL hi h K)
  · exact zV_tout (pc := 33) (tgt := 1123) dL_law_33 hx (by omega) (by decide) (K M h.1)
theorem lw_loop (hk : kc ≤ xL_law.rm.cells ∧ ks ≤ xL_law.rm.slots) (hL : g.2.2.2.2 301 ≤ 3072) : ∀ (n : Nat) (i : Int) (M : zM), 0 ≤ i → i ≤ ((g.2.2.2.2 301 : Nat) : Int) → ((g.2.2.2.2 301 : Nat) : Int) - i ≤ n → zJ M → zV g xL_law (fun v _ _ => v = some (zi 1)) 18 [zr 1000300, zr 0, zr 58, zi i] [] 75 M kc ks := by
  intro n
  induction n with
  | zero =>
    intro i M i0 i1 hn h
    refine zV_iload_n (pc := 18) (i := 3) dL_law_18 rfl rfl ?_
    refine zV_aload_n (pc := 19) (i := 0) dL_law_19 rfl rfl ?_
    refine zV_slen (pc := 20) dL_law_20 ?_
    refine zV_bipush (pc := 21) dL_law_21 (by decide) ?_
    refine zV_isub (pc := 23) dL_law_23 ?_
    refine zV_icmp_gt (pc := 24) (tgt := 1129) dL_law_24 (by decide) (by omega) (fun c => ?_) (fun c => ?_)
    · refine zV_iconst (pc := 1129) dL_law_1129 ?_
      exact zV_iret (pc := 1130) dL_law_1130 zok_b1 hk rfl
    · omega
  | succ n ih =>
    intro i M i0 i1 hn h
    refine zV_order ?_
    have hN := h.nr
    generalize zNr M = M0 at hN
    refine zV_iload_n (pc := 18) (i := 3) dL_law_18 rfl rfl ?_
    refine zV_aload_n (pc := 19) (i := 0) dL_law_19 rfl rfl ?_
    refine zV_slen (pc := 20) dL_law_20 ?_
    refine zV_bipush (pc := 21) dL_law_21 (by decide) ?_
    refine zV_isub (pc := 23) dL_law_23 ?_
    refine zV_icmp_gt (pc := 24) (tgt := 1129) dL_law_24 (by decide) (by omega) (fun c => ?_) (fun c => ?_)
    · refine zV_iconst (pc := 1129) dL_law_1129 ?_
      exact zV_iret (pc := 1130) dL_law_1130 zok_b1 hk rfl
    · refine zV_aload_n (pc := 27) (i := 0) dL_law_27 rfl rfl ?_
      refine zV_iload_n (pc := 28) (i := 3) dL_law_28 rfl rfl ?_
      refine zV_sld (pc := 29) dL_law_29 (by omega) hL ?_
      refine zV_bipush (pc := 30) dL_law_30 (by decide) ?_
      refine zV_iand (pc := 32) (z := zw (Int32.ofInt (zsc g i) &&& Int32.ofInt 31).toInt) dL_law_32 (by rw [zw_ofw, Int32.ofInt_toInt]) ?_
      refine lw_sw hk hL (by omega) (zw_in _) hN (fun M2 hJ => ?_)
      refine zV_iinc (pc := 1123) dL_law_1123 rfl rfl ?_
      refine zV_goto (pc := 1126) (tgt := 18) dL_law_1126 (by decide) ?_
      exact ih (i + 6) M2 (by omega) (by omega) (by omega) hJ
end
