/-! WHAT POINTS WHERE, once the two objects stand -/
def zstL : List (Int × Int × Int) := [(0, 0, 1), (0, 1, 9), (0, 3, 17), (0, 5, 18), (0, 6, 52), (0, 7, 20), (0, 8, 21), (0, 9, 24), (0, 10, 25), (1, 0, 2), (2, 0, 3), (2, 1, 4), (2, 2, 5), (2, 3, 6), (2, 4, 7), (2, 5, 8), (9, 0, 10), (10, 0, 11), (10, 1, 12), (10, 2, 13), (10, 3, 14), (10, 4, 15), (10, 5, 16), (17, 0, 26), (17, 1, 29), (17, 2, 32), (17, 3, 35), (17, 4, 38), (17, 5, 41), (18, 0, 19), (21, 0, 22), (21, 4, 23), (25, 0, 44), (25, 1, 46), (25, 2, 48), (25, 3, 50), (26, 0, 27), (26, 1, 28), (29, 0, 30), (29, 1, 31), (32, 0, 33), (32, 1, 34), (35, 0, 36), (35, 1, 37), (38, 0, 39), (38, 1, 40), (41, 0, 42), (41, 1, 43), (44, 2, 45), (46, 2, 47), (48, 2, 49), (50, 2, 51), (52, 0, 1), (52, 1, 17), (52, 2, 53), (52, 3, 56), (52, 4, 57), (53, 0, 54), (53, 1, 55), (58, 1, 59), (58, 2, 60), (58, 5, 61), (58, 8, 62), (58, 9, 63), (58, 10, 64), (58, 11, 65), (58, 28, 66), (58, 29, 67), (58, 30, 68), (58, 34, 69), (58, 35, 70), (58, 39, 71), (58, 40, 72), (58, 41, 73), (58, 42, 74)]
def zSt (M : zM) : Prop := ∀ q ∈ zstL, M q.1 q.2.1 = q.2.2
theorem zSt.e {M : zM} (h : zSt M) {a j z : Int} (k : Nat) (hk : zstL[k]? = some (a, j, z)) : M a j = z := h _ (List.mem_of_getElem? hk)
/-- what may change: C; all else stays -/
def zFr (C : Int → Int → Prop) (M M' : zM) : Prop := ∀ a j, ¬ C a j → M' a j = M a j
theorem zFr.rf {C : Int → Int → Prop} {M : zM} : zFr C M M := fun _ _ _ => rfl
theorem zFr.tr {C : Int → Int → Prop} {M M1 M2 : zM} (h1 : zFr C M M1) (h2 : zFr C M1 M2) : zFr C M M2 := fun a j hc => (h2 a j hc).trans (h1 a j hc)
theorem zFr.up {C : Int → Int → Prop} {M M1 : zM} {a j z : Int} (h1 : zFr C M M1) (hC : C a j) : zFr C M (zU M1 a j z) := by
  intro a' j' hc
  refine Eq.trans ?_ (h1 a' j' hc)
  by_cases ha : a' = a
  · by_cases hj : j' = j
    · subst ha
      subst hj
      exact absurd hC hc
    · exact zU_j M1 a j z hj
  · exact zU_a M1 a j z ha
theorem zFr.mono {C C' : Int → Int → Prop} {M M1 : zM} (h1 : zFr C M M1) (h : ∀ a j, C a j → C' a j) : zFr C' M M1 := fun a j hc => h1 a j (fun q => hc (h a j q))
theorem zSt.fr {C : Int → Int → Prop} {M M1 : zM} (h : zSt M) (h1 : zFr C M M1) (hC : ∀ q ∈ zstL, ¬ C q.1 q.2.1) : zSt M1 := fun q hq => (h1 _ _ (hC q hq)).trans (h q hq)
theorem zOb_th {i : Int} (h : 0 ≤ i ∧ i < 6) : zOb 75 (3 + i) 8 := by
  rcases (show i = 0 ∨ i = 1 ∨ i = 2 ∨ i = 3 ∨ i = 4 ∨ i = 5 by omega) with rfl | rfl | rfl | rfl | rfl | rfl <;> exact zOb_of rfl
theorem zOb_tk {i : Int} (h : 0 ≤ i ∧ i < 6) : zOb 75 (11 + i) 8 := by
  rcases (show i = 0 ∨ i = 1 ∨ i = 2 ∨ i = 3 ∨ i = 4 ∨ i = 5 by omega) with rfl | rfl | rfl | rfl | rfl | rfl <;> exact zOb_of rfl
theorem zOb_tx {i : Int} (h : 0 ≤ i ∧ i < 6) : zOb 75 (26 + 3 * i) 7 := by
  rcases (show i = 0 ∨ i = 1 ∨ i = 2 ∨ i = 3 ∨ i = 4 ∨ i = 5 by omega) with rfl | rfl | rfl | rfl | rfl | rfl <;> exact zOb_of rfl
theorem zAr_ts {i : Int} (h : 0 ≤ i ∧ i < 6) : zAr 75 (27 + 3 * i) 0 160 := by
  rcases (show i = 0 ∨ i = 1 ∨ i = 2 ∨ i = 3 ∨ i = 4 ∨ i = 5 by omega) with rfl | rfl | rfl | rfl | rfl | rfl <;> exact zAr_of rfl
theorem zAr_te {i : Int} (h : 0 ≤ i ∧ i < 6) : zAr 75 (28 + 3 * i) 0 3 := by
  rcases (show i = 0 ∨ i = 1 ∨ i = 2 ∨ i = 3 ∨ i = 4 ∨ i = 5 by omega) with rfl | rfl | rfl | rfl | rfl | rfl <;> exact zAr_of rfl
theorem zOb_sh {i : Int} (h : 0 ≤ i ∧ i < 4) : zOb 75 (44 + 2 * i) 6 := by
  rcases (show i = 0 ∨ i = 1 ∨ i = 2 ∨ i = 3 by omega) with rfl | rfl | rfl | rfl <;> exact zOb_of rfl
theorem zAr_sh {i : Int} (h : 0 ≤ i ∧ i < 4) : zAr 75 (45 + 2 * i) 0 40 := by
  rcases (show i = 0 ∨ i = 1 ∨ i = 2 ∨ i = 3 by omega) with rfl | rfl | rfl | rfl <;> exact zAr_of rfl
theorem zSt.e0_0 {M : zM} (h : zSt M) : M 0 0 = 1 := h.e 0 rfl
theorem zSt.e0_1 {M : zM} (h : zSt M) : M 0 1 = 9 := h.e 1 rfl
theorem zSt.e0_3 {M : zM} (h : zSt M) : M 0 3 = 17 := h.e 2 rfl
theorem zSt.e0_5 {M : zM} (h : zSt M) : M 0 5 = 18 := h.e 3 rfl
theorem zSt.e0_6 {M : zM} (h : zSt M) : M 0 6 = 52 := h.e 4 rfl
theorem zSt.e0_7 {M : zM} (h : zSt M) : M 0 7 = 20 := h.e 5 rfl
theorem zSt.e0_8 {M : zM} (h : zSt M) : M 0 8 = 21 := h.e 6 rfl
theorem zSt.e0_9 {M : zM} (h : zSt M) : M 0 9 = 24 := h.e 7 rfl
theorem zSt.e0_10 {M : zM} (h : zSt M) : M 0 10 = 25 := h.e 8 rfl
theorem zSt.e1_0 {M : zM} (h : zSt M) : M 1 0 = 2 := h.e 9 rfl
theorem zSt.e2_0 {M : zM} (h : zSt M) : M 2 0 = 3 := h.e 10 rfl
theorem zSt.e2_1 {M : zM} (h : zSt M) : M 2 1 = 4 := h.e 11 rfl
theorem zSt.e2_2 {M : zM} (h : zSt M) : M 2 2 = 5 := h.e 12 rfl
theorem zSt.e2_3 {M : zM} (h : zSt M) : M 2 3 = 6 := h.e 13 rfl
theorem zSt.e2_4 {M : zM} (h : zSt M) : M 2 4 = 7 := h.e 14 rfl
theorem zSt.e2_5 {M : zM} (h : zSt M) : M 2 5 = 8 := h.e 15 rfl
theorem zSt.e9_0 {M : zM} (h : zSt M) : M 9 0 = 10 := h.e 16 rfl
theorem zSt.e10_0 {M : zM} (h : zSt M) : M 10 0 = 11 := h.e 17 rfl
theorem zSt.e10_1 {M : zM} (h : zSt M) : M 10 1 = 12 := h.e 18 rfl
theorem zSt.e10_2 {M : zM} (h : zSt M) : M 10 2 = 13 := h.e 19 rfl
theorem zSt.e10_3 {M : zM} (h : zSt M) : M 10 3 = 14 := h.e 20 rfl
theorem zSt.e10_4 {M : zM} (h : zSt M) : M 10 4 = 15 := h.e 21 rfl
theorem zSt.e10_5 {M : zM} (h : zSt M) : M 10 5 = 16 := h.e 22 rfl
theorem zSt.e17_0 {M : zM} (h : zSt M) : M 17 0 = 26 := h.e 23 rfl
theorem zSt.e17_1 {M : zM} (h : zSt M) : M 17 1 = 29 := h.e 24 rfl
theorem zSt.e17_2 {M : zM} (h : zSt M) : M 17 2 = 32 := h.e 25 rfl
theorem zSt.e17_3 {M : zM} (h : zSt M) : M 17 3 = 35 := h.e 26 rfl
theorem zSt.e17_4 {M : zM} (h : zSt M) : M 17 4 = 38 := h.e 27 rfl
theorem zSt.e17_5 {M : zM} (h : zSt M) : M 17 5 = 41 := h.e 28 rfl
theorem zSt.e18_0 {M : zM} (h : zSt M) : M 18 0 = 19 := h.e 29 rfl
theorem zSt.e21_0 {M : zM} (h : zSt M) : M 21 0 = 22 := h.e 30 rfl
theorem zSt.e21_4 {M : zM} (h : zSt M) : M 21 4 = 23 := h.e 31 rfl
theorem zSt.e25_0 {M : zM} (h : zSt M) : M 25 0 = 44 := h.e 32 rfl
theorem zSt.e25_1 {M : zM} (h : zSt M) : M 25 1 = 46 := h.e 33 rfl
theorem zSt.e25_2 {M : zM} (h : zSt M) : M 25 2 = 48 := h.e 34 rfl
theorem zSt.e25_3 {M : zM} (h : zSt M) : M 25 3 = 50 := h.e 35 rfl
theorem zSt.e26_0 {M : zM} (h : zSt M) : M 26 0 = 27 := h.e 36 rfl
theorem zSt.e26_1 {M : zM} (h : zSt M) : M 26 1 = 28 := h.e 37 rfl
theorem zSt.e29_0 {M : zM} (h : zSt M) : M 29 0 = 30 := h.e 38 rfl
theorem zSt.e29_1 {M : zM} (h : zSt M) : M 29 1 = 31 := h.e 39 rfl
theorem zSt.e32_0 {M : zM} (h : zSt M) : M 32 0 = 33 := h.e 40 rfl
theorem zSt.e32_1 {M : zM} (h : zSt M) : M 32 1 = 34 := h.e 41 rfl
theorem zSt.e35_0 {M : zM} (h : zSt M) : M 35 0 = 36 := h.e 42 rfl
theorem zSt.e35_1 {M : zM} (h : zSt M) : M 35 1 = 37 := h.e 43 rfl
theorem zSt.e38_0 {M : zM} (h : zSt M) : M 38 0 = 39 := h.e 44 rfl
theorem zSt.e38_1 {M : zM} (h : zSt M) : M 38 1 = 40 := h.e 45 rfl
theorem zSt.e41_0 {M : zM} (h : zSt M) : M 41 0 = 42 := h.e 46 rfl
theorem zSt.e41_1 {M : zM} (h : zSt M) : M 41 1 = 43 := h.e 47 rfl
theorem zSt.e44_2 {M : zM} (h : zSt M) : M 44 2 = 45 := h.e 48 rfl
theorem zSt.e46_2 {M : zM} (h : zSt M) : M 46 2 = 47 := h.e 49 rfl
theorem zSt.e48_2 {M : zM} (h : zSt M) : M 48 2 = 49 := h.e 50 rfl
theorem zSt.e50_2 {M : zM} (h : zSt M) : M 50 2 = 51 := h.e 51 rfl
theorem zSt.e52_0 {M : zM} (h : zSt M) : M 52 0 = 1 := h.e 52 rfl
theorem zSt.e52_1 {M : zM} (h : zSt M) : M 52 1 = 17 := h.e 53 rfl
theorem zSt.e52_2 {M : zM} (h : zSt M) : M 52 2 = 53 := h.e 54 rfl
theorem zSt.e52_3 {M : zM} (h : zSt M) : M 52 3 = 56 := h.e 55 rfl
theorem zSt.e52_4 {M : zM} (h : zSt M) : M 52 4 = 57 := h.e 56 rfl
theorem zSt.e53_0 {M : zM} (h : zSt M) : M 53 0 = 54 := h.e 57 rfl
theorem zSt.e53_1 {M : zM} (h : zSt M) : M 53 1 = 55 := h.e 58 rfl
theorem zSt.e58_1 {M : zM} (h : zSt M) : M 58 1 = 59 := h.e 59 rfl
theorem zSt.e58_2 {M : zM} (h : zSt M) : M 58 2 = 60 := h.e 60 rfl
theorem zSt.e58_5 {M : zM} (h : zSt M) : M 58 5 = 61 := h.e 61 rfl
theorem zSt.e58_8 {M : zM} (h : zSt M) : M 58 8 = 62 := h.e 62 rfl
theorem zSt.e58_9 {M : zM} (h : zSt M) : M 58 9 = 63 := h.e 63 rfl
theorem zSt.e58_10 {M : zM} (h : zSt M) : M 58 10 = 64 := h.e 64 rfl
theorem zSt.e58_11 {M : zM} (h : zSt M) : M 58 11 = 65 := h.e 65 rfl
theorem zSt.e58_28 {M : zM} (h : zSt M) : M 58 28 = 66 := h.e 66 rfl
theorem zSt.e58_29 {M : zM} (h : zSt M) : M 58 29 = 67 := h.e 67 rfl
theorem zSt.e58_30 {M : zM} (h : zSt M) : M 58 30 = 68 := h.e 68 rfl
theorem zSt.e58_34 {M : zM} (h : zSt M) : M 58 34 = 69 := h.e 69 rfl
theorem zSt.e58_35 {M : zM} (h : zSt M) : M 58 35 = 70 := h.e 70 rfl
theorem zSt.e58_39 {M : zM} (h : zSt M) : M 58 39 = 71 := h.e 71 rfl
theorem zSt.e58_40 {M : zM} (h : zSt M) : M 58 40 = 72 := h.e 72 rfl
theorem zSt.e58_41 {M : zM} (h : zSt M) : M 58 41 = 73 := h.e 73 rfl
theorem zSt.e58_42 {M : zM} (h : zSt M) : M 58 42 = 74 := h.e 74 rfl
theorem zSt.th {M : zM} (h : zSt M) {i : Int} (hi : 0 ≤ i ∧ i < 6) : M 2 i = 3 + i := by
  rcases (show i = 0 ∨ i = 1 ∨ i = 2 ∨ i = 3 ∨ i = 4 ∨ i = 5 by omega) with rfl | rfl | rfl | rfl | rfl | rfl
  · exact h.e2_0
  · exact h.e2_1
  · exact h.e2_2
  · exact h.e2_3
  · exact h.e2_4
  · exact h.e2_5
theorem zSt.tk {M : zM} (h : zSt M) {i : Int} (hi : 0 ≤ i ∧ i < 6) : M 10 i = 11 + i := by
  rcases (show i = 0 ∨ i = 1 ∨ i = 2 ∨ i = 3 ∨ i = 4 ∨ i = 5 by omega) with rfl | rfl | rfl | rfl | rfl | rfl
  · exact h.e10_0
  · exact h.e10_1
  · exact h.e10_2
  · exact h.e10_3
  · exact h.e10_4
  · exact h.e10_5
theorem zSt.tx {M : zM} (h : zSt M) {i : Int} (hi : 0 ≤ i ∧ i < 6) : M 17 i = 26 + 3 * i := by
  rcases (show i = 0 ∨ i = 1 ∨ i = 2 ∨ i = 3 ∨ i = 4 ∨ i = 5 by omega) with rfl | rfl | rfl | rfl | rfl | rfl
  · exact h.e17_0
  · exact h.e17_1
  · exact h.e17_2
  · exact h.e17_3
  · exact h.e17_4
  · exact h.e17_5
theorem zSt.sh {M : zM} (h : zSt M) {i : Int} (hi : 0 ≤ i ∧ i < 4) : M 25 i = 44 + 2 * i := by
  rcases (show i = 0 ∨ i = 1 ∨ i = 2 ∨ i = 3 by omega) with rfl | rfl | rfl | rfl
  · exact h.e25_0
  · exact h.e25_1
  · exact h.e25_2
  · exact h.e25_3
theorem zSt.tss {M : zM} (h : zSt M) {i : Int} (hi : 0 ≤ i ∧ i < 6) : M (26 + 3 * i) 0 = 27 + 3 * i := by
  rcases (show i = 0 ∨ i = 1 ∨ i = 2 ∨ i = 3 ∨ i = 4 ∨ i = 5 by omega) with rfl | rfl | rfl | rfl | rfl | rfl
  · exact h.e26_0
  · exact h.e29_0
  · exact h.e32_0
  · exact h.e35_0
  · exact h.e38_0
  · exact h.e41_0
theorem zSt.tse {M : zM} (h : zSt M) {i : Int} (hi : 0 ≤ i ∧ i < 6) : M (26 + 3 * i) 1 = 28 + 3 * i := by
  rcases (show i = 0 ∨ i = 1 ∨ i = 2 ∨ i = 3 ∨ i = 4 ∨ i = 5 by omega) with rfl | rfl | rfl | rfl | rfl | rfl
  · exact h.e26_1
  · exact h.e29_1
  · exact h.e32_1
  · exact h.e35_1
  · exact h.e38_1
  · exact h.e41_1
theorem zSt.shi {M : zM} (h : zSt M) {i : Int} (hi : 0 ≤ i ∧ i < 4) : M (44 + 2 * i) 2 = 45 + 2 * i := by
  rcases (show i = 0 ∨ i = 1 ∨ i = 2 ∨ i = 3 by omega) with rfl | rfl | rfl | rfl
  · exact h.e44_2
  · exact h.e46_2
  · exact h.e48_2
  · exact h.e50_2
