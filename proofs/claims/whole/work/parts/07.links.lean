/-! what each entry of a pool that is used is; what each method is (printed by wip/whole/links.py) -/
theorem flX9_12 : zFL RX9 12 9 0 2 := ⟨by decide, by decide, rfl, (zpk zq0 (k := 0) rfl)⟩
theorem flX9_16 : zFL RX9 16 9 1 2 := ⟨by decide, by decide, rfl, (zpk zq0 (k := 1) rfl)⟩
theorem flX9_21 : zFL RX9 21 9 3 2 := ⟨by decide, by decide, rfl, (zpk zq0 (k := 2) rfl)⟩
theorem flX9_28 : zFL RX9 28 9 5 2 := ⟨by decide, by decide, rfl, (zpk zq0 (k := 3) rfl)⟩
theorem flX9_35 : zFL RX9 35 9 7 2 := ⟨by decide, by decide, rfl, (zpk zq0 (k := 4) rfl)⟩
theorem flX9_42 : zFL RX9 42 9 8 2 := ⟨by decide, by decide, rfl, (zpk zq0 (k := 5) rfl)⟩
theorem flX9_49 : zFL RX9 49 9 9 2 := ⟨by decide, by decide, rfl, (zpk zq0 (k := 6) rfl)⟩
theorem flX9_55 : zFL RX9 55 9 10 2 := ⟨by decide, by decide, rfl, (zpk zq0 (k := 7) rfl)⟩
theorem flX9_84 : zFL RX9 84 9 4 0 := ⟨by decide, by decide, rfl, (zpk zq0 (k := 8) rfl)⟩
theorem flX9_93 : zFL RX9 93 9 6 2 := ⟨by decide, by decide, rfl, (zpk zq0 (k := 9) rfl)⟩
theorem flX9_108 : zFL RX9 108 5 0 2 := ⟨by decide, by decide, rfl, (zpk zq0 (k := 10) rfl)⟩
theorem flX9_123 : zFL RX9 123 5 2 0 := ⟨by decide, by decide, rfl, (zpk zq0 (k := 11) rfl)⟩
theorem flX9_129 : zFL RX9 129 5 3 0 := ⟨by decide, by decide, rfl, (zpk zq0 (k := 12) rfl)⟩
theorem flX9_180 : zFL RX9 180 2 0 1 := ⟨by decide, by decide, rfl, (zpk zq0 (k := 13) rfl)⟩
theorem flX9_186 : zFL RX9 186 2 1 1 := ⟨by decide, by decide, rfl, (zpk zq0 (k := 14) rfl)⟩
theorem flX9_208 : zFL RX9 208 8 2 0 := ⟨by decide, by decide, rfl, (zpk zq0 (k := 15) rfl)⟩
theorem flX9_252 : zFL RX9 252 8 0 0 := ⟨by decide, by decide, rfl, (zpk zq0 (k := 16) rfl)⟩
theorem flX9_267 : zFL RX9 267 6 1 0 := ⟨by decide, by decide, rfl, (zpk zq0 (k := 17) rfl)⟩
theorem flX9_277 : zFL RX9 277 9 2 0 := ⟨by decide, by decide, rfl, (zpk zq0 (k := 18) rfl)⟩
theorem flX9_281 : zFL RX9 281 5 1 0 := ⟨by decide, by decide, rfl, (zpk zq0 (k := 19) rfl)⟩
theorem flX9_282 : zFL RX9 282 3 1 0 := ⟨by decide, by decide, rfl, (zpk zq0 (k := 20) rfl)⟩
theorem flX9_286 : zFL RX9 286 6 0 0 := ⟨by decide, by decide, rfl, (zpk zq0 (k := 21) rfl)⟩
theorem flX9_289 : zFL RX9 289 6 2 2 := ⟨by decide, by decide, rfl, (zpk zq0 (k := 22) rfl)⟩
theorem flX9_306 : zFL RX9 306 8 1 0 := ⟨by decide, by decide, rfl, (zpk zq0 (k := 23) rfl)⟩
theorem flX0_12 : zFL RX0 12 0 2 2 := ⟨by decide, by decide, rfl, (zpk zq0 (k := 24) rfl)⟩
theorem flX0_21 : zFL RX0 21 0 3 2 := ⟨by decide, by decide, rfl, (zpk zq0 (k := 25) rfl)⟩
theorem flX0_25 : zFL RX0 25 0 4 2 := ⟨by decide, by decide, rfl, (zpk zq0 (k := 26) rfl)⟩
theorem flX0_29 : zFL RX0 29 0 0 2 := ⟨by decide, by decide, rfl, (zpk zq0 (k := 27) rfl)⟩
theorem flX0_33 : zFL RX0 33 0 1 2 := ⟨by decide, by decide, rfl, (zpk zq0 (k := 28) rfl)⟩
theorem flX0_37 : zFL RX0 37 0 5 0 := ⟨by decide, by decide, rfl, (zpk zq0 (k := 29) rfl)⟩
theorem flX0_50 : zFL RX0 50 5 0 2 := ⟨by decide, by decide, rfl, (zpk zq0 (k := 30) rfl)⟩
theorem flX0_85 : zFL RX0 85 8 2 0 := ⟨by decide, by decide, rfl, (zpk zq0 (k := 31) rfl)⟩
theorem flX0_88 : zFL RX0 88 8 1 0 := ⟨by decide, by decide, rfl, (zpk zq0 (k := 32) rfl)⟩
theorem flX0_101 : zFL RX0 101 5 3 0 := ⟨by decide, by decide, rfl, (zpk zq0 (k := 33) rfl)⟩
theorem flX1_9 : zFL RX1 9 1 0 2 := ⟨by decide, by decide, rfl, (zpk zq0 (k := 34) rfl)⟩
theorem flX1_15 : zFL RX1 15 1 4 2 := ⟨by decide, by decide, rfl, (zpk zq0 (k := 35) rfl)⟩
theorem flX1_19 : zFL RX1 19 6 1 0 := ⟨by decide, by decide, rfl, (zpk zq0 (k := 36) rfl)⟩
theorem flX1_28 : zFL RX1 28 6 2 2 := ⟨by decide, by decide, rfl, (zpk zq0 (k := 37) rfl)⟩
theorem flX1_35 : zFL RX1 35 1 3 0 := ⟨by decide, by decide, rfl, (zpk zq0 (k := 38) rfl)⟩
theorem flX1_38 : zFL RX1 38 1 2 0 := ⟨by decide, by decide, rfl, (zpk zq0 (k := 39) rfl)⟩
theorem flX1_41 : zFL RX1 41 1 1 0 := ⟨by decide, by decide, rfl, (zpk zq1 (k := 0) rfl)⟩
theorem flX2_7 : zFL RX2 7 2 0 1 := ⟨by decide, by decide, rfl, (zpk zq1 (k := 1) rfl)⟩
theorem flX2_13 : zFL RX2 13 2 1 1 := ⟨by decide, by decide, rfl, (zpk zq1 (k := 2) rfl)⟩
theorem flX2_16 : zFL RX2 16 8 2 0 := ⟨by decide, by decide, rfl, (zpk zq1 (k := 3) rfl)⟩
theorem flX2_28 : zFL RX2 28 8 3 0 := ⟨by decide, by decide, rfl, (zpk zq1 (k := 4) rfl)⟩
theorem flX3_9 : zFL RX3 9 3 0 2 := ⟨by decide, by decide, rfl, (zpk zq1 (k := 5) rfl)⟩
theorem flX3_15 : zFL RX3 15 3 1 0 := ⟨by decide, by decide, rfl, (zpk zq1 (k := 6) rfl)⟩
theorem flX3_19 : zFL RX3 19 3 7 2 := ⟨by decide, by decide, rfl, (zpk zq1 (k := 7) rfl)⟩
theorem flX3_28 : zFL RX3 28 3 2 0 := ⟨by decide, by decide, rfl, (zpk zq1 (k := 8) rfl)⟩
theorem flX3_31 : zFL RX3 31 3 6 0 := ⟨by decide, by decide, rfl, (zpk zq1 (k := 9) rfl)⟩
theorem flX3_47 : zFL RX3 47 3 4 0 := ⟨by decide, by decide, rfl, (zpk zq1 (k := 10) rfl)⟩
theorem flX3_53 : zFL RX3 53 3 3 0 := ⟨by decide, by decide, rfl, (zpk zq1 (k := 11) rfl)⟩
theorem flX3_77 : zFL RX3 77 3 5 0 := ⟨by decide, by decide, rfl, (zpk zq1 (k := 12) rfl)⟩
theorem flX4_9 : zFL RX4 9 4 0 2 := ⟨by decide, by decide, rfl, (zpk zq1 (k := 13) rfl)⟩
theorem flX4_15 : zFL RX4 15 4 1 2 := ⟨by decide, by decide, rfl, (zpk zq1 (k := 14) rfl)⟩
theorem flX4_18 : zFL RX4 18 4 2 0 := ⟨by decide, by decide, rfl, (zpk zq1 (k := 15) rfl)⟩
theorem flX4_28 : zFL RX4 28 7 0 2 := ⟨by decide, by decide, rfl, (zpk zq1 (k := 16) rfl)⟩
theorem flX5_11 : zFL RX5 11 5 0 2 := ⟨by decide, by decide, rfl, (zpk zq1 (k := 17) rfl)⟩
theorem flX5_18 : zFL RX5 18 5 1 0 := ⟨by decide, by decide, rfl, (zpk zq1 (k := 18) rfl)⟩
theorem flX5_22 : zFL RX5 22 8 0 0 := ⟨by decide, by decide, rfl, (zpk zq1 (k := 19) rfl)⟩
theorem flX5_25 : zFL RX5 25 8 1 0 := ⟨by decide, by decide, rfl, (zpk zq1 (k := 20) rfl)⟩
theorem flX5_28 : zFL RX5 28 8 2 0 := ⟨by decide, by decide, rfl, (zpk zq1 (k := 21) rfl)⟩
theorem flX5_31 : zFL RX5 31 8 3 0 := ⟨by decide, by decide, rfl, (zpk zq1 (k := 22) rfl)⟩
theorem flX5_38 : zFL RX5 38 5 2 0 := ⟨by decide, by decide, rfl, (zpk zq1 (k := 23) rfl)⟩
theorem flX5_41 : zFL RX5 41 5 3 0 := ⟨by decide, by decide, rfl, (zpk zq1 (k := 24) rfl)⟩
theorem flX6_9 : zFL RX6 9 6 0 0 := ⟨by decide, by decide, rfl, (zpk zq1 (k := 25) rfl)⟩
theorem flX6_15 : zFL RX6 15 6 2 2 := ⟨by decide, by decide, rfl, (zpk zq1 (k := 26) rfl)⟩
theorem flX6_19 : zFL RX6 19 6 1 0 := ⟨by decide, by decide, rfl, (zpk zq1 (k := 27) rfl)⟩
theorem flX7_9 : zFL RX7 9 7 0 2 := ⟨by decide, by decide, rfl, (zpk zq1 (k := 28) rfl)⟩
theorem flX7_15 : zFL RX7 15 7 1 2 := ⟨by decide, by decide, rfl, (zpk zq1 (k := 29) rfl)⟩
theorem flX7_18 : zFL RX7 18 7 2 0 := ⟨by decide, by decide, rfl, (zpk zq1 (k := 30) rfl)⟩
theorem flX8_9 : zFL RX8 9 8 0 0 := ⟨by decide, by decide, rfl, (zpk zq1 (k := 31) rfl)⟩
theorem flX8_15 : zFL RX8 15 8 2 0 := ⟨by decide, by decide, rfl, (zpk zq1 (k := 32) rfl)⟩
theorem flX8_18 : zFL RX8 18 8 1 0 := ⟨by decide, by decide, rfl, (zpk zq1 (k := 33) rfl)⟩
theorem flX8_21 : zFL RX8 21 8 3 0 := ⟨by decide, by decide, rfl, (zpk zq1 (k := 34) rfl)⟩
theorem flX10_13 : zFL RX10 13 10 1 2 := ⟨by decide, by decide, rfl, (zpk zq1 (k := 35) rfl)⟩
theorem flX10_17 : zFL RX10 17 10 2 2 := ⟨by decide, by decide, rfl, (zpk zq1 (k := 36) rfl)⟩
theorem flX10_20 : zFL RX10 20 10 5 2 := ⟨by decide, by decide, rfl, (zpk zq1 (k := 37) rfl)⟩
theorem flX10_23 : zFL RX10 23 10 8 2 := ⟨by decide, by decide, rfl, (zpk zq1 (k := 38) rfl)⟩
theorem flX10_26 : zFL RX10 26 10 9 2 := ⟨by decide, by decide, rfl, (zpk zq1 (k := 39) rfl)⟩
theorem flX10_29 : zFL RX10 29 10 10 2 := ⟨by decide, by decide, rfl, (zpk zq2 (k := 0) rfl)⟩
theorem flX10_32 : zFL RX10 32 10 11 2 := ⟨by decide, by decide, rfl, (zpk zq2 (k := 1) rfl)⟩
theorem flX10_35 : zFL RX10 35 10 28 2 := ⟨by decide, by decide, rfl, (zpk zq2 (k := 2) rfl)⟩
theorem flX10_38 : zFL RX10 38 10 29 2 := ⟨by decide, by decide, rfl, (zpk zq2 (k := 3) rfl)⟩
theorem flX10_41 : zFL RX10 41 10 30 2 := ⟨by decide, by decide, rfl, (zpk zq2 (k := 4) rfl)⟩
theorem flX10_44 : zFL RX10 44 10 34 2 := ⟨by decide, by decide, rfl, (zpk zq2 (k := 5) rfl)⟩
theorem flX10_48 : zFL RX10 48 10 35 2 := ⟨by decide, by decide, rfl, (zpk zq2 (k := 6) rfl)⟩
theorem flX10_51 : zFL RX10 51 10 36 0 := ⟨by decide, by decide, rfl, (zpk zq2 (k := 7) rfl)⟩
theorem flX10_54 : zFL RX10 54 10 39 2 := ⟨by decide, by decide, rfl, (zpk zq2 (k := 8) rfl)⟩
theorem flX10_57 : zFL RX10 57 10 40 2 := ⟨by decide, by decide, rfl, (zpk zq2 (k := 9) rfl)⟩
theorem flX10_60 : zFL RX10 60 10 41 2 := ⟨by decide, by decide, rfl, (zpk zq2 (k := 10) rfl)⟩
theorem flX10_63 : zFL RX10 63 10 42 2 := ⟨by decide, by decide, rfl, (zpk zq2 (k := 11) rfl)⟩
theorem flX10_70 : zFL RX10 70 10 3 0 := ⟨by decide, by decide, rfl, (zpk zq2 (k := 12) rfl)⟩
theorem flX10_73 : zFL RX10 73 10 12 0 := ⟨by decide, by decide, rfl, (zpk zq2 (k := 13) rfl)⟩
theorem flX10_96 : zFL RX10 96 10 7 0 := ⟨by decide, by decide, rfl, (zpk zq2 (k := 14) rfl)⟩
theorem flX10_124 : zFL RX10 124 10 6 0 := ⟨by decide, by decide, rfl, (zpk zq2 (k := 15) rfl)⟩
theorem flX10_127 : zFL RX10 127 10 20 0 := ⟨by decide, by decide, rfl, (zpk zq2 (k := 16) rfl)⟩
theorem flX10_130 : zFL RX10 130 10 19 0 := ⟨by decide, by decide, rfl, (zpk zq2 (k := 17) rfl)⟩
theorem flX10_133 : zFL RX10 133 10 21 0 := ⟨by decide, by decide, rfl, (zpk zq2 (k := 18) rfl)⟩
theorem flX10_140 : zFL RX10 140 10 23 0 := ⟨by decide, by decide, rfl, (zpk zq2 (k := 19) rfl)⟩
theorem flX10_143 : zFL RX10 143 10 22 0 := ⟨by decide, by decide, rfl, (zpk zq2 (k := 20) rfl)⟩
theorem flX10_154 : zFL RX10 154 10 24 1 := ⟨by decide, by decide, rfl, (zpk zq2 (k := 21) rfl)⟩
theorem flX10_160 : zFL RX10 160 10 26 0 := ⟨by decide, by decide, rfl, (zpk zq2 (k := 22) rfl)⟩
theorem flX10_164 : zFL RX10 164 10 27 0 := ⟨by decide, by decide, rfl, (zpk zq2 (k := 23) rfl)⟩
theorem flX10_170 : zFL RX10 170 10 25 0 := ⟨by decide, by decide, rfl, (zpk zq2 (k := 24) rfl)⟩
theorem flX10_183 : zFL RX10 183 10 13 0 := ⟨by decide, by decide, rfl, (zpk zq2 (k := 25) rfl)⟩
theorem flX10_186 : zFL RX10 186 10 14 0 := ⟨by decide, by decide, rfl, (zpk zq2 (k := 26) rfl)⟩
theorem flX10_189 : zFL RX10 189 10 15 0 := ⟨by decide, by decide, rfl, (zpk zq2 (k := 27) rfl)⟩
theorem flX10_192 : zFL RX10 192 10 16 0 := ⟨by decide, by decide, rfl, (zpk zq2 (k := 28) rfl)⟩
theorem flX10_195 : zFL RX10 195 10 17 0 := ⟨by decide, by decide, rfl, (zpk zq2 (k := 29) rfl)⟩
theorem flX10_198 : zFL RX10 198 10 18 0 := ⟨by decide, by decide, rfl, (zpk zq2 (k := 30) rfl)⟩
theorem flX10_329 : zFL RX10 329 10 4 0 := ⟨by decide, by decide, rfl, (zpk zq2 (k := 31) rfl)⟩
theorem flX10_362 : zFL RX10 362 10 31 0 := ⟨by decide, by decide, rfl, (zpk zq2 (k := 32) rfl)⟩
theorem flX10_379 : zFL RX10 379 10 32 1 := ⟨by decide, by decide, rfl, (zpk zq2 (k := 33) rfl)⟩
theorem flX10_382 : zFL RX10 382 10 33 1 := ⟨by decide, by decide, rfl, (zpk zq2 (k := 34) rfl)⟩
theorem flX10_444 : zFL RX10 444 10 37 0 := ⟨by decide, by decide, rfl, (zpk zq2 (k := 35) rfl)⟩
theorem flX10_447 : zFL RX10 447 10 38 0 := ⟨by decide, by decide, rfl, (zpk zq2 (k := 36) rfl)⟩
theorem klX9_3 : Cond.methodLink RX9 3 objectInit ∈ zTb := (zpk zq2 (k := 37) rfl)
theorem klX9_11 : Cond.methodLink RX9 11 yX5_init ∈ zTb := (zpk zq2 (k := 38) rfl)
theorem klX9_27 : Cond.methodLinkNest RX9 27 yX3_init "EveryNinth" ∈ zTb := (zpk zq2 (k := 39) rfl)
theorem klX9_34 : Cond.methodLinkNest RX9 34 yX2_init "EveryNinth" ∈ zTb := (zpk zq3 (k := 0) rfl)
theorem klX9_41 : Cond.methodLinkNest RX9 41 yX1_init "EveryNinth" ∈ zTb := (zpk zq3 (k := 1) rfl)
theorem klX9_48 : Cond.methodLinkNest RX9 48 yX8_init "EveryNinth" ∈ zTb := (zpk zq3 (k := 2) rfl)
theorem klX9_59 : Cond.methodLinkNest RX9 59 yX7_init "EveryNinth" ∈ zTb := (zpk zq3 (k := 3) rfl)
theorem klX9_60 : Cond.methodLinkNest RX9 60 yX6_init "EveryNinth" ∈ zTb := (zpk zq3 (k := 4) rfl)
theorem klX9_63 : Cond.methodLink RX9 63 (⟨"java/lang/String", "length", "()I"⟩ : MethodName) ∈ zTb := (zpk zq3 (k := 5) rfl)
theorem klX9_69 : Cond.methodLink RX9 69 (⟨"java/lang/String", "charAt", "(I)C"⟩ : MethodName) ∈ zTb := (zpk zq3 (k := 6) rfl)
theorem klX9_73 : Cond.methodLink RX9 73 yX3_add ∈ zTb := (zpk zq3 (k := 7) rfl)
theorem klX9_77 : Cond.methodLink RX9 77 yX3_read ∈ zTb := (zpk zq3 (k := 8) rfl)
theorem klX9_81 : Cond.methodLink RX9 81 yX3_clear ∈ zTb := (zpk zq3 (k := 9) rfl)
theorem klX9_90 : Cond.methodLink RX9 90 yX0_init ∈ zTb := (zpk zq3 (k := 10) rfl)
theorem klX9_97 : Cond.methodLink RX9 97 yX9_setHolidays ∈ zTb := (zpk zq3 (k := 11) rfl)
theorem klX9_100 : Cond.methodLink RX9 100 yX5_has ∈ zTb := (zpk zq3 (k := 12) rfl)
theorem klX9_104 : Cond.methodLink RX9 104 yX9_mayBe ∈ zTb := (zpk zq3 (k := 13) rfl)
theorem klX9_112 : Cond.methodLink RX9 112 yX8_fact ∈ zTb := (zpk zq3 (k := 14) rfl)
theorem klX9_115 : Cond.methodLink RX9 115 yX8_change ∈ zTb := (zpk zq3 (k := 15) rfl)
theorem klX9_119 : Cond.methodLink RX9 119 yX9_within ∈ zTb := (zpk zq3 (k := 16) rfl)
theorem klX9_126 : Cond.methodLink RX9 126 yX5_add ∈ zTb := (zpk zq3 (k := 17) rfl)
theorem klX9_132 : Cond.methodLink RX9 132 yX9_isDay ∈ zTb := (zpk zq3 (k := 18) rfl)
theorem klX9_135 : Cond.methodLink RX9 135 yX5_comers ∈ zTb := (zpk zq3 (k := 19) rfl)
theorem klX9_139 : Cond.methodLink RX9 139 yX0_fill ∈ zTb := (zpk zq3 (k := 20) rfl)
theorem klX9_143 : Cond.methodLink RX9 143 yX0_costsOf ∈ zTb := (zpk zq3 (k := 21) rfl)
theorem klX9_146 : Cond.methodLink RX9 146 yX9_isHoliday ∈ zTb := (zpk zq3 (k := 22) rfl)
theorem klX9_149 : Cond.methodLink RX9 149 yX9_nextComing ∈ zTb := (zpk zq3 (k := 23) rfl)
theorem klX9_153 : Cond.methodLink RX9 153 yX8_comes ∈ zTb := (zpk zq3 (k := 24) rfl)
theorem klX9_156 : Cond.methodLink RX9 156 yX0_allCosts ∈ zTb := (zpk zq3 (k := 25) rfl)
theorem klX9_159 : Cond.methodLink RX9 159 yX0_daysWith ∈ zTb := (zpk zq3 (k := 26) rfl)
theorem klX9_162 : Cond.methodLink RX9 162 yX0_longestRest ∈ zTb := (zpk zq3 (k := 27) rfl)
theorem klX9_165 : Cond.methodLink RX9 165 yX0_restFrom ∈ zTb := (zpk zq3 (k := 28) rfl)
theorem klX9_168 : Cond.methodLink RX9 168 yX0_fullestWeek ∈ zTb := (zpk zq3 (k := 29) rfl)
theorem klX9_171 : Cond.methodLink RX9 171 yX0_comersInWeek ∈ zTb := (zpk zq3 (k := 30) rfl)
theorem klX9_174 : Cond.methodLink RX9 174 yX0_dearestDay ∈ zTb := (zpk zq3 (k := 31) rfl)
theorem klX9_177 : Cond.methodLink RX9 177 yX9_findMeeting ∈ zTb := (zpk zq3 (k := 32) rfl)
theorem klX9_189 : Cond.methodLink RX9 189 yX5_hasAll ∈ zTb := (zpk zq3 (k := 33) rfl)
theorem klX9_192 : Cond.methodLink RX9 192 yX2_start ∈ zTb := (zpk zq3 (k := 34) rfl)
theorem klX9_195 : Cond.methodLink RX9 195 yX9_hasBit ∈ zTb := (zpk zq3 (k := 35) rfl)
theorem klX9_198 : Cond.methodLink RX9 198 yX2_takeIn ∈ zTb := (zpk zq3 (k := 36) rfl)
theorem klX9_202 : Cond.methodLink RX9 202 yX9_neverMeet ∈ zTb := (zpk zq3 (k := 37) rfl)
theorem klX9_205 : Cond.methodLink RX9 205 yX8_sharesDayWith ∈ zTb := (zpk zq3 (k := 38) rfl)
theorem klX9_211 : Cond.methodLink RX9 211 yX9_inLowestTerms ∈ zTb := (zpk zq3 (k := 39) rfl)
theorem klX9_215 : Cond.methodLink RX9 215 yX0_putShifted ∈ zTb := (zpk zq4 (k := 0) rfl)
theorem klX9_218 : Cond.methodLink RX9 218 yX0_comesWithOthers ∈ zTb := (zpk zq4 (k := 1) rfl)
theorem klX9_221 : Cond.methodLink RX9 221 yX8_becomeShifted ∈ zTb := (zpk zq4 (k := 2) rfl)
theorem klX9_225 : Cond.methodLink RX9 225 yX0_mindsOf ∈ zTb := (zpk zq4 (k := 3) rfl)
theorem klX9_228 : Cond.methodLink RX9 228 yX9_isSheet ∈ zTb := (zpk zq4 (k := 4) rfl)
theorem klX9_231 : Cond.methodLink RX9 231 yX6_isMissing ∈ zTb := (zpk zq4 (k := 5) rfl)
theorem klX9_235 : Cond.methodLink RX9 235 yX1_read ∈ zTb := (zpk zq4 (k := 6) rfl)
theorem klX9_238 : Cond.methodLink RX9 238 yX9_thingsOfPages ∈ zTb := (zpk zq4 (k := 7) rfl)
theorem klX9_241 : Cond.methodLink RX9 241 yX9_kindsOfPages ∈ zTb := (zpk zq4 (k := 8) rfl)
theorem klX9_244 : Cond.methodLink RX9 244 yX1_isOf ∈ zTb := (zpk zq4 (k := 9) rfl)
theorem klX9_248 : Cond.methodLink RX9 248 yX8_become ∈ zTb := (zpk zq4 (k := 10) rfl)
theorem klX9_255 : Cond.methodLink RX9 255 yX1_periods ∈ zTb := (zpk zq4 (k := 11) rfl)
theorem klX9_259 : Cond.methodLink RX9 259 yX1_twoRounds ∈ zTb := (zpk zq4 (k := 12) rfl)
theorem klX9_262 : Cond.methodLink RX9 262 yX6_become ∈ zTb := (zpk zq4 (k := 13) rfl)
theorem klX9_264 : Cond.methodLink RX9 264 yX6_put ∈ zTb := (zpk zq4 (k := 14) rfl)
theorem klX9_270 : Cond.methodLink RX9 270 yX9_drawnHolidays ∈ zTb := (zpk zq4 (k := 15) rfl)
theorem klX9_274 : Cond.methodLink RX9 274 yX5_become ∈ zTb := (zpk zq4 (k := 16) rfl)
theorem klX9_283 : Cond.methodLink RX9 283 yX6_hasItems ∈ zTb := (zpk zq4 (k := 17) rfl)
theorem klX9_293 : Cond.methodLink RX9 293 (⟨"java/lang/System", "arraycopy", "(Ljava/lang/Object;ILjava/lang/Object;II)V"⟩ : MethodName) ∈ zTb := (zpk zq4 (k := 18) rfl)
theorem klX9_299 : Cond.methodLink RX9 299 yX9_thing ∈ zTb := (zpk zq4 (k := 19) rfl)
theorem klX9_303 : Cond.methodLink RX9 303 yX8_isUnder ∈ zTb := (zpk zq4 (k := 20) rfl)
theorem klX9_309 : Cond.methodLink RX9 309 yX9_greatestDivisor ∈ zTb := (zpk zq4 (k := 21) rfl)
theorem klX0_3 : Cond.methodLink RX0 3 objectInit ∈ zTb := (zpk zq4 (k := 22) rfl)
theorem klX0_11 : Cond.methodLinkNest RX0 11 yX4_init "EveryNinth" ∈ zTb := (zpk zq4 (k := 23) rfl)
theorem klX0_20 : Cond.methodLinkNest RX0 20 yX8_init "EveryNinth" ∈ zTb := (zpk zq4 (k := 24) rfl)
theorem klX0_41 : Cond.methodLink RX0 41 yX5_comers ∈ zTb := (zpk zq4 (k := 25) rfl)
theorem klX0_46 : Cond.methodLink RX0 46 yX5_has ∈ zTb := (zpk zq4 (k := 26) rfl)
theorem klX0_54 : Cond.methodLink RX0 54 yX8_becomeShifted ∈ zTb := (zpk zq4 (k := 27) rfl)
theorem klX0_58 : Cond.methodLink RX0 58 yX8_comes ∈ zTb := (zpk zq4 (k := 28) rfl)
theorem klX0_62 : Cond.methodLinkNest RX0 62 yX9_isDay "EveryNinth" ∈ zTb := (zpk zq4 (k := 29) rfl)
theorem klX0_65 : Cond.methodLink RX0 65 (⟨"java/lang/Integer", "bitCount", "(I)I"⟩ : MethodName) ∈ zTb := (zpk zq4 (k := 30) rfl)
theorem klX0_71 : Cond.methodLink RX0 71 yX0_rule ∈ zTb := (zpk zq4 (k := 31) rfl)
theorem klX0_75 : Cond.methodLink RX0 75 yX0_restAhead ∈ zTb := (zpk zq4 (k := 32) rfl)
theorem klX0_78 : Cond.methodLink RX0 78 yX4_nameDay ∈ zTb := (zpk zq4 (k := 33) rfl)
theorem klX0_82 : Cond.methodLinkNest RX0 82 yX9_hasBit "EveryNinth" ∈ zTb := (zpk zq4 (k := 34) rfl)
theorem klX0_91 : Cond.methodLink RX0 91 yX4_nameThing ∈ zTb := (zpk zq4 (k := 35) rfl)
theorem klX0_94 : Cond.methodLink RX0 94 yX4_tells ∈ zTb := (zpk zq4 (k := 36) rfl)
theorem klX0_98 : Cond.methodLink RX0 98 yX8_spends ∈ zTb := (zpk zq4 (k := 37) rfl)
theorem klX0_103 : Cond.methodLink RX0 103 yX0_costsOf ∈ zTb := (zpk zq4 (k := 38) rfl)
theorem klX0_106 : Cond.methodLink RX0 106 yX0_comersInWeek ∈ zTb := (zpk zq4 (k := 39) rfl)
theorem klX1_3 : Cond.methodLink RX1 3 objectInit ∈ zTb := (zpk zq5 (k := 0) rfl)
theorem klX1_25 : Cond.methodLink RX1 25 yX1_clear ∈ zTb := (zpk zq5 (k := 1) rfl)
theorem klX1_31 : Cond.methodLinkNest RX1 31 yX9_isDay "EveryNinth" ∈ zTb := (zpk zq5 (k := 2) rfl)
theorem klX1_42 : Cond.methodLink RX1 42 yX8_comes ∈ zTb := (zpk zq5 (k := 3) rfl)
theorem klX1_50 : Cond.methodLinkNest RX1 50 yX9_within "EveryNinth" ∈ zTb := (zpk zq5 (k := 4) rfl)
theorem klX1_54 : Cond.methodLink RX1 54 yX1_tellsRound ∈ zTb := (zpk zq5 (k := 5) rfl)
theorem klX1_57 : Cond.methodLink RX1 57 yX1_secondRounds ∈ zTb := (zpk zq5 (k := 6) rfl)
theorem klX1_61 : Cond.methodLink RX1 61 yX1_firstOutside ∈ zTb := (zpk zq5 (k := 7) rfl)
theorem klX1_64 : Cond.methodLink RX1 64 yX1_areAll ∈ zTb := (zpk zq5 (k := 8) rfl)
theorem klX1_67 : Cond.methodLink RX1 67 yX1_isBehind ∈ zTb := (zpk zq5 (k := 9) rfl)
theorem klX2_1 : Cond.methodLink RX2 1 objectInit ∈ zTb := (zpk zq5 (k := 10) rfl)
theorem klX2_22 : Cond.methodLinkNest RX2 22 yX9_greatestDivisor "EveryNinth" ∈ zTb := (zpk zq5 (k := 11) rfl)
theorem klX2_31 : Cond.methodLink RX2 31 yX2_notAhead ∈ zTb := (zpk zq5 (k := 12) rfl)
theorem klX3_3 : Cond.methodLink RX3 3 objectInit ∈ zTb := (zpk zq5 (k := 13) rfl)
theorem klX3_23 : Cond.methodLink RX3 23 yX7_clear ∈ zTb := (zpk zq5 (k := 14) rfl)
theorem klX3_34 : Cond.methodLink RX3 34 yX3_advance ∈ zTb := (zpk zq5 (k := 15) rfl)
theorem klX3_37 : Cond.methodLink RX3 37 yX3_need ∈ zTb := (zpk zq5 (k := 16) rfl)
theorem klX3_41 : Cond.methodLink RX3 41 yX3_readOrs ∈ zTb := (zpk zq5 (k := 17) rfl)
theorem klX3_44 : Cond.methodLink RX3 44 yX7_endPart ∈ zTb := (zpk zq5 (k := 18) rfl)
theorem klX3_50 : Cond.methodLink RX3 50 yX3_fail ∈ zTb := (zpk zq5 (k := 19) rfl)
theorem klX3_56 : Cond.methodLink RX3 56 yX3_readAnds ∈ zTb := (zpk zq5 (k := 20) rfl)
theorem klX3_59 : Cond.methodLink RX3 59 yX7_add ∈ zTb := (zpk zq5 (k := 21) rfl)
theorem klX3_62 : Cond.methodLink RX3 62 yX3_readNot ∈ zTb := (zpk zq5 (k := 22) rfl)
theorem klX3_65 : Cond.methodLink RX3 65 yX3_readComparison ∈ zTb := (zpk zq5 (k := 23) rfl)
theorem klX3_68 : Cond.methodLink RX3 68 yX3_readSum ∈ zTb := (zpk zq5 (k := 24) rfl)
theorem klX3_71 : Cond.methodLink RX3 71 yX3_readTerm ∈ zTb := (zpk zq5 (k := 25) rfl)
theorem klX3_74 : Cond.methodLink RX3 74 yX3_readOne ∈ zTb := (zpk zq5 (k := 26) rfl)
theorem klX3_80 : Cond.methodLink RX3 80 yX3_byteAt ∈ zTb := (zpk zq5 (k := 27) rfl)
theorem klX3_84 : Cond.methodLink RX3 84 yX3_isBlank ∈ zTb := (zpk zq5 (k := 28) rfl)
theorem klX3_88 : Cond.methodLinkNest RX3 88 yX9_within "EveryNinth" ∈ zTb := (zpk zq5 (k := 29) rfl)
theorem klX3_92 : Cond.methodLink RX3 92 yX3_takeWord ∈ zTb := (zpk zq5 (k := 30) rfl)
theorem klX3_95 : Cond.methodLink RX3 95 yX3_takeNumeral ∈ zTb := (zpk zq5 (k := 31) rfl)
theorem klX3_100 : Cond.methodLink RX3 100 (⟨"java/lang/String", "indexOf", "(I)I"⟩ : MethodName) ∈ zTb := (zpk zq5 (k := 32) rfl)
theorem klX3_105 : Cond.methodLink RX3 105 yX3_spelling ∈ zTb := (zpk zq5 (k := 33) rfl)
theorem klX3_109 : Cond.methodLink RX3 109 yX3_stands ∈ zTb := (zpk zq5 (k := 34) rfl)
theorem klX3_113 : Cond.methodLink RX3 113 (⟨"java/lang/String", "length", "()I"⟩ : MethodName) ∈ zTb := (zpk zq5 (k := 35) rfl)
theorem klX3_117 : Cond.methodLink RX3 117 (⟨"java/lang/String", "charAt", "(I)C"⟩ : MethodName) ∈ zTb := (zpk zq5 (k := 36) rfl)
theorem klX4_3 : Cond.methodLink RX4 3 objectInit ∈ zTb := (zpk zq5 (k := 37) rfl)
theorem klX4_22 : Cond.methodLink RX4 22 yX7_endOf ∈ zTb := (zpk zq5 (k := 38) rfl)
theorem klX4_31 : Cond.methodLink RX4 31 (⟨"java/lang/Math", "min", "(II)I"⟩ : MethodName) ∈ zTb := (zpk zq5 (k := 39) rfl)
theorem klX4_37 : Cond.methodLink RX4 37 yX7_startOf ∈ zTb := (zpk zq6 (k := 0) rfl)
theorem klX4_40 : Cond.methodLink RX4 40 (⟨"java/lang/Math", "max", "(II)I"⟩ : MethodName) ∈ zTb := (zpk zq6 (k := 1) rfl)
theorem klX4_43 : Cond.methodLink RX4 43 yX4_take ∈ zTb := (zpk zq6 (k := 2) rfl)
theorem klX4_47 : Cond.methodLink RX4 47 yX4_push ∈ zTb := (zpk zq6 (k := 3) rfl)
theorem klX4_50 : Cond.methodLink RX4 50 yX4_change ∈ zTb := (zpk zq6 (k := 4) rfl)
theorem klX4_53 : Cond.methodLink RX4 53 yX4_combine ∈ zTb := (zpk zq6 (k := 5) rfl)
theorem klX4_56 : Cond.methodLink RX4 56 yX4_combined ∈ zTb := (zpk zq6 (k := 6) rfl)
theorem klX5_3 : Cond.methodLink RX5 3 objectInit ∈ zTb := (zpk zq6 (k := 7) rfl)
theorem klX5_17 : Cond.methodLinkNest RX5 17 yX8_init "EveryNinth" ∈ zTb := (zpk zq6 (k := 8) rfl)
theorem klX5_34 : Cond.methodLink RX5 34 yX8_become ∈ zTb := (zpk zq6 (k := 9) rfl)
theorem klX5_44 : Cond.methodLink RX5 44 yX5_has ∈ zTb := (zpk zq6 (k := 10) rfl)
theorem klX5_48 : Cond.methodLink RX5 48 yX8_comes ∈ zTb := (zpk zq6 (k := 11) rfl)
theorem klX6_3 : Cond.methodLink RX6 3 objectInit ∈ zTb := (zpk zq6 (k := 12) rfl)
theorem klX7_3 : Cond.methodLink RX7 3 objectInit ∈ zTb := (zpk zq6 (k := 13) rfl)
theorem klX7_22 : Cond.methodLink RX7 22 yX7_endOf ∈ zTb := (zpk zq6 (k := 14) rfl)
theorem klX8_3 : Cond.methodLink RX8 3 objectInit ∈ zTb := (zpk zq6 (k := 15) rfl)
theorem klX8_24 : Cond.methodLink RX8 24 yX8_become ∈ zTb := (zpk zq6 (k := 16) rfl)
theorem klX8_28 : Cond.methodLink RX8 28 yX8_lasts ∈ zTb := (zpk zq6 (k := 17) rfl)
theorem klX8_32 : Cond.methodLink RX8 32 yX8_isPutOffTo ∈ zTb := (zpk zq6 (k := 18) rfl)
theorem klX8_36 : Cond.methodLink RX8 36 yX8_inRound ∈ zTb := (zpk zq6 (k := 19) rfl)
theorem klX8_39 : Cond.methodLinkNest RX8 39 yX9_isHoliday "EveryNinth" ∈ zTb := (zpk zq6 (k := 20) rfl)
theorem klX8_42 : Cond.methodLink RX8 42 yX8_lastingSpends ∈ zTb := (zpk zq6 (k := 21) rfl)
theorem klX8_46 : Cond.methodLink RX8 46 (⟨"java/lang/Math", "max", "(II)I"⟩ : MethodName) ∈ zTb := (zpk zq6 (k := 22) rfl)
theorem klX8_52 : Cond.methodLink RX8 52 yX8_kindAbove ∈ zTb := (zpk zq6 (k := 23) rfl)
theorem klX8_55 : Cond.methodLinkNest RX8 55 yX9_greatestDivisor "EveryNinth" ∈ zTb := (zpk zq6 (k := 24) rfl)
theorem klL_9 : Cond.methodLink RL 9 yX9_init ∈ zTb := (zpk zq6 (k := 25) rfl)
theorem klL_12 : Cond.methodLink RL 12 yX10_init ∈ zTb := (zpk zq6 (k := 26) rfl)
theorem klL_13 : Cond.methodLink RL 13 yX9_set ∈ zTb := (zpk zq6 (k := 27) rfl)
theorem klL_17 : Cond.methodLink RL 17 yX10_set ∈ zTb := (zpk zq6 (k := 28) rfl)
theorem klL_18 : Cond.methodLink RL 18 yX9_thing ∈ zTb := (zpk zq6 (k := 29) rfl)
theorem klL_21 : Cond.methodLink RL 21 yX10_thing ∈ zTb := (zpk zq6 (k := 30) rfl)
theorem klL_22 : Cond.methodLink RL 22 yX9_told ∈ zTb := (zpk zq6 (k := 31) rfl)
theorem klL_26 : Cond.methodLink RL 26 yX10_told ∈ zTb := (zpk zq6 (k := 32) rfl)
theorem klL_27 : Cond.methodLink RL 27 yX9_feed ∈ zTb := (zpk zq6 (k := 33) rfl)
theorem klL_31 : Cond.methodLink RL 31 yX10_feed ∈ zTb := (zpk zq6 (k := 34) rfl)
theorem klL_32 : Cond.methodLink RL 32 yX9_text ∈ zTb := (zpk zq6 (k := 35) rfl)
theorem klL_36 : Cond.methodLink RL 36 yX10_text ∈ zTb := (zpk zq6 (k := 36) rfl)
theorem klL_37 : Cond.methodLink RL 37 yX9_force ∈ zTb := (zpk zq6 (k := 37) rfl)
theorem klL_40 : Cond.methodLink RL 40 yX10_force ∈ zTb := (zpk zq6 (k := 38) rfl)
theorem klL_41 : Cond.methodLink RL 41 yX9_day ∈ zTb := (zpk zq6 (k := 39) rfl)
theorem klL_44 : Cond.methodLink RL 44 yX10_day ∈ zTb := (zpk zq7 (k := 0) rfl)
theorem klL_45 : Cond.methodLink RL 45 yX9_when ∈ zTb := (zpk zq7 (k := 1) rfl)
theorem klL_48 : Cond.methodLink RL 48 yX10_when ∈ zTb := (zpk zq7 (k := 2) rfl)
theorem klL_49 : Cond.methodLink RL 49 yX9_often ∈ zTb := (zpk zq7 (k := 3) rfl)
theorem klL_52 : Cond.methodLink RL 52 yX10_often ∈ zTb := (zpk zq7 (k := 4) rfl)
theorem klL_53 : Cond.methodLink RL 53 yX9_year ∈ zTb := (zpk zq7 (k := 5) rfl)
theorem klL_56 : Cond.methodLink RL 56 yX10_year ∈ zTb := (zpk zq7 (k := 6) rfl)
theorem klL_57 : Cond.methodLink RL 57 yX9_meet ∈ zTb := (zpk zq7 (k := 7) rfl)
theorem klL_61 : Cond.methodLink RL 61 yX10_meet ∈ zTb := (zpk zq7 (k := 8) rfl)
theorem klL_62 : Cond.methodLink RL 62 yX9_every ∈ zTb := (zpk zq7 (k := 9) rfl)
theorem klL_65 : Cond.methodLink RL 65 yX10_every ∈ zTb := (zpk zq7 (k := 10) rfl)
theorem klL_66 : Cond.methodLink RL 66 yX9_why ∈ zTb := (zpk zq7 (k := 11) rfl)
theorem klL_69 : Cond.methodLink RL 69 yX10_why ∈ zTb := (zpk zq7 (k := 12) rfl)
theorem klL_70 : Cond.methodLink RL 70 yX9_full ∈ zTb := (zpk zq7 (k := 13) rfl)
theorem klL_73 : Cond.methodLink RL 73 yX10_full ∈ zTb := (zpk zq7 (k := 14) rfl)
theorem klL_74 : Cond.methodLink RL 74 yX9_shift ∈ zTb := (zpk zq7 (k := 15) rfl)
theorem klL_77 : Cond.methodLink RL 77 yX10_shift ∈ zTb := (zpk zq7 (k := 16) rfl)
theorem klL_78 : Cond.methodLink RL 78 yX9_join ∈ zTb := (zpk zq7 (k := 17) rfl)
theorem klL_81 : Cond.methodLink RL 81 yX10_join ∈ zTb := (zpk zq7 (k := 18) rfl)
theorem klL_82 : Cond.methodLink RL 82 yX9_goodShift ∈ zTb := (zpk zq7 (k := 19) rfl)
theorem klL_85 : Cond.methodLink RL 85 yX10_goodShift ∈ zTb := (zpk zq7 (k := 20) rfl)
theorem klL_86 : Cond.methodLink RL 86 yX9_diary ∈ zTb := (zpk zq7 (k := 21) rfl)
theorem klL_89 : Cond.methodLink RL 89 yX10_diary ∈ zTb := (zpk zq7 (k := 22) rfl)
theorem klL_90 : Cond.methodLink RL 90 yX9_rounds ∈ zTb := (zpk zq7 (k := 23) rfl)
theorem klL_94 : Cond.methodLink RL 94 yX10_rounds ∈ zTb := (zpk zq7 (k := 24) rfl)
theorem klL_95 : Cond.methodLink RL 95 yX9_film ∈ zTb := (zpk zq7 (k := 25) rfl)
theorem klL_98 : Cond.methodLink RL 98 yX10_film ∈ zTb := (zpk zq7 (k := 26) rfl)
theorem klL_99 : Cond.methodLink RL 99 yX9_drawn ∈ zTb := (zpk zq7 (k := 27) rfl)
theorem klL_102 : Cond.methodLink RL 102 yX10_drawn ∈ zTb := (zpk zq7 (k := 28) rfl)
theorem klL_103 : Cond.methodLink RL 103 yX9_chance ∈ zTb := (zpk zq7 (k := 29) rfl)
theorem klL_107 : Cond.methodLink RL 107 yX10_chance ∈ zTb := (zpk zq7 (k := 30) rfl)
theorem klL_108 : Cond.methodLink RL 108 yX9_image ∈ zTb := (zpk zq7 (k := 31) rfl)
theorem klL_111 : Cond.methodLink RL 111 yX10_image ∈ zTb := (zpk zq7 (k := 32) rfl)
theorem klL_112 : Cond.methodLink RL 112 yX9_back ∈ zTb := (zpk zq7 (k := 33) rfl)
theorem klL_115 : Cond.methodLink RL 115 yX10_back ∈ zTb := (zpk zq7 (k := 34) rfl)
theorem klL_116 : Cond.methodLink RL 116 yX9_count ∈ zTb := (zpk zq7 (k := 35) rfl)
theorem klL_119 : Cond.methodLink RL 119 yX10_count ∈ zTb := (zpk zq7 (k := 36) rfl)
theorem klL_120 : Cond.methodLink RL 120 yX9_sheet ∈ zTb := (zpk zq7 (k := 37) rfl)
theorem klL_123 : Cond.methodLink RL 123 yX10_sheet ∈ zTb := (zpk zq7 (k := 38) rfl)
theorem klL_124 : Cond.methodLink RL 124 yX9_cell ∈ zTb := (zpk zq7 (k := 39) rfl)
theorem klL_127 : Cond.methodLink RL 127 yX10_cell ∈ zTb := (zpk zq8 (k := 0) rfl)
theorem klL_128 : Cond.methodLink RL 128 yX9_copy ∈ zTb := (zpk zq8 (k := 1) rfl)
theorem klL_132 : Cond.methodLink RL 132 yX10_copy ∈ zTb := (zpk zq8 (k := 2) rfl)
theorem klL_133 : Cond.methodLink RL 133 yX9_things ∈ zTb := (zpk zq8 (k := 3) rfl)
theorem klL_137 : Cond.methodLink RL 137 yX10_things ∈ zTb := (zpk zq8 (k := 4) rfl)
theorem klL_138 : Cond.methodLink RL 138 yX9_taken ∈ zTb := (zpk zq8 (k := 5) rfl)
theorem klL_141 : Cond.methodLink RL 141 yX10_taken ∈ zTb := (zpk zq8 (k := 6) rfl)
theorem klX10_7 : Cond.methodLink RX10 7 objectInit ∈ zTb := (zpk zq8 (k := 7) rfl)
theorem klX10_66 : Cond.methodLink RX10 66 yX10_spell ∈ zTb := (zpk zq8 (k := 8) rfl)
theorem klX10_76 : Cond.methodLink RX10 76 yX10_in ∈ zTb := (zpk zq8 (k := 9) rfl)
theorem klX10_84 : Cond.methodLink RX10 84 yX10_isThing ∈ zTb := (zpk zq8 (k := 10) rfl)
theorem klX10_99 : Cond.methodLink RX10 99 yX10_told ∈ zTb := (zpk zq8 (k := 11) rfl)
theorem klX10_109 : Cond.methodLink RX10 109 yX10_isRound ∈ zTb := (zpk zq8 (k := 12) rfl)
theorem klX10_113 : Cond.methodLink RX10 113 yX10_isHoliday ∈ zTb := (zpk zq8 (k := 13) rfl)
theorem klX10_116 : Cond.methodLink RX10 116 yX10_isPutOff ∈ zTb := (zpk zq8 (k := 14) rfl)
theorem klX10_119 : Cond.methodLink RX10 119 yX10_lasts ∈ zTb := (zpk zq8 (k := 15) rfl)
theorem klX10_136 : Cond.methodLink RX10 136 yX10_byteAt ∈ zTb := (zpk zq8 (k := 16) rfl)
theorem klX10_167 : Cond.methodLink RX10 167 yX10_isLetter ∈ zTb := (zpk zq8 (k := 17) rfl)
theorem klX10_173 : Cond.methodLink RX10 173 yX10_fail ∈ zTb := (zpk zq8 (k := 18) rfl)
theorem klX10_176 : Cond.methodLink RX10 176 yX10_next ∈ zTb := (zpk zq8 (k := 19) rfl)
theorem klX10_179 : Cond.methodLink RX10 179 yX10_isWord ∈ zTb := (zpk zq8 (k := 20) rfl)
theorem klX10_201 : Cond.methodLink RX10 201 yX10_isSign ∈ zTb := (zpk zq8 (k := 21) rfl)
theorem klX10_204 : Cond.methodLink RX10 204 yX10_opens ∈ zTb := (zpk zq8 (k := 22) rfl)
theorem klX10_208 : Cond.methodLink RX10 208 yX10_name ∈ zTb := (zpk zq8 (k := 23) rfl)
theorem klX10_212 : Cond.methodLink RX10 212 yX10_atom5 ∈ zTb := (zpk zq8 (k := 24) rfl)
theorem klX10_215 : Cond.methodLink RX10 215 yX10_term5 ∈ zTb := (zpk zq8 (k := 25) rfl)
theorem klX10_220 : Cond.methodLink RX10 220 yX10_added5 ∈ zTb := (zpk zq8 (k := 26) rfl)
theorem klX10_223 : Cond.methodLink RX10 223 yX10_not5 ∈ zTb := (zpk zq8 (k := 27) rfl)
theorem klX10_226 : Cond.methodLink RX10 226 yX10_both5 ∈ zTb := (zpk zq8 (k := 28) rfl)
theorem klX10_229 : Cond.methodLink RX10 229 yX10_either5 ∈ zTb := (zpk zq8 (k := 29) rfl)
theorem klX10_232 : Cond.methodLink RX10 232 yX10_atom4 ∈ zTb := (zpk zq8 (k := 30) rfl)
theorem klX10_235 : Cond.methodLink RX10 235 yX10_term4 ∈ zTb := (zpk zq8 (k := 31) rfl)
theorem klX10_238 : Cond.methodLink RX10 238 yX10_added4 ∈ zTb := (zpk zq8 (k := 32) rfl)
theorem klX10_241 : Cond.methodLink RX10 241 yX10_not4 ∈ zTb := (zpk zq8 (k := 33) rfl)
theorem klX10_244 : Cond.methodLink RX10 244 yX10_both4 ∈ zTb := (zpk zq8 (k := 34) rfl)
theorem klX10_247 : Cond.methodLink RX10 247 yX10_either4 ∈ zTb := (zpk zq8 (k := 35) rfl)
theorem klX10_250 : Cond.methodLink RX10 250 yX10_atom3 ∈ zTb := (zpk zq8 (k := 36) rfl)
theorem klX10_253 : Cond.methodLink RX10 253 yX10_term3 ∈ zTb := (zpk zq8 (k := 37) rfl)
theorem klX10_256 : Cond.methodLink RX10 256 yX10_added3 ∈ zTb := (zpk zq8 (k := 38) rfl)
theorem klX10_259 : Cond.methodLink RX10 259 yX10_not3 ∈ zTb := (zpk zq8 (k := 39) rfl)
theorem klX10_262 : Cond.methodLink RX10 262 yX10_both3 ∈ zTb := (zpk zq9 (k := 0) rfl)
theorem klX10_265 : Cond.methodLink RX10 265 yX10_either3 ∈ zTb := (zpk zq9 (k := 1) rfl)
theorem klX10_268 : Cond.methodLink RX10 268 yX10_atom2 ∈ zTb := (zpk zq9 (k := 2) rfl)
theorem klX10_271 : Cond.methodLink RX10 271 yX10_term2 ∈ zTb := (zpk zq9 (k := 3) rfl)
theorem klX10_274 : Cond.methodLink RX10 274 yX10_added2 ∈ zTb := (zpk zq9 (k := 4) rfl)
theorem klX10_277 : Cond.methodLink RX10 277 yX10_not2 ∈ zTb := (zpk zq9 (k := 5) rfl)
theorem klX10_280 : Cond.methodLink RX10 280 yX10_both2 ∈ zTb := (zpk zq9 (k := 6) rfl)
theorem klX10_283 : Cond.methodLink RX10 283 yX10_either2 ∈ zTb := (zpk zq9 (k := 7) rfl)
theorem klX10_286 : Cond.methodLink RX10 286 yX10_atom1 ∈ zTb := (zpk zq9 (k := 8) rfl)
theorem klX10_289 : Cond.methodLink RX10 289 yX10_term1 ∈ zTb := (zpk zq9 (k := 9) rfl)
theorem klX10_292 : Cond.methodLink RX10 292 yX10_added1 ∈ zTb := (zpk zq9 (k := 10) rfl)
theorem klX10_295 : Cond.methodLink RX10 295 yX10_not1 ∈ zTb := (zpk zq9 (k := 11) rfl)
theorem klX10_298 : Cond.methodLink RX10 298 yX10_both1 ∈ zTb := (zpk zq9 (k := 12) rfl)
theorem klX10_301 : Cond.methodLink RX10 301 yX10_either1 ∈ zTb := (zpk zq9 (k := 13) rfl)
theorem klX10_304 : Cond.methodLink RX10 304 yX10_atom0 ∈ zTb := (zpk zq9 (k := 14) rfl)
theorem klX10_307 : Cond.methodLink RX10 307 yX10_term0 ∈ zTb := (zpk zq9 (k := 15) rfl)
theorem klX10_310 : Cond.methodLink RX10 310 yX10_added0 ∈ zTb := (zpk zq9 (k := 16) rfl)
theorem klX10_313 : Cond.methodLink RX10 313 yX10_not0 ∈ zTb := (zpk zq9 (k := 17) rfl)
theorem klX10_316 : Cond.methodLink RX10 316 yX10_both0 ∈ zTb := (zpk zq9 (k := 18) rfl)
theorem klX10_319 : Cond.methodLink RX10 319 yX10_either0 ∈ zTb := (zpk zq9 (k := 19) rfl)
theorem klX10_322 : Cond.methodLink RX10 322 yX10_part ∈ zTb := (zpk zq9 (k := 20) rfl)
theorem klX10_326 : Cond.methodLink RX10 326 yX10_read ∈ zTb := (zpk zq9 (k := 21) rfl)
theorem klX10_332 : Cond.methodLink RX10 332 yX10_within ∈ zTb := (zpk zq9 (k := 22) rfl)
theorem klX10_336 : Cond.methodLink RX10 336 yX10_comes ∈ zTb := (zpk zq9 (k := 23) rfl)
theorem klX10_339 : Cond.methodLink RX10 339 yX10_bitsOf ∈ zTb := (zpk zq9 (k := 24) rfl)
theorem klX10_342 : Cond.methodLink RX10 342 yX10_says ∈ zTb := (zpk zq9 (k := 25) rfl)
theorem klX10_346 : Cond.methodLink RX10 346 yX10_spendsOf ∈ zTb := (zpk zq9 (k := 26) rfl)
theorem klX10_349 : Cond.methodLink RX10 349 yX10_lives ∈ zTb := (zpk zq9 (k := 27) rfl)
theorem klX10_352 : Cond.methodLink RX10 352 yX10_costOf ∈ zTb := (zpk zq9 (k := 28) rfl)
theorem klX10_355 : Cond.methodLink RX10 355 yX10_isDay ∈ zTb := (zpk zq9 (k := 29) rfl)
theorem klX10_367 : Cond.methodLink RX10 367 yX10_spends ∈ zTb := (zpk zq9 (k := 30) rfl)
theorem klX10_370 : Cond.methodLink RX10 370 yX10_daysOf ∈ zTb := (zpk zq9 (k := 31) rfl)
theorem klX10_373 : Cond.methodLink RX10 373 yX10_longestRest ∈ zTb := (zpk zq9 (k := 32) rfl)
theorem klX10_376 : Cond.methodLink RX10 376 yX10_inWeek ∈ zTb := (zpk zq9 (k := 33) rfl)
theorem klX10_385 : Cond.methodLink RX10 385 yX10_common ∈ zTb := (zpk zq9 (k := 34) rfl)
theorem klX10_389 : Cond.methodLink RX10 389 yX10_allThings ∈ zTb := (zpk zq9 (k := 35) rfl)
theorem klX10_392 : Cond.methodLink RX10 392 yX10_meets ∈ zTb := (zpk zq9 (k := 36) rfl)
theorem klX10_397 : Cond.methodLink RX10 397 yX10_meetsNone ∈ zTb := (zpk zq9 (k := 37) rfl)
theorem klX10_402 : Cond.methodLink RX10 402 yX10_lastOf ∈ zTb := (zpk zq9 (k := 38) rfl)
theorem klX10_405 : Cond.methodLink RX10 405 yX10_isTold ∈ zTb := (zpk zq9 (k := 39) rfl)
theorem klX10_408 : Cond.methodLink RX10 408 yX10_isSheet ∈ zTb := (zpk zq10 (k := 0) rfl)
theorem klX10_411 : Cond.methodLink RX10 411 yX10_diaryBad ∈ zTb := (zpk zq10 (k := 1) rfl)
theorem klX10_414 : Cond.methodLink RX10 414 yX10_comesSo ∈ zTb := (zpk zq10 (k := 2) rfl)
theorem klX10_417 : Cond.methodLink RX10 417 yX10_marks ∈ zTb := (zpk zq10 (k := 3) rfl)
theorem klX10_421 : Cond.methodLink RX10 421 yX10_marksFirst ∈ zTb := (zpk zq10 (k := 4) rfl)
theorem klX10_424 : Cond.methodLink RX10 424 yX10_firstLeft ∈ zTb := (zpk zq10 (k := 5) rfl)
theorem klX10_427 : Cond.methodLink RX10 427 yX10_periodsOf ∈ zTb := (zpk zq10 (k := 6) rfl)
theorem klX10_431 : Cond.methodLink RX10 431 yX10_twoOf ∈ zTb := (zpk zq10 (k := 7) rfl)
theorem klX10_434 : Cond.methodLink RX10 434 yX10_often ∈ zTb := (zpk zq10 (k := 8) rfl)
theorem klX10_437 : Cond.methodLink RX10 437 yX10_sheet ∈ zTb := (zpk zq10 (k := 9) rfl)
theorem klX10_441 : Cond.methodLink RX10 441 yX10_draws ∈ zTb := (zpk zq10 (k := 10) rfl)
theorem klX10_456 : Cond.methodLink RX10 456 yX10_thing ∈ zTb := (zpk zq10 (k := 11) rfl)
theorem klX10_459 : Cond.methodLink RX10 459 yX10_over ∈ zTb := (zpk zq10 (k := 12) rfl)
theorem clX9_9 : Cond.classLink RX9 9 "EveryNinth$Rota" ∈ zTb := (zpk zq10 (k := 13) rfl)
theorem clX9_19 : Cond.classLink RX9 19 "EveryNinth$Text" ∈ zTb := (zpk zq10 (k := 14) rfl)
theorem clX9_25 : Cond.classLink RX9 25 "EveryNinth$Reader" ∈ zTb := (zpk zq10 (k := 15) rfl)
theorem clX9_32 : Cond.classLink RX9 32 "EveryNinth$Meeting" ∈ zTb := (zpk zq10 (k := 16) rfl)
theorem clX9_39 : Cond.classLink RX9 39 "EveryNinth$Diary" ∈ zTb := (zpk zq10 (k := 17) rfl)
theorem clX9_46 : Cond.classLink RX9 46 "EveryNinth$Thing" ∈ zTb := (zpk zq10 (k := 18) rfl)
theorem clX9_53 : Cond.classLink RX9 53 "EveryNinth$Sheet" ∈ zTb := (zpk zq10 (k := 19) rfl)
theorem clX9_88 : Cond.classLink RX9 88 "EveryNinth$Almanac" ∈ zTb := (zpk zq10 (k := 20) rfl)
theorem clX0_9 : Cond.classLink RX0 9 "EveryNinth$Reckoner" ∈ zTb := (zpk zq10 (k := 21) rfl)
theorem clX0_18 : Cond.classLink RX0 18 "EveryNinth$Thing" ∈ zTb := (zpk zq10 (k := 22) rfl)
theorem clX5_9 : Cond.classLink RX5 9 "EveryNinth$Thing" ∈ zTb := (zpk zq10 (k := 23) rfl)
theorem clL_7 : Cond.classLink RL 7 "EveryNinth" ∈ zTb := (zpk zq10 (k := 24) rfl)
theorem clL_10 : Cond.classLink RL 10 "EveryNinthModel" ∈ zTb := (zpk zq10 (k := 25) rfl)
theorem kiX9_184 : Cond.constantLong RX9 184 (Int64.ofInt (-4611686018427387904)) ∈ zTb := (zpk zq10 (k := 26) rfl)
theorem kiX1_48 : Cond.constantLong RX1 48 (Int64.ofInt (1152921504606846975)) ∈ zTb := (zpk zq10 (k := 27) rfl)
theorem kiX10_80 : Cond.constantLong RX10 80 (Int64.ofInt (399)) ∈ zTb := (zpk zq10 (k := 28) rfl)
theorem kiX10_82 : Cond.constantLong RX10 82 (Int64.ofInt (3)) ∈ zTb := (zpk zq10 (k := 29) rfl)
theorem kiX10_88 : Cond.constantLong RX10 88 (Int64.ofInt (127)) ∈ zTb := (zpk zq10 (k := 30) rfl)
theorem kiX10_90 : Cond.constantLong RX10 90 (Int64.ofInt (9)) ∈ zTb := (zpk zq10 (k := 31) rfl)
theorem kiX10_92 : Cond.constantLong RX10 92 (Int64.ofInt (60)) ∈ zTb := (zpk zq10 (k := 32) rfl)
theorem kiX10_94 : Cond.constantLong RX10 94 (Int64.ofInt (59)) ∈ zTb := (zpk zq10 (k := 33) rfl)
theorem kiX10_103 : Cond.constantLong RX10 103 (Int64.ofInt (5)) ∈ zTb := (zpk zq10 (k := 34) rfl)
theorem kiX10_105 : Cond.constantLong RX10 105 (Int64.ofInt (100)) ∈ zTb := (zpk zq10 (k := 35) rfl)
theorem kiX10_107 : Cond.constantLong RX10 107 (Int64.ofInt (6059)) ∈ zTb := (zpk zq10 (k := 36) rfl)
theorem kiX10_122 : Cond.constantLong RX10 122 (Int64.ofInt (255)) ∈ zTb := (zpk zq10 (k := 37) rfl)
theorem kiX10_146 : Cond.constantLong RX10 146 (Int64.ofInt (97)) ∈ zTb := (zpk zq10 (k := 38) rfl)
theorem kiX10_148 : Cond.constantLong RX10 148 (Int64.ofInt (122)) ∈ zTb := (zpk zq10 (k := 39) rfl)
theorem kiX10_150 : Cond.constantLong RX10 150 (Int64.ofInt (48)) ∈ zTb := (zpk zq11 (k := 0) rfl)
theorem kiX10_152 : Cond.constantLong RX10 152 (Int64.ofInt (57)) ∈ zTb := (zpk zq11 (k := 1) rfl)
theorem kiX10_158 : Cond.constantLong RX10 158 (Int64.ofInt (10)) ∈ zTb := (zpk zq11 (k := 2) rfl)
theorem kiX10_218 : Cond.constantLong RX10 218 (Int64.ofInt (43)) ∈ zTb := (zpk zq11 (k := 3) rfl)
theorem kiX10_358 : Cond.constantLong RX10 358 (Int64.ofInt (2)) ∈ zTb := (zpk zq11 (k := 4) rfl)
theorem kiX10_360 : Cond.constantLong RX10 360 (Int64.ofInt (400)) ∈ zTb := (zpk zq11 (k := 5) rfl)
theorem kiX10_365 : Cond.constantLong RX10 365 (Int64.ofInt (8)) ∈ zTb := (zpk zq11 (k := 6) rfl)
theorem kiX10_395 : Cond.constantLong RX10 395 (Int64.ofInt (-4611686018427387904)) ∈ zTb := (zpk zq11 (k := 7) rfl)
theorem kiX10_400 : Cond.constantLong RX10 400 (Int64.ofInt (20)) ∈ zTb := (zpk zq11 (k := 8) rfl)
theorem kiX10_450 : Cond.constantLong RX10 450 (Int64.ofInt (4)) ∈ zTb := (zpk zq11 (k := 9) rfl)
theorem kiX10_452 : Cond.constantLong RX10 452 (Int64.ofInt (-1)) ∈ zTb := (zpk zq11 (k := 10) rfl)
theorem kiX10_454 : Cond.constantLong RX10 454 (Int64.ofInt (6)) ∈ zTb := (zpk zq11 (k := 11) rfl)
theorem icX0 : Cond.instantiable RX0 6 ∈ zTb := (zpk zq11 (k := 12) rfl)
theorem ncX0 : Cond.initialized RX0 ∈ zTb := (zpk zq11 (k := 13) rfl)
theorem mhX0 : RX0 ≠ "java/lang/invoke/MethodHandle" ∧ RX0 ≠ "java/lang/invoke/VarHandle" := ⟨by decide +kernel, by decide +kernel⟩
theorem icX1 : Cond.instantiable RX1 5 ∈ zTb := (zpk zq11 (k := 14) rfl)
theorem ncX1 : Cond.initialized RX1 ∈ zTb := (zpk zq11 (k := 15) rfl)
theorem mhX1 : RX1 ≠ "java/lang/invoke/MethodHandle" ∧ RX1 ≠ "java/lang/invoke/VarHandle" := ⟨by decide +kernel, by decide +kernel⟩
theorem icX2 : Cond.instantiable RX2 2 ∈ zTb := (zpk zq11 (k := 16) rfl)
theorem ncX2 : Cond.initialized RX2 ∈ zTb := (zpk zq11 (k := 17) rfl)
theorem mhX2 : RX2 ≠ "java/lang/invoke/MethodHandle" ∧ RX2 ≠ "java/lang/invoke/VarHandle" := ⟨by decide +kernel, by decide +kernel⟩
theorem icX3 : Cond.instantiable RX3 8 ∈ zTb := (zpk zq11 (k := 18) rfl)
theorem ncX3 : Cond.initialized RX3 ∈ zTb := (zpk zq11 (k := 19) rfl)
theorem mhX3 : RX3 ≠ "java/lang/invoke/MethodHandle" ∧ RX3 ≠ "java/lang/invoke/VarHandle" := ⟨by decide +kernel, by decide +kernel⟩
theorem icX4 : Cond.instantiable RX4 3 ∈ zTb := (zpk zq11 (k := 20) rfl)
theorem ncX4 : Cond.initialized RX4 ∈ zTb := (zpk zq11 (k := 21) rfl)
theorem mhX4 : RX4 ≠ "java/lang/invoke/MethodHandle" ∧ RX4 ≠ "java/lang/invoke/VarHandle" := ⟨by decide +kernel, by decide +kernel⟩
theorem icX5 : Cond.instantiable RX5 4 ∈ zTb := (zpk zq11 (k := 22) rfl)
theorem ncX5 : Cond.initialized RX5 ∈ zTb := (zpk zq11 (k := 23) rfl)
theorem mhX5 : RX5 ≠ "java/lang/invoke/MethodHandle" ∧ RX5 ≠ "java/lang/invoke/VarHandle" := ⟨by decide +kernel, by decide +kernel⟩
theorem icX6 : Cond.instantiable RX6 3 ∈ zTb := (zpk zq11 (k := 24) rfl)
theorem ncX6 : Cond.initialized RX6 ∈ zTb := (zpk zq11 (k := 25) rfl)
theorem mhX6 : RX6 ≠ "java/lang/invoke/MethodHandle" ∧ RX6 ≠ "java/lang/invoke/VarHandle" := ⟨by decide +kernel, by decide +kernel⟩
theorem icX7 : Cond.instantiable RX7 3 ∈ zTb := (zpk zq11 (k := 26) rfl)
theorem ncX7 : Cond.initialized RX7 ∈ zTb := (zpk zq11 (k := 27) rfl)
theorem mhX7 : RX7 ≠ "java/lang/invoke/MethodHandle" ∧ RX7 ≠ "java/lang/invoke/VarHandle" := ⟨by decide +kernel, by decide +kernel⟩
theorem icX8 : Cond.instantiable RX8 4 ∈ zTb := (zpk zq11 (k := 28) rfl)
theorem ncX8 : Cond.initialized RX8 ∈ zTb := (zpk zq11 (k := 29) rfl)
theorem mhX8 : RX8 ≠ "java/lang/invoke/MethodHandle" ∧ RX8 ≠ "java/lang/invoke/VarHandle" := ⟨by decide +kernel, by decide +kernel⟩
theorem icX9 : Cond.instantiable RX9 11 ∈ zTb := (zpk zq11 (k := 30) rfl)
theorem ncX9 : Cond.initialized RX9 ∈ zTb := (zpk zq11 (k := 31) rfl)
theorem mhX9 : RX9 ≠ "java/lang/invoke/MethodHandle" ∧ RX9 ≠ "java/lang/invoke/VarHandle" := ⟨by decide +kernel, by decide +kernel⟩
theorem icX10 : Cond.instantiable RX10 43 ∈ zTb := (zpk zq11 (k := 32) rfl)
theorem ncX10 : Cond.initialized RX10 ∈ zTb := (zpk zq11 (k := 33) rfl)
theorem mhX10 : RX10 ≠ "java/lang/invoke/MethodHandle" ∧ RX10 ≠ "java/lang/invoke/VarHandle" := ⟨by decide +kernel, by decide +kernel⟩
theorem aoX8 : Cond.arrayOver (.object "EveryNinth$Thing") ∈ zTb := (zpk zq11 (k := 34) rfl)
theorem aoX7 : Cond.arrayOver (.object "EveryNinth$Text") ∈ zTb := (zpk zq11 (k := 35) rfl)
theorem ac_int : Cond.arrayClass .int ∈ zTb := (zpk zq11 (k := 36) rfl)
theorem ac_boolean : Cond.arrayClass .boolean ∈ zTb := (zpk zq11 (k := 37) rfl)
theorem aoX6 : Cond.arrayOver (.object "EveryNinth$Sheet") ∈ zTb := (zpk zq11 (k := 38) rfl)
theorem ac_byte : Cond.arrayClass .byte ∈ zTb := (zpk zq11 (k := 39) rfl)
theorem obi : Cond.instanceMethod objectInit ∈ zTb := (zpk zq12 (k := 0) rfl)
theorem obc : Cond.code objectInit ⟨#[0xb1]⟩ 1 none ∈ zTb := (zpk zq12 (k := 1) rfl)
def xX0_init : zX := (RX0, cX0_init, 3, zrm 2 5 444, none, true)
theorem mX0_init : zCI yX0_init xX0_init 2 := ⟨⟨(zpk zq12 (k := 2) rfl), ncX0, mhX0, (zpd (k := 0) rfl)⟩, (zpk zq12 (k := 3) rfl), rfl⟩
def xX0_fill : zX := (RX0, cX0_fill, 3, zrm 6 0 0, none, false)
theorem mX0_fill : zCV yX0_fill xX0_fill 1 := ⟨⟨(zpk zq12 (k := 4) rfl), ncX0, mhX0, (zpd (k := 1) rfl)⟩, (zpk zq12 (k := 5) rfl), (zpk zq12 (k := 6) rfl)⟩
def xX0_putShifted : zX := (RX0, cX0_putShifted, 6, zrm 5 0 0, none, false)
theorem mX0_putShifted : zCV yX0_putShifted xX0_putShifted 2 := ⟨⟨(zpk zq12 (k := 7) rfl), ncX0, mhX0, (zpd (k := 2) rfl)⟩, (zpk zq12 (k := 8) rfl), (zpk zq12 (k := 9) rfl)⟩
def xX0_comesWithOthers : zX := (RX0, cX0_comesWithOthers, 4, zrm 1 0 0, (some .boolean), false)
theorem mX0_comesWithOthers : zCV yX0_comesWithOthers xX0_comesWithOthers 1 := ⟨⟨(zpk zq12 (k := 10) rfl), ncX0, mhX0, (zpd (k := 3) rfl)⟩, (zpk zq12 (k := 11) rfl), (zpk zq12 (k := 12) rfl)⟩
def xX0_costsOf : zX := (RX0, cX0_costsOf, 8, zrm 9 0 0, (some .int), false)
theorem mX0_costsOf : zCV yX0_costsOf xX0_costsOf 1 := ⟨⟨(zpk zq12 (k := 13) rfl), ncX0, mhX0, (zpd (k := 4) rfl)⟩, (zpk zq12 (k := 14) rfl), (zpk zq12 (k := 15) rfl)⟩
def xX0_mindsOf : zX := (RX0, cX0_mindsOf, 4, zrm 8 0 0, (some .int), false)
theorem mX0_mindsOf : zCV yX0_mindsOf xX0_mindsOf 2 := ⟨⟨(zpk zq12 (k := 16) rfl), ncX0, mhX0, (zpd (k := 5) rfl)⟩, (zpk zq12 (k := 17) rfl), (zpk zq12 (k := 18) rfl)⟩
def xX0_rule : zX := (RX0, cX0_rule, 1, zrm 1 0 0, (some (.object "EveryNinth$Text")), false)
theorem mX0_rule : zCV yX0_rule xX0_rule 0 := ⟨⟨(zpk zq12 (k := 19) rfl), ncX0, mhX0, (zpd (k := 6) rfl)⟩, (zpk zq12 (k := 20) rfl), (zpk zq12 (k := 21) rfl)⟩
def xX0_restAhead : zX := (RX0, cX0_restAhead, 4, zrm 1 0 0, (some .int), false)
theorem mX0_restAhead : zCV yX0_restAhead xX0_restAhead 1 := ⟨⟨(zpk zq12 (k := 22) rfl), ncX0, mhX0, (zpd (k := 4) rfl)⟩, (zpk zq12 (k := 23) rfl), (zpk zq12 (k := 24) rfl)⟩
def xX0_allCosts : zX := (RX0, cX0_allCosts, 3, zrm 10 0 0, (some .int), false)
theorem mX0_allCosts : zCV yX0_allCosts xX0_allCosts 0 := ⟨⟨(zpk zq12 (k := 25) rfl), ncX0, mhX0, (zpd (k := 7) rfl)⟩, (zpk zq12 (k := 26) rfl), (zpk zq12 (k := 27) rfl)⟩
def xX0_daysWith : zX := (RX0, cX0_daysWith, 4, zrm 7 0 0, (some .int), false)
theorem mX0_daysWith : zCV yX0_daysWith xX0_daysWith 1 := ⟨⟨(zpk zq12 (k := 28) rfl), ncX0, mhX0, (zpd (k := 4) rfl)⟩, (zpk zq12 (k := 29) rfl), (zpk zq12 (k := 30) rfl)⟩
def xX0_longestRest : zX := (RX0, cX0_longestRest, 5, zrm 1 0 0, (some .int), false)
theorem mX0_longestRest : zCV yX0_longestRest xX0_longestRest 0 := ⟨⟨(zpk zq12 (k := 31) rfl), ncX0, mhX0, (zpd (k := 7) rfl)⟩, (zpk zq12 (k := 32) rfl), (zpk zq12 (k := 33) rfl)⟩
def xX0_restFrom : zX := (RX0, cX0_restFrom, 4, zrm 1 0 0, (some .int), false)
theorem mX0_restFrom : zCV yX0_restFrom xX0_restFrom 1 := ⟨⟨(zpk zq12 (k := 34) rfl), ncX0, mhX0, (zpd (k := 4) rfl)⟩, (zpk zq12 (k := 35) rfl), (zpk zq12 (k := 36) rfl)⟩
def xX0_fullestWeek : zX := (RX0, cX0_fullestWeek, 3, zrm 8 0 0, (some .int), false)
theorem mX0_fullestWeek : zCV yX0_fullestWeek xX0_fullestWeek 0 := ⟨⟨(zpk zq12 (k := 37) rfl), ncX0, mhX0, (zpd (k := 7) rfl)⟩, (zpk zq12 (k := 38) rfl), (zpk zq12 (k := 39) rfl)⟩
def xX0_comersInWeek : zX := (RX0, cX0_comersInWeek, 4, zrm 7 0 0, (some .int), false)
theorem mX0_comersInWeek : zCV yX0_comersInWeek xX0_comersInWeek 1 := ⟨⟨(zpk zq13 (k := 0) rfl), ncX0, mhX0, (zpd (k := 4) rfl)⟩, (zpk zq13 (k := 1) rfl), (zpk zq13 (k := 2) rfl)⟩
def xX0_dearestDay : zX := (RX0, cX0_dearestDay, 5, zrm 10 0 0, (some .int), false)
theorem mX0_dearestDay : zCV yX0_dearestDay xX0_dearestDay 0 := ⟨⟨(zpk zq13 (k := 3) rfl), ncX0, mhX0, (zpd (k := 7) rfl)⟩, (zpk zq13 (k := 4) rfl), (zpk zq13 (k := 5) rfl)⟩
def xX1_init : zX := (RX1, cX1_init, 1, zrm 1 2 420, none, true)
theorem mX1_init : zCI yX1_init xX1_init 0 := ⟨⟨(zpk zq13 (k := 6) rfl), ncX1, mhX1, (zpd (k := 8) rfl)⟩, (zpk zq13 (k := 7) rfl), rfl⟩
def xX1_read : zX := (RX1, cX1_read, 4, zrm 3 0 0, (some .boolean), false)
theorem mX1_read : zCV yX1_read xX1_read 1 := ⟨⟨(zpk zq13 (k := 8) rfl), ncX1, mhX1, (zpd (k := 9) rfl)⟩, (zpk zq13 (k := 9) rfl), (zpk zq13 (k := 10) rfl)⟩
def xX1_clear : zX := (RX1, cX1_clear, 2, zrm 1 0 0, none, false)
theorem mX1_clear : zCV yX1_clear xX1_clear 0 := ⟨⟨(zpk zq13 (k := 11) rfl), ncX1, mhX1, (zpd (k := 8) rfl)⟩, (zpk zq13 (k := 12) rfl), (zpk zq13 (k := 13) rfl)⟩
def xX1_isOf : zX := (RX1, cX1_isOf, 4, zrm 5 0 0, (some .boolean), false)
theorem mX1_isOf : zCV yX1_isOf xX1_isOf 2 := ⟨⟨(zpk zq13 (k := 14) rfl), ncX1, mhX1, (zpd (k := 10) rfl)⟩, (zpk zq13 (k := 15) rfl), (zpk zq13 (k := 16) rfl)⟩
def xX1_periods : zX := (RX1, cX1_periods, 5, zrm 2 0 0, (some .long), false)
theorem mX1_periods : zCV yX1_periods xX1_periods 0 := ⟨⟨(zpk zq13 (k := 17) rfl), ncX1, mhX1, (zpd (k := 11) rfl)⟩, (zpk zq13 (k := 18) rfl), (zpk zq13 (k := 19) rfl)⟩
def xX1_twoRounds : zX := (RX1, cX1_twoRounds, 3, zrm 4 0 0, (some .int), false)
theorem mX1_twoRounds : zCV yX1_twoRounds xX1_twoRounds 0 := ⟨⟨(zpk zq13 (k := 20) rfl), ncX1, mhX1, (zpd (k := 7) rfl)⟩, (zpk zq13 (k := 21) rfl), (zpk zq13 (k := 22) rfl)⟩
def xX1_tellsRound : zX := (RX1, cX1_tellsRound, 4, zrm 1 0 0, (some .boolean), false)
theorem mX1_tellsRound : zCV yX1_tellsRound xX1_tellsRound 2 := ⟨⟨(zpk zq13 (k := 23) rfl), ncX1, mhX1, (zpd (k := 12) rfl)⟩, (zpk zq13 (k := 24) rfl), (zpk zq13 (k := 25) rfl)⟩
def xX1_secondRounds : zX := (RX1, cX1_secondRounds, 5, zrm 3 0 0, (some .int), false)
theorem mX1_secondRounds : zCV yX1_secondRounds xX1_secondRounds 1 := ⟨⟨(zpk zq13 (k := 26) rfl), ncX1, mhX1, (zpd (k := 4) rfl)⟩, (zpk zq13 (k := 27) rfl), (zpk zq13 (k := 28) rfl)⟩
def xX1_firstOutside : zX := (RX1, cX1_firstOutside, 3, zrm 2 0 0, (some .int), false)
theorem mX1_firstOutside : zCV yX1_firstOutside xX1_firstOutside 1 := ⟨⟨(zpk zq13 (k := 29) rfl), ncX1, mhX1, (zpd (k := 4) rfl)⟩, (zpk zq13 (k := 30) rfl), (zpk zq13 (k := 31) rfl)⟩
def xX1_areAll : zX := (RX1, cX1_areAll, 5, zrm 2 0 0, (some .boolean), false)
theorem mX1_areAll : zCV yX1_areAll xX1_areAll 3 := ⟨⟨(zpk zq13 (k := 32) rfl), ncX1, mhX1, (zpd (k := 13) rfl)⟩, (zpk zq13 (k := 33) rfl), (zpk zq13 (k := 34) rfl)⟩
def xX1_isBehind : zX := (RX1, cX1_isBehind, 3, zrm 1 0 0, (some .boolean), false)
theorem mX1_isBehind : zCS yX1_isBehind xX1_isBehind 3 := ⟨⟨(zpk zq13 (k := 35) rfl), ncX1, mhX1, (zpd (k := 13) rfl)⟩, (zpk zq13 (k := 36) rfl)⟩
def xX2_init : zX := (RX2, cX2_init, 1, zrm 1 0 0, none, true)
theorem mX2_init : zCI yX2_init xX2_init 0 := ⟨⟨(zpk zq13 (k := 37) rfl), ncX2, mhX2, (zpd (k := 8) rfl)⟩, (zpk zq13 (k := 38) rfl), rfl⟩
def xX2_start : zX := (RX2, cX2_start, 1, zrm 1 0 0, none, false)
theorem mX2_start : zCV yX2_start xX2_start 0 := ⟨⟨(zpk zq13 (k := 39) rfl), ncX2, mhX2, (zpd (k := 8) rfl)⟩, (zpk zq14 (k := 0) rfl), (zpk zq14 (k := 1) rfl)⟩
def xX2_takeIn : zX := (RX2, cX2_takeIn, 8, zrm 2 0 0, (some .boolean), false)
theorem mX2_takeIn : zCV yX2_takeIn xX2_takeIn 1 := ⟨⟨(zpk zq14 (k := 2) rfl), ncX2, mhX2, (zpd (k := 14) rfl)⟩, (zpk zq14 (k := 3) rfl), (zpk zq14 (k := 4) rfl)⟩
def xX2_notAhead : zX := (RX2, cX2_notAhead, 4, zrm 1 0 0, (some .long), false)
theorem mX2_notAhead : zCV yX2_notAhead xX2_notAhead 2 := ⟨⟨(zpk zq14 (k := 5) rfl), ncX2, mhX2, (zpd (k := 15) rfl)⟩, (zpk zq14 (k := 6) rfl), (zpk zq14 (k := 7) rfl)⟩
def xX3_init : zX := (RX3, cX3_init, 1, zrm 1 1 160, none, true)
theorem mX3_init : zCI yX3_init xX3_init 0 := ⟨⟨(zpk zq14 (k := 8) rfl), ncX3, mhX3, (zpd (k := 8) rfl)⟩, (zpk zq14 (k := 9) rfl), rfl⟩
def xX3_add : zX := (RX3, cX3_add, 2, zrm 1 0 0, (some .int), false)
theorem mX3_add : zCV yX3_add xX3_add 1 := ⟨⟨(zpk zq14 (k := 10) rfl), ncX3, mhX3, (zpd (k := 4) rfl)⟩, (zpk zq14 (k := 11) rfl), (zpk zq14 (k := 12) rfl)⟩
def xX3_clear : zX := (RX3, cX3_clear, 1, zrm 1 0 0, none, false)
theorem mX3_clear : zCV yX3_clear xX3_clear 0 := ⟨⟨(zpk zq14 (k := 13) rfl), ncX3, mhX3, (zpd (k := 8) rfl)⟩, (zpk zq14 (k := 14) rfl), (zpk zq14 (k := 15) rfl)⟩
def xX3_read : zX := (RX3, cX3_read, 3, zrm 81 0 0, (some .int), false)
theorem mX3_read : zCV yX3_read xX3_read 1 := ⟨⟨(zpk zq14 (k := 16) rfl), ncX3, mhX3, (zpd (k := 16) rfl)⟩, (zpk zq14 (k := 17) rfl), (zpk zq14 (k := 18) rfl)⟩
def xX3_need : zX := (RX3, cX3_need, 2, zrm 10 0 0, none, false)
theorem mX3_need : zCV yX3_need xX3_need 1 := ⟨⟨(zpk zq14 (k := 19) rfl), ncX3, mhX3, (zpd (k := 1) rfl)⟩, (zpk zq14 (k := 20) rfl), (zpk zq14 (k := 21) rfl)⟩
def xX3_fail : zX := (RX3, cX3_fail, 1, zrm 1 0 0, none, false)
theorem mX3_fail : zCV yX3_fail xX3_fail 0 := ⟨⟨(zpk zq14 (k := 22) rfl), ncX3, mhX3, (zpd (k := 8) rfl)⟩, (zpk zq14 (k := 23) rfl), (zpk zq14 (k := 24) rfl)⟩
def xX3_readOrs (d : Nat) : zX := (RX3, cX3_readOrs, 3, zrm d 0 0, none, false)
theorem mX3_readOrs (d : Nat) : zCV yX3_readOrs (xX3_readOrs d) 1 := ⟨⟨(zpk zq14 (k := 25) rfl), ncX3, mhX3, (zpd (k := 1) rfl)⟩, (zpk zq14 (k := 26) rfl), (zpk zq14 (k := 27) rfl)⟩
def xX3_readAnds (d : Nat) : zX := (RX3, cX3_readAnds, 3, zrm d 0 0, none, false)
theorem mX3_readAnds (d : Nat) : zCV yX3_readAnds (xX3_readAnds d) 1 := ⟨⟨(zpk zq14 (k := 28) rfl), ncX3, mhX3, (zpd (k := 1) rfl)⟩, (zpk zq14 (k := 29) rfl), (zpk zq14 (k := 30) rfl)⟩
def xX3_readNot (d : Nat) : zX := (RX3, cX3_readNot, 2, zrm d 0 0, none, false)
theorem mX3_readNot (d : Nat) : zCV yX3_readNot (xX3_readNot d) 1 := ⟨⟨(zpk zq14 (k := 31) rfl), ncX3, mhX3, (zpd (k := 1) rfl)⟩, (zpk zq14 (k := 32) rfl), (zpk zq14 (k := 33) rfl)⟩
def xX3_readComparison (d : Nat) : zX := (RX3, cX3_readComparison, 3, zrm d 0 0, none, false)
theorem mX3_readComparison (d : Nat) : zCV yX3_readComparison (xX3_readComparison d) 1 := ⟨⟨(zpk zq14 (k := 34) rfl), ncX3, mhX3, (zpd (k := 1) rfl)⟩, (zpk zq14 (k := 35) rfl), (zpk zq14 (k := 36) rfl)⟩
def xX3_readSum (d : Nat) : zX := (RX3, cX3_readSum, 4, zrm d 0 0, none, false)
theorem mX3_readSum (d : Nat) : zCV yX3_readSum (xX3_readSum d) 1 := ⟨⟨(zpk zq14 (k := 37) rfl), ncX3, mhX3, (zpd (k := 1) rfl)⟩, (zpk zq14 (k := 38) rfl), (zpk zq14 (k := 39) rfl)⟩
def xX3_readTerm (d : Nat) : zX := (RX3, cX3_readTerm, 3, zrm d 0 0, none, false)
theorem mX3_readTerm (d : Nat) : zCV yX3_readTerm (xX3_readTerm d) 1 := ⟨⟨(zpk zq15 (k := 0) rfl), ncX3, mhX3, (zpd (k := 1) rfl)⟩, (zpk zq15 (k := 1) rfl), (zpk zq15 (k := 2) rfl)⟩
def xX3_readOne (d : Nat) : zX := (RX3, cX3_readOne, 2, zrm d 0 0, none, false)
theorem mX3_readOne (d : Nat) : zCV yX3_readOne (xX3_readOne d) 1 := ⟨⟨(zpk zq15 (k := 3) rfl), ncX3, mhX3, (zpd (k := 1) rfl)⟩, (zpk zq15 (k := 4) rfl), (zpk zq15 (k := 5) rfl)⟩
def xX3_advance : zX := (RX3, cX3_advance, 2, zrm 9 0 0, none, false)
theorem mX3_advance : zCV yX3_advance xX3_advance 0 := ⟨⟨(zpk zq15 (k := 6) rfl), ncX3, mhX3, (zpd (k := 8) rfl)⟩, (zpk zq15 (k := 7) rfl), (zpk zq15 (k := 8) rfl)⟩
def xX3_byteAt : zX := (RX3, cX3_byteAt, 2, zrm 1 0 0, (some .int), false)
theorem mX3_byteAt : zCV yX3_byteAt xX3_byteAt 1 := ⟨⟨(zpk zq15 (k := 9) rfl), ncX3, mhX3, (zpd (k := 4) rfl)⟩, (zpk zq15 (k := 10) rfl), (zpk zq15 (k := 11) rfl)⟩
def xX3_isBlank : zX := (RX3, cX3_isBlank, 1, zrm 1 0 0, (some .boolean), false)
theorem mX3_isBlank : zCS yX3_isBlank xX3_isBlank 1 := ⟨⟨(zpk zq15 (k := 12) rfl), ncX3, mhX3, (zpd (k := 3) rfl)⟩, (zpk zq15 (k := 13) rfl)⟩
def xX3_takeWord : zX := (RX3, cX3_takeWord, 2, zrm 8 0 0, none, false)
theorem mX3_takeWord : zCV yX3_takeWord xX3_takeWord 0 := ⟨⟨(zpk zq15 (k := 14) rfl), ncX3, mhX3, (zpd (k := 8) rfl)⟩, (zpk zq15 (k := 15) rfl), (zpk zq15 (k := 16) rfl)⟩
def xX3_stands : zX := (RX3, cX3_stands, 3, zrm 7 0 0, (some .boolean), false)
theorem mX3_stands : zCV yX3_stands xX3_stands 1 := ⟨⟨(zpk zq15 (k := 17) rfl), ncX3, mhX3, (zpd (k := 17) rfl)⟩, (zpk zq15 (k := 18) rfl), (zpk zq15 (k := 19) rfl)⟩
def xX3_spelling : zX := (RX3, cX3_spelling, 1, zrm 1 0 0, (some (.object "java/lang/String")), false)
theorem mX3_spelling : zCS yX3_spelling xX3_spelling 1 := ⟨⟨(zpk zq15 (k := 20) rfl), ncX3, mhX3, (zpd (k := 18) rfl)⟩, (zpk zq15 (k := 21) rfl)⟩
def xX3_takeNumeral : zX := (RX3, cX3_takeNumeral, 2, zrm 2 0 0, none, false)
theorem mX3_takeNumeral : zCV yX3_takeNumeral xX3_takeNumeral 0 := ⟨⟨(zpk zq15 (k := 22) rfl), ncX3, mhX3, (zpd (k := 8) rfl)⟩, (zpk zq15 (k := 23) rfl), (zpk zq15 (k := 24) rfl)⟩
def xX4_init : zX := (RX4, cX4_init, 1, zrm 1 2 37, none, true)
theorem mX4_init : zCI yX4_init xX4_init 0 := ⟨⟨(zpk zq15 (k := 25) rfl), ncX4, mhX4, (zpd (k := 8) rfl)⟩, (zpk zq15 (k := 26) rfl), rfl⟩
def xX4_nameDay : zX := (RX4, cX4_nameDay, 4, zrm 1 0 0, none, false)
theorem mX4_nameDay : zCV yX4_nameDay xX4_nameDay 3 := ⟨⟨(zpk zq15 (k := 27) rfl), ncX4, mhX4, (zpd (k := 19) rfl)⟩, (zpk zq15 (k := 28) rfl), (zpk zq15 (k := 29) rfl)⟩
def xX4_nameThing : zX := (RX4, cX4_nameThing, 4, zrm 1 0 0, none, false)
theorem mX4_nameThing : zCV yX4_nameThing xX4_nameThing 3 := ⟨⟨(zpk zq15 (k := 30) rfl), ncX4, mhX4, (zpd (k := 19) rfl)⟩, (zpk zq15 (k := 31) rfl), (zpk zq15 (k := 32) rfl)⟩
def xX4_tells : zX := (RX4, cX4_tells, 5, zrm 7 0 0, (some .int), false)
theorem mX4_tells : zCV yX4_tells xX4_tells 2 := ⟨⟨(zpk zq15 (k := 33) rfl), ncX4, mhX4, (zpd (k := 20) rfl)⟩, (zpk zq15 (k := 34) rfl), (zpk zq15 (k := 35) rfl)⟩
def xX4_take : zX := (RX4, cX4_take, 3, zrm 3 0 0, none, false)
theorem mX4_take : zCV yX4_take xX4_take 1 := ⟨⟨(zpk zq15 (k := 36) rfl), ncX4, mhX4, (zpd (k := 1) rfl)⟩, (zpk zq15 (k := 37) rfl), (zpk zq15 (k := 38) rfl)⟩
def xX4_push : zX := (RX4, cX4_push, 2, zrm 1 0 0, none, false)
theorem mX4_push : zCV yX4_push xX4_push 1 := ⟨⟨(zpk zq15 (k := 39) rfl), ncX4, mhX4, (zpd (k := 1) rfl)⟩, (zpk zq16 (k := 0) rfl), (zpk zq16 (k := 1) rfl)⟩
def xX4_change : zX := (RX4, cX4_change, 5, zrm 1 0 0, none, false)
theorem mX4_change : zCV yX4_change xX4_change 1 := ⟨⟨(zpk zq16 (k := 2) rfl), ncX4, mhX4, (zpd (k := 1) rfl)⟩, (zpk zq16 (k := 3) rfl), (zpk zq16 (k := 4) rfl)⟩
def xX4_combine : zX := (RX4, cX4_combine, 3, zrm 2 0 0, none, false)
theorem mX4_combine : zCV yX4_combine xX4_combine 1 := ⟨⟨(zpk zq16 (k := 5) rfl), ncX4, mhX4, (zpd (k := 1) rfl)⟩, (zpk zq16 (k := 6) rfl), (zpk zq16 (k := 7) rfl)⟩
def xX4_combined : zX := (RX4, cX4_combined, 3, zrm 1 0 0, (some .int), false)
theorem mX4_combined : zCS yX4_combined xX4_combined 3 := ⟨⟨(zpk zq16 (k := 8) rfl), ncX4, mhX4, (zpd (k := 21) rfl)⟩, (zpk zq16 (k := 9) rfl)⟩
def xX5_init : zX := (RX5, cX5_init, 2, zrm 2 7 30, none, true)
theorem mX5_init : zCI yX5_init xX5_init 0 := ⟨⟨(zpk zq16 (k := 10) rfl), ncX5, mhX5, (zpd (k := 8) rfl)⟩, (zpk zq16 (k := 11) rfl), rfl⟩
def xX5_has : zX := (RX5, cX5_has, 2, zrm 1 0 0, (some .boolean), false)
theorem mX5_has : zCV yX5_has xX5_has 1 := ⟨⟨(zpk zq16 (k := 12) rfl), ncX5, mhX5, (zpd (k := 3) rfl)⟩, (zpk zq16 (k := 13) rfl), (zpk zq16 (k := 14) rfl)⟩
def xX5_hasAll : zX := (RX5, cX5_hasAll, 2, zrm 1 0 0, (some .boolean), false)
theorem mX5_hasAll : zCV yX5_hasAll xX5_hasAll 1 := ⟨⟨(zpk zq16 (k := 15) rfl), ncX5, mhX5, (zpd (k := 3) rfl)⟩, (zpk zq16 (k := 16) rfl), (zpk zq16 (k := 17) rfl)⟩
def xX5_add : zX := (RX5, cX5_add, 6, zrm 1 0 0, (some .int), false)
theorem mX5_add : zCV yX5_add xX5_add 4 := ⟨⟨(zpk zq16 (k := 18) rfl), ncX5, mhX5, (zpd (k := 22) rfl)⟩, (zpk zq16 (k := 19) rfl), (zpk zq16 (k := 20) rfl)⟩
def xX5_become : zX := (RX5, cX5_become, 3, zrm 2 0 0, none, false)
theorem mX5_become : zCV yX5_become xX5_become 1 := ⟨⟨(zpk zq16 (k := 21) rfl), ncX5, mhX5, (zpd (k := 23) rfl)⟩, (zpk zq16 (k := 22) rfl), (zpk zq16 (k := 23) rfl)⟩
def xX5_comers : zX := (RX5, cX5_comers, 5, zrm 5 0 0, (some .int), false)
theorem mX5_comers : zCV yX5_comers xX5_comers 2 := ⟨⟨(zpk zq16 (k := 24) rfl), ncX5, mhX5, (zpd (k := 5) rfl)⟩, (zpk zq16 (k := 25) rfl), (zpk zq16 (k := 26) rfl)⟩
def xX6_init : zX := (RX6, cX6_init, 1, zrm 1 1 40, none, true)
theorem mX6_init : zCI yX6_init xX6_init 0 := ⟨⟨(zpk zq16 (k := 27) rfl), ncX6, mhX6, (zpd (k := 8) rfl)⟩, (zpk zq16 (k := 28) rfl), rfl⟩
def xX6_isMissing : zX := (RX6, cX6_isMissing, 1, zrm 1 0 0, (some .boolean), false)
theorem mX6_isMissing : zCV yX6_isMissing xX6_isMissing 0 := ⟨⟨(zpk zq16 (k := 29) rfl), ncX6, mhX6, (zpd (k := 24) rfl)⟩, (zpk zq16 (k := 30) rfl), (zpk zq16 (k := 31) rfl)⟩
def xX6_become : zX := (RX6, cX6_become, 4, zrm 1 0 0, none, false)
theorem mX6_become : zCV yX6_become xX6_become 2 := ⟨⟨(zpk zq16 (k := 32) rfl), ncX6, mhX6, (zpd (k := 2) rfl)⟩, (zpk zq16 (k := 33) rfl), (zpk zq16 (k := 34) rfl)⟩
def xX6_hasItems : zX := (RX6, cX6_hasItems, 3, zrm 1 0 0, (some .boolean), false)
theorem mX6_hasItems : zCV yX6_hasItems xX6_hasItems 2 := ⟨⟨(zpk zq16 (k := 35) rfl), ncX6, mhX6, (zpd (k := 12) rfl)⟩, (zpk zq16 (k := 36) rfl), (zpk zq16 (k := 37) rfl)⟩
def xX6_put : zX := (RX6, cX6_put, 3, zrm 1 0 0, none, false)
theorem mX6_put : zCV yX6_put xX6_put 2 := ⟨⟨(zpk zq16 (k := 38) rfl), ncX6, mhX6, (zpd (k := 2) rfl)⟩, (zpk zq16 (k := 39) rfl), (zpk zq17 (k := 0) rfl)⟩
def xX7_init : zX := (RX7, cX7_init, 1, zrm 1 2 163, none, true)
theorem mX7_init : zCI yX7_init xX7_init 0 := ⟨⟨(zpk zq17 (k := 1) rfl), ncX7, mhX7, (zpd (k := 8) rfl)⟩, (zpk zq17 (k := 2) rfl), rfl⟩
def xX7_clear : zX := (RX7, cX7_clear, 1, zrm 1 0 0, none, false)
theorem mX7_clear : zCV yX7_clear xX7_clear 0 := ⟨⟨(zpk zq17 (k := 3) rfl), ncX7, mhX7, (zpd (k := 8) rfl)⟩, (zpk zq17 (k := 4) rfl), (zpk zq17 (k := 5) rfl)⟩
def xX7_add : zX := (RX7, cX7_add, 2, zrm 1 0 0, none, false)
theorem mX7_add : zCV yX7_add xX7_add 1 := ⟨⟨(zpk zq17 (k := 6) rfl), ncX7, mhX7, (zpd (k := 1) rfl)⟩, (zpk zq17 (k := 7) rfl), (zpk zq17 (k := 8) rfl)⟩
def xX7_endPart : zX := (RX7, cX7_endPart, 2, zrm 1 0 0, none, false)
theorem mX7_endPart : zCV yX7_endPart xX7_endPart 1 := ⟨⟨(zpk zq17 (k := 9) rfl), ncX7, mhX7, (zpd (k := 1) rfl)⟩, (zpk zq17 (k := 10) rfl), (zpk zq17 (k := 11) rfl)⟩
def xX7_startOf : zX := (RX7, cX7_startOf, 2, zrm 2 0 0, (some .int), false)
theorem mX7_startOf : zCV yX7_startOf xX7_startOf 1 := ⟨⟨(zpk zq17 (k := 12) rfl), ncX7, mhX7, (zpd (k := 4) rfl)⟩, (zpk zq17 (k := 13) rfl), (zpk zq17 (k := 14) rfl)⟩
def xX7_endOf : zX := (RX7, cX7_endOf, 2, zrm 1 0 0, (some .int), false)
theorem mX7_endOf : zCV yX7_endOf xX7_endOf 1 := ⟨⟨(zpk zq17 (k := 15) rfl), ncX7, mhX7, (zpd (k := 4) rfl)⟩, (zpk zq17 (k := 16) rfl), (zpk zq17 (k := 17) rfl)⟩
def xX8_init : zX := (RX8, cX8_init, 1, zrm 1 0 0, none, true)
theorem mX8_init : zCI yX8_init xX8_init 0 := ⟨⟨(zpk zq17 (k := 18) rfl), ncX8, mhX8, (zpd (k := 8) rfl)⟩, (zpk zq17 (k := 19) rfl), rfl⟩
def xX8_become : zX := (RX8, cX8_become, 2, zrm 1 0 0, none, false)
theorem mX8_become : zCV yX8_become xX8_become 1 := ⟨⟨(zpk zq17 (k := 20) rfl), ncX8, mhX8, (zpd (k := 25) rfl)⟩, (zpk zq17 (k := 21) rfl), (zpk zq17 (k := 22) rfl)⟩
def xX8_becomeShifted : zX := (RX8, cX8_becomeShifted, 3, zrm 2 0 0, none, false)
theorem mX8_becomeShifted : zCV yX8_becomeShifted xX8_becomeShifted 2 := ⟨⟨(zpk zq17 (k := 23) rfl), ncX8, mhX8, (zpd (k := 26) rfl)⟩, (zpk zq17 (k := 24) rfl), (zpk zq17 (k := 25) rfl)⟩
def xX8_fact : zX := (RX8, cX8_fact, 2, zrm 1 0 0, (some .int), false)
theorem mX8_fact : zCV yX8_fact xX8_fact 1 := ⟨⟨(zpk zq17 (k := 26) rfl), ncX8, mhX8, (zpd (k := 4) rfl)⟩, (zpk zq17 (k := 27) rfl), (zpk zq17 (k := 28) rfl)⟩
def xX8_change : zX := (RX8, cX8_change, 3, zrm 1 0 0, none, false)
theorem mX8_change : zCV yX8_change xX8_change 2 := ⟨⟨(zpk zq17 (k := 29) rfl), ncX8, mhX8, (zpd (k := 2) rfl)⟩, (zpk zq17 (k := 30) rfl), (zpk zq17 (k := 31) rfl)⟩
def xX8_comes : zX := (RX8, cX8_comes, 3, zrm 4 0 0, (some .boolean), false)
theorem mX8_comes : zCV yX8_comes xX8_comes 2 := ⟨⟨(zpk zq17 (k := 32) rfl), ncX8, mhX8, (zpd (k := 12) rfl)⟩, (zpk zq17 (k := 33) rfl), (zpk zq17 (k := 34) rfl)⟩
def xX8_inRound : zX := (RX8, cX8_inRound, 2, zrm 1 0 0, (some .boolean), false)
theorem mX8_inRound : zCV yX8_inRound xX8_inRound 1 := ⟨⟨(zpk zq17 (k := 35) rfl), ncX8, mhX8, (zpd (k := 3) rfl)⟩, (zpk zq17 (k := 36) rfl), (zpk zq17 (k := 37) rfl)⟩
def xX8_lasts : zX := (RX8, cX8_lasts, 2, zrm 1 0 0, (some .boolean), false)
theorem mX8_lasts : zCV yX8_lasts xX8_lasts 1 := ⟨⟨(zpk zq17 (k := 38) rfl), ncX8, mhX8, (zpd (k := 3) rfl)⟩, (zpk zq17 (k := 39) rfl), (zpk zq18 (k := 0) rfl)⟩
def xX8_isPutOffTo : zX := (RX8, cX8_isPutOffTo, 4, zrm 3 0 0, (some .boolean), false)
theorem mX8_isPutOffTo : zCV yX8_isPutOffTo xX8_isPutOffTo 2 := ⟨⟨(zpk zq18 (k := 1) rfl), ncX8, mhX8, (zpd (k := 12) rfl)⟩, (zpk zq18 (k := 2) rfl), (zpk zq18 (k := 3) rfl)⟩
def xX8_spends : zX := (RX8, cX8_spends, 2, zrm 8 0 0, (some .int), false)
theorem mX8_spends : zCV yX8_spends xX8_spends 1 := ⟨⟨(zpk zq18 (k := 4) rfl), ncX8, mhX8, (zpd (k := 4) rfl)⟩, (zpk zq18 (k := 5) rfl), (zpk zq18 (k := 6) rfl)⟩
def xX8_lastingSpends : zX := (RX8, cX8_lastingSpends, 3, zrm 7 0 0, (some .int), false)
theorem mX8_lastingSpends : zCV yX8_lastingSpends xX8_lastingSpends 1 := ⟨⟨(zpk zq18 (k := 7) rfl), ncX8, mhX8, (zpd (k := 4) rfl)⟩, (zpk zq18 (k := 8) rfl), (zpk zq18 (k := 9) rfl)⟩
def xX8_isUnder : zX := (RX8, cX8_isUnder, 4, zrm 2 0 0, (some .boolean), false)
theorem mX8_isUnder : zCV yX8_isUnder xX8_isUnder 1 := ⟨⟨(zpk zq18 (k := 10) rfl), ncX8, mhX8, (zpd (k := 3) rfl)⟩, (zpk zq18 (k := 11) rfl), (zpk zq18 (k := 12) rfl)⟩
def xX8_kindAbove : zX := (RX8, cX8_kindAbove, 1, zrm 1 0 0, (some .int), false)
theorem mX8_kindAbove : zCS yX8_kindAbove xX8_kindAbove 1 := ⟨⟨(zpk zq18 (k := 13) rfl), ncX8, mhX8, (zpd (k := 4) rfl)⟩, (zpk zq18 (k := 14) rfl)⟩
def xX8_sharesDayWith : zX := (RX8, cX8_sharesDayWith, 4, zrm 2 0 0, (some .boolean), false)
theorem mX8_sharesDayWith : zCV yX8_sharesDayWith xX8_sharesDayWith 1 := ⟨⟨(zpk zq18 (k := 15) rfl), ncX8, mhX8, (zpd (k := 14) rfl)⟩, (zpk zq18 (k := 16) rfl), (zpk zq18 (k := 17) rfl)⟩
def xX9_init : zX := (RX9, cX9_init, 2, zrm 82 57 2295, none, true)
theorem mX9_init : zCI yX9_init xX9_init 0 := ⟨⟨(zpk zq18 (k := 18) rfl), ncX9, mhX9, (zpd (k := 8) rfl)⟩, (zpk zq18 (k := 19) rfl), rfl⟩
def xX9_set : zX := (RX9, cX9_set, 6, zrm 3 0 0, (some .int), false)
theorem mX9_set : zCV yX9_set xX9_set 3 := ⟨⟨(zpk zq18 (k := 20) rfl), ncX9, mhX9, (zpd (k := 21) rfl)⟩, (zpk zq18 (k := 21) rfl), (zpk zq18 (k := 22) rfl)⟩
def xX9_setHolidays : zX := (RX9, cX9_setHolidays, 3, zrm 2 0 0, (some .int), false)
theorem mX9_setHolidays : zCV yX9_setHolidays xX9_setHolidays 1 := ⟨⟨(zpk zq18 (k := 23) rfl), ncX9, mhX9, (zpd (k := 4) rfl)⟩, (zpk zq18 (k := 24) rfl), (zpk zq18 (k := 25) rfl)⟩
def xX9_thing : zX := (RX9, cX9_thing, 6, zrm 3 0 0, (some .int), false)
theorem mX9_thing : zCV yX9_thing xX9_thing 3 := ⟨⟨(zpk zq18 (k := 26) rfl), ncX9, mhX9, (zpd (k := 21) rfl)⟩, (zpk zq18 (k := 27) rfl), (zpk zq18 (k := 28) rfl)⟩
def xX9_told : zX := (RX9, cX9_told, 3, zrm 2 0 0, (some .int), false)
theorem mX9_told : zCV yX9_told xX9_told 2 := ⟨⟨(zpk zq18 (k := 29) rfl), ncX9, mhX9, (zpd (k := 5) rfl)⟩, (zpk zq18 (k := 30) rfl), (zpk zq18 (k := 31) rfl)⟩
def xX9_feed : zX := (RX9, cX9_feed, 2, zrm 2 0 0, (some .int), false)
theorem mX9_feed : zCV yX9_feed xX9_feed 1 := ⟨⟨(zpk zq18 (k := 32) rfl), ncX9, mhX9, (zpd (k := 4) rfl)⟩, (zpk zq18 (k := 33) rfl), (zpk zq18 (k := 34) rfl)⟩
def xX9_text : zX := (RX9, cX9_text, 2, zrm 82 0 0, (some .int), false)
theorem mX9_text : zCV yX9_text xX9_text 0 := ⟨⟨(zpk zq18 (k := 35) rfl), ncX9, mhX9, (zpd (k := 7) rfl)⟩, (zpk zq18 (k := 36) rfl), (zpk zq18 (k := 37) rfl)⟩
def xX9_force : zX := (RX9, cX9_force, 3, zrm 2 0 0, (some .int), false)
theorem mX9_force : zCV yX9_force xX9_force 1 := ⟨⟨(zpk zq18 (k := 38) rfl), ncX9, mhX9, (zpd (k := 4) rfl)⟩, (zpk zq18 (k := 39) rfl), (zpk zq19 (k := 0) rfl)⟩
def xX9_day : zX := (RX9, cX9_day, 3, zrm 10 0 0, (some .int), false)
theorem mX9_day : zCV yX9_day xX9_day 2 := ⟨⟨(zpk zq19 (k := 1) rfl), ncX9, mhX9, (zpd (k := 5) rfl)⟩, (zpk zq19 (k := 2) rfl), (zpk zq19 (k := 3) rfl)⟩
def xX9_when : zX := (RX9, cX9_when, 3, zrm 6 0 0, (some .int), false)
theorem mX9_when : zCV yX9_when xX9_when 2 := ⟨⟨(zpk zq19 (k := 4) rfl), ncX9, mhX9, (zpd (k := 5) rfl)⟩, (zpk zq19 (k := 5) rfl), (zpk zq19 (k := 6) rfl)⟩
def xX9_nextComing : zX := (RX9, cX9_nextComing, 4, zrm 5 0 0, (some .int), false)
theorem mX9_nextComing : zCV yX9_nextComing xX9_nextComing 2 := ⟨⟨(zpk zq19 (k := 7) rfl), ncX9, mhX9, (zpd (k := 27) rfl)⟩, (zpk zq19 (k := 8) rfl), (zpk zq19 (k := 9) rfl)⟩
def xX9_often : zX := (RX9, cX9_often, 5, zrm 5 0 0, (some .int), false)
theorem mX9_often : zCV yX9_often xX9_often 2 := ⟨⟨(zpk zq19 (k := 10) rfl), ncX9, mhX9, (zpd (k := 5) rfl)⟩, (zpk zq19 (k := 11) rfl), (zpk zq19 (k := 12) rfl)⟩
def xX9_year : zX := (RX9, cX9_year, 2, zrm 11 0 0, (some .int), false)
theorem mX9_year : zCV yX9_year xX9_year 1 := ⟨⟨(zpk zq19 (k := 13) rfl), ncX9, mhX9, (zpd (k := 4) rfl)⟩, (zpk zq19 (k := 14) rfl), (zpk zq19 (k := 15) rfl)⟩
def xX9_meet : zX := (RX9, cX9_meet, 2, zrm 4 0 0, (some .long), false)
theorem mX9_meet : zCV yX9_meet xX9_meet 1 := ⟨⟨(zpk zq19 (k := 16) rfl), ncX9, mhX9, (zpd (k := 28) rfl)⟩, (zpk zq19 (k := 17) rfl), (zpk zq19 (k := 18) rfl)⟩
def xX9_every : zX := (RX9, cX9_every, 2, zrm 4 0 0, (some .long), false)
theorem mX9_every : zCV yX9_every xX9_every 1 := ⟨⟨(zpk zq19 (k := 19) rfl), ncX9, mhX9, (zpd (k := 28) rfl)⟩, (zpk zq19 (k := 20) rfl), (zpk zq19 (k := 21) rfl)⟩
def xX9_findMeeting : zX := (RX9, cX9_findMeeting, 3, zrm 3 0 0, (some .boolean), false)
theorem mX9_findMeeting : zCV yX9_findMeeting xX9_findMeeting 1 := ⟨⟨(zpk zq19 (k := 22) rfl), ncX9, mhX9, (zpd (k := 3) rfl)⟩, (zpk zq19 (k := 23) rfl), (zpk zq19 (k := 24) rfl)⟩
def xX9_why : zX := (RX9, cX9_why, 4, zrm 4 0 0, (some .int), false)
theorem mX9_why : zCV yX9_why xX9_why 1 := ⟨⟨(zpk zq19 (k := 25) rfl), ncX9, mhX9, (zpd (k := 4) rfl)⟩, (zpk zq19 (k := 26) rfl), (zpk zq19 (k := 27) rfl)⟩
def xX9_neverMeet : zX := (RX9, cX9_neverMeet, 3, zrm 3 0 0, (some .boolean), false)
theorem mX9_neverMeet : zCV yX9_neverMeet xX9_neverMeet 2 := ⟨⟨(zpk zq19 (k := 28) rfl), ncX9, mhX9, (zpd (k := 12) rfl)⟩, (zpk zq19 (k := 29) rfl), (zpk zq19 (k := 30) rfl)⟩
def xX9_full : zX := (RX9, cX9_full, 8, zrm 3 0 0, (some .long), false)
theorem mX9_full : zCV yX9_full xX9_full 1 := ⟨⟨(zpk zq19 (k := 31) rfl), ncX9, mhX9, (zpd (k := 28) rfl)⟩, (zpk zq19 (k := 32) rfl), (zpk zq19 (k := 33) rfl)⟩
def xX9_shift : zX := (RX9, cX9_shift, 3, zrm 7 0 0, (some .int), false)
theorem mX9_shift : zCV yX9_shift xX9_shift 1 := ⟨⟨(zpk zq19 (k := 34) rfl), ncX9, mhX9, (zpd (k := 4) rfl)⟩, (zpk zq19 (k := 35) rfl), (zpk zq19 (k := 36) rfl)⟩
def xX9_join : zX := (RX9, cX9_join, 4, zrm 3 0 0, (some .int), false)
theorem mX9_join : zCV yX9_join xX9_join 2 := ⟨⟨(zpk zq19 (k := 37) rfl), ncX9, mhX9, (zpd (k := 5) rfl)⟩, (zpk zq19 (k := 38) rfl), (zpk zq19 (k := 39) rfl)⟩
def xX9_goodShift : zX := (RX9, cX9_goodShift, 7, zrm 11 0 0, (some .int), false)
theorem mX9_goodShift : zCV yX9_goodShift xX9_goodShift 2 := ⟨⟨(zpk zq20 (k := 0) rfl), ncX9, mhX9, (zpd (k := 5) rfl)⟩, (zpk zq20 (k := 1) rfl), (zpk zq20 (k := 2) rfl)⟩
def xX9_diary : zX := (RX9, cX9_diary, 4, zrm 7 0 0, (some .int), false)
theorem mX9_diary : zCV yX9_diary xX9_diary 3 := ⟨⟨(zpk zq20 (k := 3) rfl), ncX9, mhX9, (zpd (k := 21) rfl)⟩, (zpk zq20 (k := 4) rfl), (zpk zq20 (k := 5) rfl)⟩
def xX9_thingsOfPages : zX := (RX9, cX9_thingsOfPages, 3, zrm 6 0 0, (some .int), false)
theorem mX9_thingsOfPages : zCV yX9_thingsOfPages xX9_thingsOfPages 0 := ⟨⟨(zpk zq20 (k := 6) rfl), ncX9, mhX9, (zpd (k := 7) rfl)⟩, (zpk zq20 (k := 7) rfl), (zpk zq20 (k := 8) rfl)⟩
def xX9_kindsOfPages : zX := (RX9, cX9_kindsOfPages, 4, zrm 6 0 0, (some .int), false)
theorem mX9_kindsOfPages : zCV yX9_kindsOfPages xX9_kindsOfPages 1 := ⟨⟨(zpk zq20 (k := 9) rfl), ncX9, mhX9, (zpd (k := 4) rfl)⟩, (zpk zq20 (k := 10) rfl), (zpk zq20 (k := 11) rfl)⟩
def xX9_rounds : zX := (RX9, cX9_rounds, 3, zrm 5 0 0, (some .long), false)
theorem mX9_rounds : zCV yX9_rounds xX9_rounds 2 := ⟨⟨(zpk zq20 (k := 12) rfl), ncX9, mhX9, (zpd (k := 29) rfl)⟩, (zpk zq20 (k := 13) rfl), (zpk zq20 (k := 14) rfl)⟩
def xX9_film : zX := (RX9, cX9_film, 8, zrm 6 0 0, (some .int), false)
theorem mX9_film : zCV yX9_film xX9_film 3 := ⟨⟨(zpk zq20 (k := 15) rfl), ncX9, mhX9, (zpd (k := 21) rfl)⟩, (zpk zq20 (k := 16) rfl), (zpk zq20 (k := 17) rfl)⟩
def xX9_drawn : zX := (RX9, cX9_drawn, 2, zrm 11 0 0, (some .int), false)
theorem mX9_drawn : zCV yX9_drawn xX9_drawn 1 := ⟨⟨(zpk zq20 (k := 18) rfl), ncX9, mhX9, (zpd (k := 4) rfl)⟩, (zpk zq20 (k := 19) rfl), (zpk zq20 (k := 20) rfl)⟩
def xX9_chance : zX := (RX9, cX9_chance, 6, zrm 8 0 0, (some .long), false)
theorem mX9_chance : zCV yX9_chance xX9_chance 3 := ⟨⟨(zpk zq20 (k := 21) rfl), ncX9, mhX9, (zpd (k := 30) rfl)⟩, (zpk zq20 (k := 22) rfl), (zpk zq20 (k := 23) rfl)⟩
def xX9_drawnHolidays : zX := (RX9, cX9_drawnHolidays, 2, zrm 1 0 0, (some .int), false)
theorem mX9_drawnHolidays : zCS yX9_drawnHolidays xX9_drawnHolidays 1 := ⟨⟨(zpk zq20 (k := 24) rfl), ncX9, mhX9, (zpd (k := 4) rfl)⟩, (zpk zq20 (k := 25) rfl)⟩
def xX9_image : zX := (RX9, cX9_image, 1, zrm 3 0 0, (some .int), false)
theorem mX9_image : zCV yX9_image xX9_image 0 := ⟨⟨(zpk zq20 (k := 26) rfl), ncX9, mhX9, (zpd (k := 7) rfl)⟩, (zpk zq20 (k := 27) rfl), (zpk zq20 (k := 28) rfl)⟩
def xX9_back : zX := (RX9, cX9_back, 1, zrm 3 0 0, (some .int), false)
theorem mX9_back : zCV yX9_back xX9_back 0 := ⟨⟨(zpk zq20 (k := 29) rfl), ncX9, mhX9, (zpd (k := 7) rfl)⟩, (zpk zq20 (k := 30) rfl), (zpk zq20 (k := 31) rfl)⟩
def xX9_count : zX := (RX9, cX9_count, 2, zrm 1 0 0, (some .int), false)
theorem mX9_count : zCV yX9_count xX9_count 1 := ⟨⟨(zpk zq20 (k := 32) rfl), ncX9, mhX9, (zpd (k := 4) rfl)⟩, (zpk zq20 (k := 33) rfl), (zpk zq20 (k := 34) rfl)⟩
def xX9_sheet : zX := (RX9, cX9_sheet, 4, zrm 3 0 0, (some .int), false)
theorem mX9_sheet : zCV yX9_sheet xX9_sheet 3 := ⟨⟨(zpk zq20 (k := 35) rfl), ncX9, mhX9, (zpd (k := 21) rfl)⟩, (zpk zq20 (k := 36) rfl), (zpk zq20 (k := 37) rfl)⟩
def xX9_cell : zX := (RX9, cX9_cell, 5, zrm 3 0 0, (some .int), false)
theorem mX9_cell : zCV yX9_cell xX9_cell 3 := ⟨⟨(zpk zq20 (k := 38) rfl), ncX9, mhX9, (zpd (k := 21) rfl)⟩, (zpk zq20 (k := 39) rfl), (zpk zq21 (k := 0) rfl)⟩
def xX9_copy : zX := (RX9, cX9_copy, 8, zrm 3 0 0, (some .int), false)
theorem mX9_copy : zCV yX9_copy xX9_copy 5 := ⟨⟨(zpk zq21 (k := 1) rfl), ncX9, mhX9, (zpd (k := 31) rfl)⟩, (zpk zq21 (k := 2) rfl), (zpk zq21 (k := 3) rfl)⟩
def xX9_things : zX := (RX9, cX9_things, 9, zrm 4 0 0, (some .int), false)
theorem mX9_things : zCV yX9_things xX9_things 4 := ⟨⟨(zpk zq21 (k := 4) rfl), ncX9, mhX9, (zpd (k := 22) rfl)⟩, (zpk zq21 (k := 5) rfl), (zpk zq21 (k := 6) rfl)⟩
def xX9_taken : zX := (RX9, cX9_taken, 3, zrm 3 0 0, (some .int), false)
theorem mX9_taken : zCV yX9_taken xX9_taken 2 := ⟨⟨(zpk zq21 (k := 7) rfl), ncX9, mhX9, (zpd (k := 5) rfl)⟩, (zpk zq21 (k := 8) rfl), (zpk zq21 (k := 9) rfl)⟩
def xX9_within : zX := (RX9, cX9_within, 3, zrm 1 0 0, (some .boolean), false)
theorem mX9_within : zCS yX9_within xX9_within 3 := ⟨⟨(zpk zq21 (k := 10) rfl), ncX9, mhX9, (zpd (k := 13) rfl)⟩, (zpk zq21 (k := 11) rfl)⟩
def xX9_hasBit : zX := (RX9, cX9_hasBit, 2, zrm 1 0 0, (some .boolean), false)
theorem mX9_hasBit : zCS yX9_hasBit xX9_hasBit 2 := ⟨⟨(zpk zq21 (k := 12) rfl), ncX9, mhX9, (zpd (k := 12) rfl)⟩, (zpk zq21 (k := 13) rfl)⟩
def xX9_isDay : zX := (RX9, cX9_isDay, 1, zrm 2 0 0, (some .boolean), false)
theorem mX9_isDay : zCS yX9_isDay xX9_isDay 1 := ⟨⟨(zpk zq21 (k := 14) rfl), ncX9, mhX9, (zpd (k := 3) rfl)⟩, (zpk zq21 (k := 15) rfl)⟩
def xX9_isSheet : zX := (RX9, cX9_isSheet, 1, zrm 2 0 0, (some .boolean), false)
theorem mX9_isSheet : zCS yX9_isSheet xX9_isSheet 1 := ⟨⟨(zpk zq21 (k := 16) rfl), ncX9, mhX9, (zpd (k := 3) rfl)⟩, (zpk zq21 (k := 17) rfl)⟩
def xX9_isHoliday : zX := (RX9, cX9_isHoliday, 2, zrm 2 0 0, (some .boolean), false)
theorem mX9_isHoliday : zCS yX9_isHoliday xX9_isHoliday 2 := ⟨⟨(zpk zq21 (k := 18) rfl), ncX9, mhX9, (zpd (k := 12) rfl)⟩, (zpk zq21 (k := 19) rfl)⟩
def xX9_mayBe : zX := (RX9, cX9_mayBe, 2, zrm 2 0 0, (some .boolean), false)
theorem mX9_mayBe : zCS yX9_mayBe xX9_mayBe 2 := ⟨⟨(zpk zq21 (k := 20) rfl), ncX9, mhX9, (zpd (k := 12) rfl)⟩, (zpk zq21 (k := 21) rfl)⟩
def xX9_greatestDivisor : zX := (RX9, cX9_greatestDivisor, 11, zrm 1 0 0, (some .long), false)
theorem mX9_greatestDivisor : zCS yX9_greatestDivisor xX9_greatestDivisor 2 := ⟨⟨(zpk zq21 (k := 22) rfl), ncX9, mhX9, (zpd (k := 32) rfl)⟩, (zpk zq21 (k := 23) rfl)⟩
def xX9_inLowestTerms : zX := (RX9, cX9_inLowestTerms, 9, zrm 2 0 0, (some .long), false)
theorem mX9_inLowestTerms : zCS yX9_inLowestTerms xX9_inLowestTerms 3 := ⟨⟨(zpk zq21 (k := 24) rfl), ncX9, mhX9, (zpd (k := 33) rfl)⟩, (zpk zq21 (k := 25) rfl)⟩
def xX10_in : zX := (RX10, cX10_in, 6, zrm 1 0 0, (some .boolean), false)
theorem mX10_in : zCS yX10_in xX10_in 3 := ⟨⟨(zpk zq21 (k := 26) rfl), ncX10, mhX10, (zpd (k := 34) rfl)⟩, (zpk zq21 (k := 27) rfl)⟩
def xX10_within : zX := (RX10, cX10_within, 3, zrm 1 0 0, (some .int), false)
theorem mX10_within : zCS yX10_within xX10_within 3 := ⟨⟨(zpk zq21 (k := 28) rfl), ncX10, mhX10, (zpd (k := 21) rfl)⟩, (zpk zq21 (k := 29) rfl)⟩
def xX10_bitsOf : zX := (RX10, cX10_bitsOf, 3, zrm 1 0 0, (some .int), false)
theorem mX10_bitsOf : zCS yX10_bitsOf xX10_bitsOf 1 := ⟨⟨(zpk zq21 (k := 30) rfl), ncX10, mhX10, (zpd (k := 4) rfl)⟩, (zpk zq21 (k := 31) rfl)⟩
def xX10_init : zX := (RX10, cX10_init, 1, zrm 2 16 2940, none, true)
theorem mX10_init : zCI yX10_init xX10_init 0 := ⟨⟨(zpk zq21 (k := 32) rfl), ncX10, mhX10, (zpd (k := 8) rfl)⟩, (zpk zq21 (k := 33) rfl), rfl⟩
def xX10_spell : zX := (RX10, cX10_spell, 10, zrm 1 0 0, none, false)
theorem mX10_spell : zCV yX10_spell xX10_spell 9 := ⟨⟨(zpk zq21 (k := 34) rfl), ncX10, mhX10, (zpd (k := 35) rfl)⟩, (zpk zq21 (k := 35) rfl), (zpk zq21 (k := 36) rfl)⟩
def xX10_isThing : zX := (RX10, cX10_isThing, 2, zrm 2 0 0, (some .boolean), false)
theorem mX10_isThing : zCV yX10_isThing xX10_isThing 1 := ⟨⟨(zpk zq21 (k := 37) rfl), ncX10, mhX10, (zpd (k := 3) rfl)⟩, (zpk zq21 (k := 38) rfl), (zpk zq21 (k := 39) rfl)⟩
def xX10_isDay : zX := (RX10, cX10_isDay, 1, zrm 2 0 0, (some .boolean), false)
theorem mX10_isDay : zCS yX10_isDay xX10_isDay 1 := ⟨⟨(zpk zq22 (k := 0) rfl), ncX10, mhX10, (zpd (k := 3) rfl)⟩, (zpk zq22 (k := 1) rfl)⟩
def xX10_allThings : zX := (RX10, cX10_allThings, 1, zrm 1 0 0, (some .int), false)
theorem mX10_allThings : zCV yX10_allThings xX10_allThings 0 := ⟨⟨(zpk zq22 (k := 2) rfl), ncX10, mhX10, (zpd (k := 7) rfl)⟩, (zpk zq22 (k := 3) rfl), (zpk zq22 (k := 4) rfl)⟩
def xX10_set : zX := (RX10, cX10_set, 5, zrm 4 0 0, (some .int), false)
theorem mX10_set : zCV yX10_set xX10_set 3 := ⟨⟨(zpk zq22 (k := 5) rfl), ncX10, mhX10, (zpd (k := 21) rfl)⟩, (zpk zq22 (k := 6) rfl), (zpk zq22 (k := 7) rfl)⟩
def xX10_thing : zX := (RX10, cX10_thing, 4, zrm 2 0 0, (some .int), false)
theorem mX10_thing : zCV yX10_thing xX10_thing 3 := ⟨⟨(zpk zq22 (k := 8) rfl), ncX10, mhX10, (zpd (k := 21) rfl)⟩, (zpk zq22 (k := 9) rfl), (zpk zq22 (k := 10) rfl)⟩
def xX10_told : zX := (RX10, cX10_told, 3, zrm 3 0 0, (some .int), false)
theorem mX10_told : zCV yX10_told xX10_told 2 := ⟨⟨(zpk zq22 (k := 11) rfl), ncX10, mhX10, (zpd (k := 5) rfl)⟩, (zpk zq22 (k := 12) rfl), (zpk zq22 (k := 13) rfl)⟩
def xX10_isRound : zX := (RX10, cX10_isRound, 3, zrm 1 0 0, (some .boolean), false)
theorem mX10_isRound : zCV yX10_isRound xX10_isRound 2 := ⟨⟨(zpk zq22 (k := 14) rfl), ncX10, mhX10, (zpd (k := 12) rfl)⟩, (zpk zq22 (k := 15) rfl), (zpk zq22 (k := 16) rfl)⟩
def xX10_isHoliday : zX := (RX10, cX10_isHoliday, 2, zrm 1 0 0, (some .boolean), false)
theorem mX10_isHoliday : zCV yX10_isHoliday xX10_isHoliday 1 := ⟨⟨(zpk zq22 (k := 17) rfl), ncX10, mhX10, (zpd (k := 3) rfl)⟩, (zpk zq22 (k := 18) rfl), (zpk zq22 (k := 19) rfl)⟩
def xX10_lasts : zX := (RX10, cX10_lasts, 4, zrm 2 0 0, (some .boolean), false)
theorem mX10_lasts : zCV yX10_lasts xX10_lasts 2 := ⟨⟨(zpk zq22 (k := 20) rfl), ncX10, mhX10, (zpd (k := 12) rfl)⟩, (zpk zq22 (k := 21) rfl), (zpk zq22 (k := 22) rfl)⟩
def xX10_isPutOff : zX := (RX10, cX10_isPutOff, 5, zrm 2 0 0, (some .boolean), false)
theorem mX10_isPutOff : zCV yX10_isPutOff xX10_isPutOff 2 := ⟨⟨(zpk zq22 (k := 23) rfl), ncX10, mhX10, (zpd (k := 12) rfl)⟩, (zpk zq22 (k := 24) rfl), (zpk zq22 (k := 25) rfl)⟩
def xX10_comes : zX := (RX10, cX10_comes, 4, zrm 3 0 0, (some .boolean), false)
theorem mX10_comes : zCV yX10_comes xX10_comes 2 := ⟨⟨(zpk zq22 (k := 26) rfl), ncX10, mhX10, (zpd (k := 12) rfl)⟩, (zpk zq22 (k := 27) rfl), (zpk zq22 (k := 28) rfl)⟩
def xX10_feed : zX := (RX10, cX10_feed, 2, zrm 2 0 0, (some .int), false)
theorem mX10_feed : zCV yX10_feed xX10_feed 1 := ⟨⟨(zpk zq22 (k := 29) rfl), ncX10, mhX10, (zpd (k := 4) rfl)⟩, (zpk zq22 (k := 30) rfl), (zpk zq22 (k := 31) rfl)⟩
def xX10_byteAt : zX := (RX10, cX10_byteAt, 2, zrm 1 0 0, (some .int), false)
theorem mX10_byteAt : zCV yX10_byteAt xX10_byteAt 1 := ⟨⟨(zpk zq22 (k := 32) rfl), ncX10, mhX10, (zpd (k := 4) rfl)⟩, (zpk zq22 (k := 33) rfl), (zpk zq22 (k := 34) rfl)⟩
def xX10_next : zX := (RX10, cX10_next, 3, zrm 2 0 0, none, false)
theorem mX10_next : zCV yX10_next xX10_next 0 := ⟨⟨(zpk zq22 (k := 35) rfl), ncX10, mhX10, (zpd (k := 8) rfl)⟩, (zpk zq22 (k := 36) rfl), (zpk zq22 (k := 37) rfl)⟩
def xX10_fail : zX := (RX10, cX10_fail, 1, zrm 1 0 0, none, false)
theorem mX10_fail : zCV yX10_fail xX10_fail 0 := ⟨⟨(zpk zq22 (k := 38) rfl), ncX10, mhX10, (zpd (k := 8) rfl)⟩, (zpk zq22 (k := 39) rfl), (zpk zq23 (k := 0) rfl)⟩
def xX10_isLetter : zX := (RX10, cX10_isLetter, 3, zrm 2 0 0, (some .boolean), false)
theorem mX10_isLetter : zCV yX10_isLetter xX10_isLetter 2 := ⟨⟨(zpk zq23 (k := 1) rfl), ncX10, mhX10, (zpd (k := 12) rfl)⟩, (zpk zq23 (k := 2) rfl), (zpk zq23 (k := 3) rfl)⟩
def xX10_isWord : zX := (RX10, cX10_isWord, 9, zrm 3 0 0, (some .boolean), false)
theorem mX10_isWord : zCV yX10_isWord xX10_isWord 8 := ⟨⟨(zpk zq23 (k := 4) rfl), ncX10, mhX10, (zpd (k := 36) rfl)⟩, (zpk zq23 (k := 5) rfl), (zpk zq23 (k := 6) rfl)⟩
def xX10_isSign : zX := (RX10, cX10_isSign, 2, zrm 1 0 0, (some .boolean), false)
theorem mX10_isSign : zCV yX10_isSign xX10_isSign 1 := ⟨⟨(zpk zq23 (k := 7) rfl), ncX10, mhX10, (zpd (k := 3) rfl)⟩, (zpk zq23 (k := 8) rfl), (zpk zq23 (k := 9) rfl)⟩
def xX10_opens : zX := (RX10, cX10_opens, 1, zrm 3 0 0, (some .boolean), false)
theorem mX10_opens : zCV yX10_opens xX10_opens 0 := ⟨⟨(zpk zq23 (k := 10) rfl), ncX10, mhX10, (zpd (k := 24) rfl)⟩, (zpk zq23 (k := 11) rfl), (zpk zq23 (k := 12) rfl)⟩
def xX10_name : zX := (RX10, cX10_name, 1, zrm 4 0 0, (some .int), false)
theorem mX10_name : zCV yX10_name xX10_name 0 := ⟨⟨(zpk zq23 (k := 13) rfl), ncX10, mhX10, (zpd (k := 7) rfl)⟩, (zpk zq23 (k := 14) rfl), (zpk zq23 (k := 15) rfl)⟩
def xX10_atom5 : zX := (RX10, cX10_atom5, 2, zrm 5 0 0, (some .int), false)
theorem mX10_atom5 : zCV yX10_atom5 xX10_atom5 0 := ⟨⟨(zpk zq23 (k := 16) rfl), ncX10, mhX10, (zpd (k := 7) rfl)⟩, (zpk zq23 (k := 17) rfl), (zpk zq23 (k := 18) rfl)⟩
def xX10_term5 : zX := (RX10, cX10_term5, 2, zrm 6 0 0, (some .int), false)
theorem mX10_term5 : zCV yX10_term5 xX10_term5 0 := ⟨⟨(zpk zq23 (k := 19) rfl), ncX10, mhX10, (zpd (k := 7) rfl)⟩, (zpk zq23 (k := 20) rfl), (zpk zq23 (k := 21) rfl)⟩
def xX10_added5 : zX := (RX10, cX10_added5, 4, zrm 7 0 0, (some .int), false)
theorem mX10_added5 : zCV yX10_added5 xX10_added5 0 := ⟨⟨(zpk zq23 (k := 22) rfl), ncX10, mhX10, (zpd (k := 7) rfl)⟩, (zpk zq23 (k := 23) rfl), (zpk zq23 (k := 24) rfl)⟩
def xX10_not5 : zX := (RX10, cX10_not5, 4, zrm 8 0 0, (some .int), false)
theorem mX10_not5 : zCV yX10_not5 xX10_not5 0 := ⟨⟨(zpk zq23 (k := 25) rfl), ncX10, mhX10, (zpd (k := 7) rfl)⟩, (zpk zq23 (k := 26) rfl), (zpk zq23 (k := 27) rfl)⟩
def xX10_both5 : zX := (RX10, cX10_both5, 3, zrm 9 0 0, (some .int), false)
theorem mX10_both5 : zCV yX10_both5 xX10_both5 0 := ⟨⟨(zpk zq23 (k := 28) rfl), ncX10, mhX10, (zpd (k := 7) rfl)⟩, (zpk zq23 (k := 29) rfl), (zpk zq23 (k := 30) rfl)⟩
def xX10_either5 : zX := (RX10, cX10_either5, 3, zrm 10 0 0, (some .int), false)
theorem mX10_either5 : zCV yX10_either5 xX10_either5 0 := ⟨⟨(zpk zq23 (k := 31) rfl), ncX10, mhX10, (zpd (k := 7) rfl)⟩, (zpk zq23 (k := 32) rfl), (zpk zq23 (k := 33) rfl)⟩
def xX10_atom4 : zX := (RX10, cX10_atom4, 2, zrm 11 0 0, (some .int), false)
theorem mX10_atom4 : zCV yX10_atom4 xX10_atom4 0 := ⟨⟨(zpk zq23 (k := 34) rfl), ncX10, mhX10, (zpd (k := 7) rfl)⟩, (zpk zq23 (k := 35) rfl), (zpk zq23 (k := 36) rfl)⟩
def xX10_term4 : zX := (RX10, cX10_term4, 2, zrm 12 0 0, (some .int), false)
theorem mX10_term4 : zCV yX10_term4 xX10_term4 0 := ⟨⟨(zpk zq23 (k := 37) rfl), ncX10, mhX10, (zpd (k := 7) rfl)⟩, (zpk zq23 (k := 38) rfl), (zpk zq23 (k := 39) rfl)⟩
def xX10_added4 : zX := (RX10, cX10_added4, 4, zrm 13 0 0, (some .int), false)
theorem mX10_added4 : zCV yX10_added4 xX10_added4 0 := ⟨⟨(zpk zq24 (k := 0) rfl), ncX10, mhX10, (zpd (k := 7) rfl)⟩, (zpk zq24 (k := 1) rfl), (zpk zq24 (k := 2) rfl)⟩
def xX10_not4 : zX := (RX10, cX10_not4, 4, zrm 14 0 0, (some .int), false)
theorem mX10_not4 : zCV yX10_not4 xX10_not4 0 := ⟨⟨(zpk zq24 (k := 3) rfl), ncX10, mhX10, (zpd (k := 7) rfl)⟩, (zpk zq24 (k := 4) rfl), (zpk zq24 (k := 5) rfl)⟩
def xX10_both4 : zX := (RX10, cX10_both4, 3, zrm 15 0 0, (some .int), false)
theorem mX10_both4 : zCV yX10_both4 xX10_both4 0 := ⟨⟨(zpk zq24 (k := 6) rfl), ncX10, mhX10, (zpd (k := 7) rfl)⟩, (zpk zq24 (k := 7) rfl), (zpk zq24 (k := 8) rfl)⟩
def xX10_either4 : zX := (RX10, cX10_either4, 3, zrm 16 0 0, (some .int), false)
theorem mX10_either4 : zCV yX10_either4 xX10_either4 0 := ⟨⟨(zpk zq24 (k := 9) rfl), ncX10, mhX10, (zpd (k := 7) rfl)⟩, (zpk zq24 (k := 10) rfl), (zpk zq24 (k := 11) rfl)⟩
def xX10_atom3 : zX := (RX10, cX10_atom3, 2, zrm 17 0 0, (some .int), false)
theorem mX10_atom3 : zCV yX10_atom3 xX10_atom3 0 := ⟨⟨(zpk zq24 (k := 12) rfl), ncX10, mhX10, (zpd (k := 7) rfl)⟩, (zpk zq24 (k := 13) rfl), (zpk zq24 (k := 14) rfl)⟩
def xX10_term3 : zX := (RX10, cX10_term3, 2, zrm 18 0 0, (some .int), false)
theorem mX10_term3 : zCV yX10_term3 xX10_term3 0 := ⟨⟨(zpk zq24 (k := 15) rfl), ncX10, mhX10, (zpd (k := 7) rfl)⟩, (zpk zq24 (k := 16) rfl), (zpk zq24 (k := 17) rfl)⟩
def xX10_added3 : zX := (RX10, cX10_added3, 4, zrm 19 0 0, (some .int), false)
theorem mX10_added3 : zCV yX10_added3 xX10_added3 0 := ⟨⟨(zpk zq24 (k := 18) rfl), ncX10, mhX10, (zpd (k := 7) rfl)⟩, (zpk zq24 (k := 19) rfl), (zpk zq24 (k := 20) rfl)⟩
def xX10_not3 : zX := (RX10, cX10_not3, 4, zrm 20 0 0, (some .int), false)
theorem mX10_not3 : zCV yX10_not3 xX10_not3 0 := ⟨⟨(zpk zq24 (k := 21) rfl), ncX10, mhX10, (zpd (k := 7) rfl)⟩, (zpk zq24 (k := 22) rfl), (zpk zq24 (k := 23) rfl)⟩
def xX10_both3 : zX := (RX10, cX10_both3, 3, zrm 21 0 0, (some .int), false)
theorem mX10_both3 : zCV yX10_both3 xX10_both3 0 := ⟨⟨(zpk zq24 (k := 24) rfl), ncX10, mhX10, (zpd (k := 7) rfl)⟩, (zpk zq24 (k := 25) rfl), (zpk zq24 (k := 26) rfl)⟩
def xX10_either3 : zX := (RX10, cX10_either3, 3, zrm 22 0 0, (some .int), false)
theorem mX10_either3 : zCV yX10_either3 xX10_either3 0 := ⟨⟨(zpk zq24 (k := 27) rfl), ncX10, mhX10, (zpd (k := 7) rfl)⟩, (zpk zq24 (k := 28) rfl), (zpk zq24 (k := 29) rfl)⟩
def xX10_atom2 : zX := (RX10, cX10_atom2, 2, zrm 23 0 0, (some .int), false)
theorem mX10_atom2 : zCV yX10_atom2 xX10_atom2 0 := ⟨⟨(zpk zq24 (k := 30) rfl), ncX10, mhX10, (zpd (k := 7) rfl)⟩, (zpk zq24 (k := 31) rfl), (zpk zq24 (k := 32) rfl)⟩
def xX10_term2 : zX := (RX10, cX10_term2, 2, zrm 24 0 0, (some .int), false)
theorem mX10_term2 : zCV yX10_term2 xX10_term2 0 := ⟨⟨(zpk zq24 (k := 33) rfl), ncX10, mhX10, (zpd (k := 7) rfl)⟩, (zpk zq24 (k := 34) rfl), (zpk zq24 (k := 35) rfl)⟩
def xX10_added2 : zX := (RX10, cX10_added2, 4, zrm 25 0 0, (some .int), false)
theorem mX10_added2 : zCV yX10_added2 xX10_added2 0 := ⟨⟨(zpk zq24 (k := 36) rfl), ncX10, mhX10, (zpd (k := 7) rfl)⟩, (zpk zq24 (k := 37) rfl), (zpk zq24 (k := 38) rfl)⟩
def xX10_not2 : zX := (RX10, cX10_not2, 4, zrm 26 0 0, (some .int), false)
theorem mX10_not2 : zCV yX10_not2 xX10_not2 0 := ⟨⟨(zpk zq24 (k := 39) rfl), ncX10, mhX10, (zpd (k := 7) rfl)⟩, (zpk zq25 (k := 0) rfl), (zpk zq25 (k := 1) rfl)⟩
def xX10_both2 : zX := (RX10, cX10_both2, 3, zrm 27 0 0, (some .int), false)
theorem mX10_both2 : zCV yX10_both2 xX10_both2 0 := ⟨⟨(zpk zq25 (k := 2) rfl), ncX10, mhX10, (zpd (k := 7) rfl)⟩, (zpk zq25 (k := 3) rfl), (zpk zq25 (k := 4) rfl)⟩
def xX10_either2 : zX := (RX10, cX10_either2, 3, zrm 28 0 0, (some .int), false)
theorem mX10_either2 : zCV yX10_either2 xX10_either2 0 := ⟨⟨(zpk zq25 (k := 5) rfl), ncX10, mhX10, (zpd (k := 7) rfl)⟩, (zpk zq25 (k := 6) rfl), (zpk zq25 (k := 7) rfl)⟩
def xX10_atom1 : zX := (RX10, cX10_atom1, 2, zrm 29 0 0, (some .int), false)
theorem mX10_atom1 : zCV yX10_atom1 xX10_atom1 0 := ⟨⟨(zpk zq25 (k := 8) rfl), ncX10, mhX10, (zpd (k := 7) rfl)⟩, (zpk zq25 (k := 9) rfl), (zpk zq25 (k := 10) rfl)⟩
def xX10_term1 : zX := (RX10, cX10_term1, 2, zrm 30 0 0, (some .int), false)
theorem mX10_term1 : zCV yX10_term1 xX10_term1 0 := ⟨⟨(zpk zq25 (k := 11) rfl), ncX10, mhX10, (zpd (k := 7) rfl)⟩, (zpk zq25 (k := 12) rfl), (zpk zq25 (k := 13) rfl)⟩
def xX10_added1 : zX := (RX10, cX10_added1, 4, zrm 31 0 0, (some .int), false)
theorem mX10_added1 : zCV yX10_added1 xX10_added1 0 := ⟨⟨(zpk zq25 (k := 14) rfl), ncX10, mhX10, (zpd (k := 7) rfl)⟩, (zpk zq25 (k := 15) rfl), (zpk zq25 (k := 16) rfl)⟩
def xX10_not1 : zX := (RX10, cX10_not1, 4, zrm 32 0 0, (some .int), false)
theorem mX10_not1 : zCV yX10_not1 xX10_not1 0 := ⟨⟨(zpk zq25 (k := 17) rfl), ncX10, mhX10, (zpd (k := 7) rfl)⟩, (zpk zq25 (k := 18) rfl), (zpk zq25 (k := 19) rfl)⟩
def xX10_both1 : zX := (RX10, cX10_both1, 3, zrm 33 0 0, (some .int), false)
theorem mX10_both1 : zCV yX10_both1 xX10_both1 0 := ⟨⟨(zpk zq25 (k := 20) rfl), ncX10, mhX10, (zpd (k := 7) rfl)⟩, (zpk zq25 (k := 21) rfl), (zpk zq25 (k := 22) rfl)⟩
def xX10_either1 : zX := (RX10, cX10_either1, 3, zrm 34 0 0, (some .int), false)
theorem mX10_either1 : zCV yX10_either1 xX10_either1 0 := ⟨⟨(zpk zq25 (k := 23) rfl), ncX10, mhX10, (zpd (k := 7) rfl)⟩, (zpk zq25 (k := 24) rfl), (zpk zq25 (k := 25) rfl)⟩
def xX10_atom0 : zX := (RX10, cX10_atom0, 2, zrm 35 0 0, (some .int), false)
theorem mX10_atom0 : zCV yX10_atom0 xX10_atom0 0 := ⟨⟨(zpk zq25 (k := 26) rfl), ncX10, mhX10, (zpd (k := 7) rfl)⟩, (zpk zq25 (k := 27) rfl), (zpk zq25 (k := 28) rfl)⟩
def xX10_term0 : zX := (RX10, cX10_term0, 2, zrm 36 0 0, (some .int), false)
theorem mX10_term0 : zCV yX10_term0 xX10_term0 0 := ⟨⟨(zpk zq25 (k := 29) rfl), ncX10, mhX10, (zpd (k := 7) rfl)⟩, (zpk zq25 (k := 30) rfl), (zpk zq25 (k := 31) rfl)⟩
def xX10_added0 : zX := (RX10, cX10_added0, 4, zrm 37 0 0, (some .int), false)
theorem mX10_added0 : zCV yX10_added0 xX10_added0 0 := ⟨⟨(zpk zq25 (k := 32) rfl), ncX10, mhX10, (zpd (k := 7) rfl)⟩, (zpk zq25 (k := 33) rfl), (zpk zq25 (k := 34) rfl)⟩
def xX10_not0 : zX := (RX10, cX10_not0, 4, zrm 38 0 0, (some .int), false)
theorem mX10_not0 : zCV yX10_not0 xX10_not0 0 := ⟨⟨(zpk zq25 (k := 35) rfl), ncX10, mhX10, (zpd (k := 7) rfl)⟩, (zpk zq25 (k := 36) rfl), (zpk zq25 (k := 37) rfl)⟩
def xX10_both0 : zX := (RX10, cX10_both0, 3, zrm 39 0 0, (some .int), false)
theorem mX10_both0 : zCV yX10_both0 xX10_both0 0 := ⟨⟨(zpk zq25 (k := 38) rfl), ncX10, mhX10, (zpd (k := 7) rfl)⟩, (zpk zq25 (k := 39) rfl), (zpk zq26 (k := 0) rfl)⟩
def xX10_either0 : zX := (RX10, cX10_either0, 3, zrm 40 0 0, (some .int), false)
theorem mX10_either0 : zCV yX10_either0 xX10_either0 0 := ⟨⟨(zpk zq26 (k := 1) rfl), ncX10, mhX10, (zpd (k := 7) rfl)⟩, (zpk zq26 (k := 2) rfl), (zpk zq26 (k := 3) rfl)⟩
def xX10_part : zX := (RX10, cX10_part, 3, zrm 41 0 0, (some .int), false)
theorem mX10_part : zCV yX10_part xX10_part 1 := ⟨⟨(zpk zq26 (k := 4) rfl), ncX10, mhX10, (zpd (k := 37) rfl)⟩, (zpk zq26 (k := 5) rfl), (zpk zq26 (k := 6) rfl)⟩
def xX10_read : zX := (RX10, cX10_read, 6, zrm 42 0 0, (some .int), false)
theorem mX10_read : zCV yX10_read xX10_read 2 := ⟨⟨(zpk zq26 (k := 7) rfl), ncX10, mhX10, (zpd (k := 5) rfl)⟩, (zpk zq26 (k := 8) rfl), (zpk zq26 (k := 9) rfl)⟩
def xX10_text : zX := (RX10, cX10_text, 2, zrm 43 0 0, (some .int), false)
theorem mX10_text : zCV yX10_text xX10_text 0 := ⟨⟨(zpk zq26 (k := 10) rfl), ncX10, mhX10, (zpd (k := 7) rfl)⟩, (zpk zq26 (k := 11) rfl), (zpk zq26 (k := 12) rfl)⟩
def xX10_force : zX := (RX10, cX10_force, 3, zrm 2 0 0, (some .int), false)
theorem mX10_force : zCV yX10_force xX10_force 1 := ⟨⟨(zpk zq26 (k := 13) rfl), ncX10, mhX10, (zpd (k := 4) rfl)⟩, (zpk zq26 (k := 14) rfl), (zpk zq26 (k := 15) rfl)⟩
def xX10_says : zX := (RX10, cX10_says, 6, zrm 43 0 0, (some .int), false)
theorem mX10_says : zCV yX10_says xX10_says 5 := ⟨⟨(zpk zq26 (k := 16) rfl), ncX10, mhX10, (zpd (k := 31) rfl)⟩, (zpk zq26 (k := 17) rfl), (zpk zq26 (k := 18) rfl)⟩
def xX10_spendsOf : zX := (RX10, cX10_spendsOf, 6, zrm 1 0 0, (some .int), false)
theorem mX10_spendsOf : zCV yX10_spendsOf xX10_spendsOf 2 := ⟨⟨(zpk zq26 (k := 19) rfl), ncX10, mhX10, (zpd (k := 5) rfl)⟩, (zpk zq26 (k := 20) rfl), (zpk zq26 (k := 21) rfl)⟩
def xX10_lives : zX := (RX10, cX10_lives, 5, zrm 4 0 0, none, false)
theorem mX10_lives : zCV yX10_lives xX10_lives 0 := ⟨⟨(zpk zq26 (k := 22) rfl), ncX10, mhX10, (zpd (k := 8) rfl)⟩, (zpk zq26 (k := 23) rfl), (zpk zq26 (k := 24) rfl)⟩
def xX10_costOf : zX := (RX10, cX10_costOf, 6, zrm 44 0 0, (some .int), false)
theorem mX10_costOf : zCV yX10_costOf xX10_costOf 1 := ⟨⟨(zpk zq26 (k := 25) rfl), ncX10, mhX10, (zpd (k := 4) rfl)⟩, (zpk zq26 (k := 26) rfl), (zpk zq26 (k := 27) rfl)⟩
def xX10_spends : zX := (RX10, cX10_spends, 3, zrm 45 0 0, (some .int), false)
theorem mX10_spends : zCV yX10_spends xX10_spends 0 := ⟨⟨(zpk zq26 (k := 28) rfl), ncX10, mhX10, (zpd (k := 7) rfl)⟩, (zpk zq26 (k := 29) rfl), (zpk zq26 (k := 30) rfl)⟩
def xX10_day : zX := (RX10, cX10_day, 3, zrm 45 0 0, (some .int), false)
theorem mX10_day : zCV yX10_day xX10_day 2 := ⟨⟨(zpk zq26 (k := 31) rfl), ncX10, mhX10, (zpd (k := 5) rfl)⟩, (zpk zq26 (k := 32) rfl), (zpk zq26 (k := 33) rfl)⟩
def xX10_when : zX := (RX10, cX10_when, 4, zrm 4 0 0, (some .int), false)
theorem mX10_when : zCV yX10_when xX10_when 2 := ⟨⟨(zpk zq26 (k := 34) rfl), ncX10, mhX10, (zpd (k := 5) rfl)⟩, (zpk zq26 (k := 35) rfl), (zpk zq26 (k := 36) rfl)⟩
def xX10_often : zX := (RX10, cX10_often, 5, zrm 4 0 0, (some .int), false)
theorem mX10_often : zCV yX10_often xX10_often 2 := ⟨⟨(zpk zq26 (k := 37) rfl), ncX10, mhX10, (zpd (k := 5) rfl)⟩, (zpk zq26 (k := 38) rfl), (zpk zq26 (k := 39) rfl)⟩
def xX10_daysOf : zX := (RX10, cX10_daysOf, 4, zrm 2 0 0, (some .int), false)
theorem mX10_daysOf : zCV yX10_daysOf xX10_daysOf 1 := ⟨⟨(zpk zq27 (k := 0) rfl), ncX10, mhX10, (zpd (k := 4) rfl)⟩, (zpk zq27 (k := 1) rfl), (zpk zq27 (k := 2) rfl)⟩
def xX10_longestRest : zX := (RX10, cX10_longestRest, 4, zrm 1 0 0, (some .int), false)
theorem mX10_longestRest : zCV yX10_longestRest xX10_longestRest 0 := ⟨⟨(zpk zq27 (k := 3) rfl), ncX10, mhX10, (zpd (k := 7) rfl)⟩, (zpk zq27 (k := 4) rfl), (zpk zq27 (k := 5) rfl)⟩
def xX10_inWeek : zX := (RX10, cX10_inWeek, 4, zrm 2 0 0, (some .int), false)
theorem mX10_inWeek : zCV yX10_inWeek xX10_inWeek 1 := ⟨⟨(zpk zq27 (k := 6) rfl), ncX10, mhX10, (zpd (k := 4) rfl)⟩, (zpk zq27 (k := 7) rfl), (zpk zq27 (k := 8) rfl)⟩
def xX10_year : zX := (RX10, cX10_year, 5, zrm 46 0 0, (some .int), false)
theorem mX10_year : zCV yX10_year xX10_year 1 := ⟨⟨(zpk zq27 (k := 9) rfl), ncX10, mhX10, (zpd (k := 4) rfl)⟩, (zpk zq27 (k := 10) rfl), (zpk zq27 (k := 11) rfl)⟩
def xX10_meets : zX := (RX10, cX10_meets, 6, zrm 2 0 0, (some .boolean), false)
theorem mX10_meets : zCV yX10_meets xX10_meets 1 := ⟨⟨(zpk zq27 (k := 12) rfl), ncX10, mhX10, (zpd (k := 3) rfl)⟩, (zpk zq27 (k := 13) rfl), (zpk zq27 (k := 14) rfl)⟩
def xX10_common : zX := (RX10, cX10_common, 10, zrm 1 0 0, (some .long), false)
theorem mX10_common : zCS yX10_common xX10_common 2 := ⟨⟨(zpk zq27 (k := 15) rfl), ncX10, mhX10, (zpd (k := 32) rfl)⟩, (zpk zq27 (k := 16) rfl)⟩
def xX10_meet : zX := (RX10, cX10_meet, 2, zrm 3 0 0, (some .long), false)
theorem mX10_meet : zCV yX10_meet xX10_meet 1 := ⟨⟨(zpk zq27 (k := 17) rfl), ncX10, mhX10, (zpd (k := 28) rfl)⟩, (zpk zq27 (k := 18) rfl), (zpk zq27 (k := 19) rfl)⟩
def xX10_every : zX := (RX10, cX10_every, 2, zrm 3 0 0, (some .long), false)
theorem mX10_every : zCV yX10_every xX10_every 1 := ⟨⟨(zpk zq27 (k := 20) rfl), ncX10, mhX10, (zpd (k := 28) rfl)⟩, (zpk zq27 (k := 21) rfl), (zpk zq27 (k := 22) rfl)⟩
def xX10_why : zX := (RX10, cX10_why, 5, zrm 3 0 0, (some .int), false)
theorem mX10_why : zCV yX10_why xX10_why 1 := ⟨⟨(zpk zq27 (k := 23) rfl), ncX10, mhX10, (zpd (k := 4) rfl)⟩, (zpk zq27 (k := 24) rfl), (zpk zq27 (k := 25) rfl)⟩
def xX10_full : zX := (RX10, cX10_full, 9, zrm 2 0 0, (some .long), false)
theorem mX10_full : zCV yX10_full xX10_full 1 := ⟨⟨(zpk zq27 (k := 26) rfl), ncX10, mhX10, (zpd (k := 28) rfl)⟩, (zpk zq27 (k := 27) rfl), (zpk zq27 (k := 28) rfl)⟩
def xX10_meetsNone : zX := (RX10, cX10_meetsNone, 4, zrm 4 0 0, (some .boolean), false)
theorem mX10_meetsNone : zCV yX10_meetsNone xX10_meetsNone 1 := ⟨⟨(zpk zq27 (k := 29) rfl), ncX10, mhX10, (zpd (k := 3) rfl)⟩, (zpk zq27 (k := 30) rfl), (zpk zq27 (k := 31) rfl)⟩
def xX10_shift : zX := (RX10, cX10_shift, 5, zrm 5 0 0, (some .int), false)
theorem mX10_shift : zCV yX10_shift xX10_shift 1 := ⟨⟨(zpk zq27 (k := 32) rfl), ncX10, mhX10, (zpd (k := 4) rfl)⟩, (zpk zq27 (k := 33) rfl), (zpk zq27 (k := 34) rfl)⟩
def xX10_join : zX := (RX10, cX10_join, 6, zrm 3 0 0, (some .int), false)
theorem mX10_join : zCV yX10_join xX10_join 2 := ⟨⟨(zpk zq27 (k := 35) rfl), ncX10, mhX10, (zpd (k := 5) rfl)⟩, (zpk zq27 (k := 36) rfl), (zpk zq27 (k := 37) rfl)⟩
def xX10_goodShift : zX := (RX10, cX10_goodShift, 8, zrm 46 0 0, (some .int), false)
theorem mX10_goodShift : zCV yX10_goodShift xX10_goodShift 2 := ⟨⟨(zpk zq27 (k := 38) rfl), ncX10, mhX10, (zpd (k := 5) rfl)⟩, (zpk zq27 (k := 39) rfl), (zpk zq28 (k := 0) rfl)⟩
def xX10_diaryBad : zX := (RX10, cX10_diaryBad, 5, zrm 3 0 0, (some .int), false)
theorem mX10_diaryBad : zCV yX10_diaryBad xX10_diaryBad 1 := ⟨⟨(zpk zq28 (k := 1) rfl), ncX10, mhX10, (zpd (k := 4) rfl)⟩, (zpk zq28 (k := 2) rfl), (zpk zq28 (k := 3) rfl)⟩
def xX10_isTold : zX := (RX10, cX10_isTold, 4, zrm 1 0 0, (some .boolean), false)
theorem mX10_isTold : zCV yX10_isTold xX10_isTold 2 := ⟨⟨(zpk zq28 (k := 4) rfl), ncX10, mhX10, (zpd (k := 12) rfl)⟩, (zpk zq28 (k := 5) rfl), (zpk zq28 (k := 6) rfl)⟩
def xX10_lastOf : zX := (RX10, cX10_lastOf, 2, zrm 1 0 0, (some .int), false)
theorem mX10_lastOf : zCV yX10_lastOf xX10_lastOf 1 := ⟨⟨(zpk zq28 (k := 7) rfl), ncX10, mhX10, (zpd (k := 4) rfl)⟩, (zpk zq28 (k := 8) rfl), (zpk zq28 (k := 9) rfl)⟩
def xX10_comesSo : zX := (RX10, cX10_comesSo, 4, zrm 4 0 0, (some .boolean), false)
theorem mX10_comesSo : zCV yX10_comesSo xX10_comesSo 2 := ⟨⟨(zpk zq28 (k := 10) rfl), ncX10, mhX10, (zpd (k := 12) rfl)⟩, (zpk zq28 (k := 11) rfl), (zpk zq28 (k := 12) rfl)⟩
def xX10_diary : zX := (RX10, cX10_diary, 7, zrm 5 0 0, (some .int), false)
theorem mX10_diary : zCV yX10_diary xX10_diary 3 := ⟨⟨(zpk zq28 (k := 13) rfl), ncX10, mhX10, (zpd (k := 21) rfl)⟩, (zpk zq28 (k := 14) rfl), (zpk zq28 (k := 15) rfl)⟩
def xX10_periodsOf : zX := (RX10, cX10_periodsOf, 7, zrm 1 0 0, (some .long), false)
theorem mX10_periodsOf : zCV yX10_periodsOf xX10_periodsOf 1 := ⟨⟨(zpk zq28 (k := 16) rfl), ncX10, mhX10, (zpd (k := 28) rfl)⟩, (zpk zq28 (k := 17) rfl), (zpk zq28 (k := 18) rfl)⟩
def xX10_marks : zX := (RX10, cX10_marks, 6, zrm 2 0 0, (some .boolean), false)
theorem mX10_marks : zCV yX10_marks xX10_marks 3 := ⟨⟨(zpk zq28 (k := 19) rfl), ncX10, mhX10, (zpd (k := 13) rfl)⟩, (zpk zq28 (k := 20) rfl), (zpk zq28 (k := 21) rfl)⟩
def xX10_firstLeft : zX := (RX10, cX10_firstLeft, 3, zrm 1 0 0, (some .int), false)
theorem mX10_firstLeft : zCV yX10_firstLeft xX10_firstLeft 1 := ⟨⟨(zpk zq28 (k := 22) rfl), ncX10, mhX10, (zpd (k := 4) rfl)⟩, (zpk zq28 (k := 23) rfl), (zpk zq28 (k := 24) rfl)⟩
def xX10_marksFirst : zX := (RX10, cX10_marksFirst, 4, zrm 3 0 0, (some .boolean), false)
theorem mX10_marksFirst : zCV yX10_marksFirst xX10_marksFirst 2 := ⟨⟨(zpk zq28 (k := 25) rfl), ncX10, mhX10, (zpd (k := 12) rfl)⟩, (zpk zq28 (k := 26) rfl), (zpk zq28 (k := 27) rfl)⟩
def xX10_twoOf : zX := (RX10, cX10_twoOf, 7, zrm 4 0 0, (some .long), false)
theorem mX10_twoOf : zCV yX10_twoOf xX10_twoOf 1 := ⟨⟨(zpk zq28 (k := 28) rfl), ncX10, mhX10, (zpd (k := 28) rfl)⟩, (zpk zq28 (k := 29) rfl), (zpk zq28 (k := 30) rfl)⟩
def xX10_rounds : zX := (RX10, cX10_rounds, 3, zrm 5 0 0, (some .long), false)
theorem mX10_rounds : zCV yX10_rounds xX10_rounds 2 := ⟨⟨(zpk zq28 (k := 31) rfl), ncX10, mhX10, (zpd (k := 29) rfl)⟩, (zpk zq28 (k := 32) rfl), (zpk zq28 (k := 33) rfl)⟩
def xX10_film : zX := (RX10, cX10_film, 8, zrm 5 0 0, (some .int), false)
theorem mX10_film : zCV yX10_film xX10_film 3 := ⟨⟨(zpk zq28 (k := 34) rfl), ncX10, mhX10, (zpd (k := 21) rfl)⟩, (zpk zq28 (k := 35) rfl), (zpk zq28 (k := 36) rfl)⟩
def xX10_draws : zX := (RX10, cX10_draws, 4, zrm 46 0 0, (some .int), false)
theorem mX10_draws : zCV yX10_draws xX10_draws 1 := ⟨⟨(zpk zq28 (k := 37) rfl), ncX10, mhX10, (zpd (k := 4) rfl)⟩, (zpk zq28 (k := 38) rfl), (zpk zq28 (k := 39) rfl)⟩
def xX10_drawn : zX := (RX10, cX10_drawn, 2, zrm 47 0 0, (some .int), false)
theorem mX10_drawn : zCV yX10_drawn xX10_drawn 1 := ⟨⟨(zpk zq29 (k := 0) rfl), ncX10, mhX10, (zpd (k := 4) rfl)⟩, (zpk zq29 (k := 1) rfl), (zpk zq29 (k := 2) rfl)⟩
def xX10_chance : zX := (RX10, cX10_chance, 8, zrm 47 0 0, (some .long), false)
theorem mX10_chance : zCV yX10_chance xX10_chance 3 := ⟨⟨(zpk zq29 (k := 3) rfl), ncX10, mhX10, (zpd (k := 30) rfl)⟩, (zpk zq29 (k := 4) rfl), (zpk zq29 (k := 5) rfl)⟩
def xX10_image : zX := (RX10, cX10_image, 2, zrm 1 0 0, (some .int), false)
theorem mX10_image : zCV yX10_image xX10_image 0 := ⟨⟨(zpk zq29 (k := 6) rfl), ncX10, mhX10, (zpd (k := 7) rfl)⟩, (zpk zq29 (k := 7) rfl), (zpk zq29 (k := 8) rfl)⟩
def xX10_back : zX := (RX10, cX10_back, 2, zrm 1 0 0, (some .int), false)
theorem mX10_back : zCV yX10_back xX10_back 0 := ⟨⟨(zpk zq29 (k := 9) rfl), ncX10, mhX10, (zpd (k := 7) rfl)⟩, (zpk zq29 (k := 10) rfl), (zpk zq29 (k := 11) rfl)⟩
def xX10_count : zX := (RX10, cX10_count, 2, zrm 2 0 0, (some .int), false)
theorem mX10_count : zCV yX10_count xX10_count 1 := ⟨⟨(zpk zq29 (k := 12) rfl), ncX10, mhX10, (zpd (k := 4) rfl)⟩, (zpk zq29 (k := 13) rfl), (zpk zq29 (k := 14) rfl)⟩
def xX10_isSheet : zX := (RX10, cX10_isSheet, 1, zrm 2 0 0, (some .boolean), false)
theorem mX10_isSheet : zCS yX10_isSheet xX10_isSheet 1 := ⟨⟨(zpk zq29 (k := 15) rfl), ncX10, mhX10, (zpd (k := 3) rfl)⟩, (zpk zq29 (k := 16) rfl)⟩
def xX10_sheet : zX := (RX10, cX10_sheet, 5, zrm 3 0 0, (some .int), false)
theorem mX10_sheet : zCV yX10_sheet xX10_sheet 3 := ⟨⟨(zpk zq29 (k := 17) rfl), ncX10, mhX10, (zpd (k := 21) rfl)⟩, (zpk zq29 (k := 18) rfl), (zpk zq29 (k := 19) rfl)⟩
def xX10_cell : zX := (RX10, cX10_cell, 4, zrm 3 0 0, (some .int), false)
theorem mX10_cell : zCV yX10_cell xX10_cell 3 := ⟨⟨(zpk zq29 (k := 20) rfl), ncX10, mhX10, (zpd (k := 21) rfl)⟩, (zpk zq29 (k := 21) rfl), (zpk zq29 (k := 22) rfl)⟩
def xX10_copy : zX := (RX10, cX10_copy, 9, zrm 3 0 0, (some .int), false)
theorem mX10_copy : zCV yX10_copy xX10_copy 5 := ⟨⟨(zpk zq29 (k := 23) rfl), ncX10, mhX10, (zpd (k := 31) rfl)⟩, (zpk zq29 (k := 24) rfl), (zpk zq29 (k := 25) rfl)⟩
def xX10_things : zX := (RX10, cX10_things, 8, zrm 3 0 0, (some .int), false)
theorem mX10_things : zCV yX10_things xX10_things 4 := ⟨⟨(zpk zq29 (k := 26) rfl), ncX10, mhX10, (zpd (k := 22) rfl)⟩, (zpk zq29 (k := 27) rfl), (zpk zq29 (k := 28) rfl)⟩
def xX10_over : zX := (RX10, cX10_over, 1, zrm 1 0 0, (some .int), false)
theorem mX10_over : zCS yX10_over xX10_over 1 := ⟨⟨(zpk zq29 (k := 29) rfl), ncX10, mhX10, (zpd (k := 4) rfl)⟩, (zpk zq29 (k := 30) rfl)⟩
def xX10_taken : zX := (RX10, cX10_taken, 4, zrm 3 0 0, (some .int), false)
theorem mX10_taken : zCV yX10_taken xX10_taken 2 := ⟨⟨(zpk zq29 (k := 31) rfl), ncX10, mhX10, (zpd (k := 5) rfl)⟩, (zpk zq29 (k := 32) rfl), (zpk zq29 (k := 33) rfl)⟩
