/-! CONSTRUCTORS of the class and of the model (printed by wip/whole/p68.py) -/
section
variable {g : zG} {N : Nat} {M : zM}
def zmdl (M : zM) : zM := zU (zU (zsl (zsl (zsl (zsl (zsl (zsl (zU (zNw (zU (zNw (zU (zNw (zU (zNw (zU (zU (zNw (zU (zNw (zU (zNw (zU (zNw (zU (zNw (zU (zNw (zU (zNw (zU (zNw (zU (zNw (zU (zNw (zU (zNw (zU (zNw (M) 59 (fun _ => 0)) 58 1 59) 60 (fun _ => 0)) 58 2 60) 61 (fun _ => 0)) 58 5 61) 62 (fun _ => 0)) 58 8 62) 63 (fun _ => 0)) 58 9 63) 64 (fun _ => 0)) 58 10 64) 65 (fun _ => 0)) 58 11 65) 66 (fun _ => 0)) 58 28 66) 67 (fun _ => 0)) 58 29 67) 68 (fun _ => 0)) 58 30 68) 69 (fun _ => 0)) 58 34 69) 70 (fun _ => 0)) 58 35 70) 58 36 (-1)) 71 (fun _ => 0)) 58 39 71) 72 (fun _ => 0)) 58 40 72) 73 (fun _ => 0)) 58 41 73) 74 (fun _ => 0)) 58 42 74) 0 99 111 115 116 115 32 49 32) 8 59 32 99 114 111 119 100 115) 16 32 109 97 110 121 32 42 32) 24 109 97 110 121 32 59 32 109) 32 105 110 100 115 32 114 101 115) 40 116 32 59 32 32 32 32 32) 60 0 48) 58 3 1
set_option maxRecDepth 20000 in
set_option maxHeartbeats 2000000 in
theorem kX10_init  : zK g yX10_init xX10_init [zr 58] 59 M (fun w N' M' => w = none ∧ N' = 75 ∧ M' = zmdl M) := by
  refine zK_of (ls0 := [zr 58]) (by decide) rfl (by decide) rfl (Nat.le_of_ble_eq_true rfl) ?_
  refine zV_aload_n (pc := 0) (i := 0) dX10_init_0 rfl rfl ?_
  refine zV_obj (pc := 1) dX10_init_1 klX10_7 obi obc (by decide) ⟨by decide, by decide⟩ (by decide) ?_
  refine zV_aload_n (pc := 4) (i := 0) dX10_init_4 rfl rfl ?_
  refine zV_sipush (pc := 5) dX10_init_5 (by decide) ?_
  refine zV_newa (pc := 8) dX10_init_8 rfl ac_int (by decide) rfl (by decide) rfl (by decide) ⟨Nat.le_of_ble_eq_true rfl, Nat.le_of_ble_eq_true rfl⟩ ?_
  refine zV_putF (pc := 10) (j := 1) dX10_init_10 flX10_13 rfl rfl rfl (zOb_of rfl) rfl trivial ?_
  refine zV_aload_n (pc := 13) (i := 0) dX10_init_13 rfl rfl ?_
  refine zV_bipush (pc := 14) dX10_init_14 (by decide) ?_
  refine zV_newa (pc := 16) dX10_init_16 rfl ac_int (by decide) rfl (by decide) rfl (by decide) ⟨Nat.le_of_ble_eq_true rfl, Nat.le_of_ble_eq_true rfl⟩ ?_
  refine zV_putF (pc := 18) (j := 2) dX10_init_18 flX10_17 rfl rfl rfl (zOb_of rfl) rfl trivial ?_
  refine zV_aload_n (pc := 21) (i := 0) dX10_init_21 rfl rfl ?_
  refine zV_sipush (pc := 22) dX10_init_22 (by decide) ?_
  refine zV_newa (pc := 25) dX10_init_25 rfl ac_int (by decide) rfl (by decide) rfl (by decide) ⟨Nat.le_of_ble_eq_true rfl, Nat.le_of_ble_eq_true rfl⟩ ?_
  refine zV_putF (pc := 27) (j := 5) dX10_init_27 flX10_20 rfl rfl rfl (zOb_of rfl) rfl trivial ?_
  refine zV_aload_n (pc := 30) (i := 0) dX10_init_30 rfl rfl ?_
  refine zV_bipush (pc := 31) dX10_init_31 (by decide) ?_
  refine zV_newa (pc := 33) dX10_init_33 rfl ac_int (by decide) rfl (by decide) rfl (by decide) ⟨Nat.le_of_ble_eq_true rfl, Nat.le_of_ble_eq_true rfl⟩ ?_
  refine zV_putF (pc := 35) (j := 8) dX10_init_35 flX10_23 rfl rfl rfl (zOb_of rfl) rfl trivial ?_
  refine zV_aload_n (pc := 38) (i := 0) dX10_init_38 rfl rfl ?_
  refine zV_bipush (pc := 39) dX10_init_39 (by decide) ?_
  refine zV_newa (pc := 41) dX10_init_41 rfl ac_int (by decide) rfl (by decide) rfl (by decide) ⟨Nat.le_of_ble_eq_true rfl, Nat.le_of_ble_eq_true rfl⟩ ?_
  refine zV_putF (pc := 43) (j := 9) dX10_init_43 flX10_26 rfl rfl rfl (zOb_of rfl) rfl trivial ?_
  refine zV_aload_n (pc := 46) (i := 0) dX10_init_46 rfl rfl ?_
  refine zV_bipush (pc := 47) dX10_init_47 (by decide) ?_
  refine zV_newa (pc := 49) dX10_init_49 rfl ac_int (by decide) rfl (by decide) rfl (by decide) ⟨Nat.le_of_ble_eq_true rfl, Nat.le_of_ble_eq_true rfl⟩ ?_
  refine zV_putF (pc := 51) (j := 10) dX10_init_51 flX10_29 rfl rfl rfl (zOb_of rfl) rfl trivial ?_
  refine zV_aload_n (pc := 54) (i := 0) dX10_init_54 rfl rfl ?_
  refine zV_bipush (pc := 55) dX10_init_55 (by decide) ?_
  refine zV_newa (pc := 57) dX10_init_57 rfl ac_int (by decide) rfl (by decide) rfl (by decide) ⟨Nat.le_of_ble_eq_true rfl, Nat.le_of_ble_eq_true rfl⟩ ?_
  refine zV_putF (pc := 59) (j := 11) dX10_init_59 flX10_32 rfl rfl rfl (zOb_of rfl) rfl trivial ?_
  refine zV_aload_n (pc := 62) (i := 0) dX10_init_62 rfl rfl ?_
  refine zV_sipush (pc := 63) dX10_init_63 (by decide) ?_
  refine zV_newa (pc := 66) dX10_init_66 rfl ac_int (by decide) rfl (by decide) rfl (by decide) ⟨Nat.le_of_ble_eq_true rfl, Nat.le_of_ble_eq_true rfl⟩ ?_
  refine zV_putF (pc := 68) (j := 28) dX10_init_68 flX10_35 rfl rfl rfl (zOb_of rfl) rfl trivial ?_
  refine zV_aload_n (pc := 71) (i := 0) dX10_init_71 rfl rfl ?_
  refine zV_sipush (pc := 72) dX10_init_72 (by decide) ?_
  refine zV_newa (pc := 75) dX10_init_75 rfl ac_int (by decide) rfl (by decide) rfl (by decide) ⟨Nat.le_of_ble_eq_true rfl, Nat.le_of_ble_eq_true rfl⟩ ?_
  refine zV_putF (pc := 77) (j := 29) dX10_init_77 flX10_38 rfl rfl rfl (zOb_of rfl) rfl trivial ?_
  refine zV_aload_n (pc := 80) (i := 0) dX10_init_80 rfl rfl ?_
  refine zV_sipush (pc := 81) dX10_init_81 (by decide) ?_
  refine zV_newa (pc := 84) dX10_init_84 rfl ac_int (by decide) rfl (by decide) rfl (by decide) ⟨Nat.le_of_ble_eq_true rfl, Nat.le_of_ble_eq_true rfl⟩ ?_
  refine zV_putF (pc := 86) (j := 30) dX10_init_86 flX10_41 rfl rfl rfl (zOb_of rfl) rfl trivial ?_
  refine zV_aload_n (pc := 89) (i := 0) dX10_init_89 rfl rfl ?_
  refine zV_sipush (pc := 90) dX10_init_90 (by decide) ?_
  refine zV_newa (pc := 93) dX10_init_93 rfl ac_boolean (by decide) rfl (by decide) rfl (by decide) ⟨Nat.le_of_ble_eq_true rfl, Nat.le_of_ble_eq_true rfl⟩ ?_
  refine zV_putF (pc := 95) (j := 34) dX10_init_95 flX10_44 rfl rfl rfl (zOb_of rfl) rfl trivial ?_
  refine zV_aload_n (pc := 98) (i := 0) dX10_init_98 rfl rfl ?_
  refine zV_bipush (pc := 99) dX10_init_99 (by decide) ?_
  refine zV_newa (pc := 101) dX10_init_101 rfl ac_int (by decide) rfl (by decide) rfl (by decide) ⟨Nat.le_of_ble_eq_true rfl, Nat.le_of_ble_eq_true rfl⟩ ?_
  refine zV_putF (pc := 103) (j := 35) dX10_init_103 flX10_48 rfl rfl rfl (zOb_of rfl) rfl trivial ?_
  refine zV_aload_n (pc := 106) (i := 0) dX10_init_106 rfl rfl ?_
  refine zV_iconst (pc := 107) dX10_init_107 ?_
  refine zV_put (pc := 108) (j := 36) dX10_init_108 flX10_51 rfl (zOb_of rfl) rfl trivial ?_
  refine zV_aload_n (pc := 111) (i := 0) dX10_init_111 rfl rfl ?_
  refine zV_iconst (pc := 112) dX10_init_112 ?_
  refine zV_newa (pc := 113) dX10_init_113 rfl ac_boolean (by decide) rfl (by decide) rfl (by decide) ⟨Nat.le_of_ble_eq_true rfl, Nat.le_of_ble_eq_true rfl⟩ ?_
  refine zV_putF (pc := 115) (j := 39) dX10_init_115 flX10_54 rfl rfl rfl (zOb_of rfl) rfl trivial ?_
  refine zV_aload_n (pc := 118) (i := 0) dX10_init_118 rfl rfl ?_
  refine zV_iconst (pc := 119) dX10_init_119 ?_
  refine zV_newa (pc := 120) dX10_init_120 rfl ac_int (by decide) rfl (by decide) rfl (by decide) ⟨Nat.le_of_ble_eq_true rfl, Nat.le_of_ble_eq_true rfl⟩ ?_
  refine zV_putF (pc := 122) (j := 40) dX10_init_122 flX10_57 rfl rfl rfl (zOb_of rfl) rfl trivial ?_
  refine zV_aload_n (pc := 125) (i := 0) dX10_init_125 rfl rfl ?_
  refine zV_iconst (pc := 126) dX10_init_126 ?_
  refine zV_newa (pc := 127) dX10_init_127 rfl ac_int (by decide) rfl (by decide) rfl (by decide) ⟨Nat.le_of_ble_eq_true rfl, Nat.le_of_ble_eq_true rfl⟩ ?_
  refine zV_putF (pc := 129) (j := 41) dX10_init_129 flX10_60 rfl rfl rfl (zOb_of rfl) rfl trivial ?_
  refine zV_aload_n (pc := 132) (i := 0) dX10_init_132 rfl rfl ?_
  refine zV_sipush (pc := 133) dX10_init_133 (by decide) ?_
  refine zV_newa (pc := 136) dX10_init_136 rfl ac_int (by decide) rfl (by decide) rfl (by decide) ⟨Nat.le_of_ble_eq_true rfl, Nat.le_of_ble_eq_true rfl⟩ ?_
  refine zV_putF (pc := 138) (j := 42) dX10_init_138 flX10_63 rfl rfl rfl (zOb_of rfl) rfl trivial ?_
  refine zV_aload_n (pc := 141) (i := 0) dX10_init_141 rfl rfl ?_
  refine zV_iconst (pc := 142) dX10_init_142 ?_
  refine zV_bipush (pc := 143) dX10_init_143 (by decide) ?_
  refine zV_bipush (pc := 145) dX10_init_145 (by decide) ?_
  refine zV_bipush (pc := 147) dX10_init_147 (by decide) ?_
  refine zV_bipush (pc := 149) dX10_init_149 (by decide) ?_
  refine zV_bipush (pc := 151) dX10_init_151 (by decide) ?_
  refine zV_bipush (pc := 153) dX10_init_153 (by decide) ?_
  refine zV_bipush (pc := 155) dX10_init_155 (by decide) ?_
  refine zV_bipush (pc := 157) dX10_init_157 (by decide) ?_
  refine zV_ivn (pc := 159) (ci := 10) dX10_init_159 klX10_66 mX10_spell ⟨by decide, rfl⟩ rfl ⟨Nat.le_of_ble_eq_true rfl, Nat.le_of_ble_eq_true rfl⟩ (kX10_spell (by decide) rfl) (zOb_of rfl) rfl rfl (Nat.le_of_ble_eq_true rfl) (fun M1 q => ?_)
  subst q
  refine zV_aload_n (pc := 162) (i := 0) dX10_init_162 rfl rfl ?_
  refine zV_bipush (pc := 163) dX10_init_163 (by decide) ?_
  refine zV_bipush (pc := 165) dX10_init_165 (by decide) ?_
  refine zV_bipush (pc := 167) dX10_init_167 (by decide) ?_
  refine zV_bipush (pc := 169) dX10_init_169 (by decide) ?_
  refine zV_bipush (pc := 171) dX10_init_171 (by decide) ?_
  refine zV_bipush (pc := 173) dX10_init_173 (by decide) ?_
  refine zV_bipush (pc := 175) dX10_init_175 (by decide) ?_
  refine zV_bipush (pc := 177) dX10_init_177 (by decide) ?_
  refine zV_bipush (pc := 179) dX10_init_179 (by decide) ?_
  refine zV_ivn (pc := 181) (ci := 10) dX10_init_181 klX10_66 mX10_spell ⟨by decide, rfl⟩ rfl ⟨Nat.le_of_ble_eq_true rfl, Nat.le_of_ble_eq_true rfl⟩ (kX10_spell (by decide) rfl) (zOb_of rfl) rfl rfl (Nat.le_of_ble_eq_true rfl) (fun M1 q => ?_)
  subst q
  refine zV_aload_n (pc := 184) (i := 0) dX10_init_184 rfl rfl ?_
  refine zV_bipush (pc := 185) dX10_init_185 (by decide) ?_
  refine zV_bipush (pc := 187) dX10_init_187 (by decide) ?_
  refine zV_bipush (pc := 189) dX10_init_189 (by decide) ?_
  refine zV_bipush (pc := 191) dX10_init_191 (by decide) ?_
  refine zV_bipush (pc := 193) dX10_init_193 (by decide) ?_
  refine zV_bipush (pc := 195) dX10_init_195 (by decide) ?_
  refine zV_bipush (pc := 197) dX10_init_197 (by decide) ?_
  refine zV_bipush (pc := 199) dX10_init_199 (by decide) ?_
  refine zV_bipush (pc := 201) dX10_init_201 (by decide) ?_
  refine zV_ivn (pc := 203) (ci := 10) dX10_init_203 klX10_66 mX10_spell ⟨by decide, rfl⟩ rfl ⟨Nat.le_of_ble_eq_true rfl, Nat.le_of_ble_eq_true rfl⟩ (kX10_spell (by decide) rfl) (zOb_of rfl) rfl rfl (Nat.le_of_ble_eq_true rfl) (fun M1 q => ?_)
  subst q
  refine zV_aload_n (pc := 206) (i := 0) dX10_init_206 rfl rfl ?_
  refine zV_bipush (pc := 207) dX10_init_207 (by decide) ?_
  refine zV_bipush (pc := 209) dX10_init_209 (by decide) ?_
  refine zV_bipush (pc := 211) dX10_init_211 (by decide) ?_
  refine zV_bipush (pc := 213) dX10_init_213 (by decide) ?_
  refine zV_bipush (pc := 215) dX10_init_215 (by decide) ?_
  refine zV_bipush (pc := 217) dX10_init_217 (by decide) ?_
  refine zV_bipush (pc := 219) dX10_init_219 (by decide) ?_
  refine zV_bipush (pc := 221) dX10_init_221 (by decide) ?_
  refine zV_bipush (pc := 223) dX10_init_223 (by decide) ?_
  refine zV_ivn (pc := 225) (ci := 10) dX10_init_225 klX10_66 mX10_spell ⟨by decide, rfl⟩ rfl ⟨Nat.le_of_ble_eq_true rfl, Nat.le_of_ble_eq_true rfl⟩ (kX10_spell (by decide) rfl) (zOb_of rfl) rfl rfl (Nat.le_of_ble_eq_true rfl) (fun M1 q => ?_)
  subst q
  refine zV_aload_n (pc := 228) (i := 0) dX10_init_228 rfl rfl ?_
  refine zV_bipush (pc := 229) dX10_init_229 (by decide) ?_
  refine zV_bipush (pc := 231) dX10_init_231 (by decide) ?_
  refine zV_bipush (pc := 233) dX10_init_233 (by decide) ?_
  refine zV_bipush (pc := 235) dX10_init_235 (by decide) ?_
  refine zV_bipush (pc := 237) dX10_init_237 (by decide) ?_
  refine zV_bipush (pc := 239) dX10_init_239 (by decide) ?_
  refine zV_bipush (pc := 241) dX10_init_241 (by decide) ?_
  refine zV_bipush (pc := 243) dX10_init_243 (by decide) ?_
  refine zV_bipush (pc := 245) dX10_init_245 (by decide) ?_
  refine zV_ivn (pc := 247) (ci := 10) dX10_init_247 klX10_66 mX10_spell ⟨by decide, rfl⟩ rfl ⟨Nat.le_of_ble_eq_true rfl, Nat.le_of_ble_eq_true rfl⟩ (kX10_spell (by decide) rfl) (zOb_of rfl) rfl rfl (Nat.le_of_ble_eq_true rfl) (fun M1 q => ?_)
  subst q
  refine zV_aload_n (pc := 250) (i := 0) dX10_init_250 rfl rfl ?_
  refine zV_bipush (pc := 251) dX10_init_251 (by decide) ?_
  refine zV_bipush (pc := 253) dX10_init_253 (by decide) ?_
  refine zV_bipush (pc := 255) dX10_init_255 (by decide) ?_
  refine zV_bipush (pc := 257) dX10_init_257 (by decide) ?_
  refine zV_bipush (pc := 259) dX10_init_259 (by decide) ?_
  refine zV_bipush (pc := 261) dX10_init_261 (by decide) ?_
  refine zV_bipush (pc := 263) dX10_init_263 (by decide) ?_
  refine zV_bipush (pc := 265) dX10_init_265 (by decide) ?_
  refine zV_bipush (pc := 267) dX10_init_267 (by decide) ?_
  refine zV_ivn (pc := 269) (ci := 10) dX10_init_269 klX10_66 mX10_spell ⟨by decide, rfl⟩ rfl ⟨Nat.le_of_ble_eq_true rfl, Nat.le_of_ble_eq_true rfl⟩ (kX10_spell (by decide) rfl) (zOb_of rfl) rfl rfl (Nat.le_of_ble_eq_true rfl) (fun M1 q => ?_)
  subst q
  refine zV_aload_n (pc := 272) (i := 0) dX10_init_272 rfl rfl ?_
  refine zV_get (pc := 273) (j := 2) dX10_init_273 flX10_17 (zOb_of rfl) rfl (show _ = (60 : Int) from rfl) ?_
  refine zV_iconst (pc := 276) dX10_init_276 ?_
  refine zV_bipush (pc := 277) dX10_init_277 (by decide) ?_
  refine zV_iast (pc := 279) dX10_init_279 (zAr_of rfl : zAr 75 60 0 6) (by omega) ?_
  refine zV_aload_n (pc := 280) (i := 0) dX10_init_280 rfl rfl ?_
  refine zV_iconst (pc := 281) dX10_init_281 ?_
  refine zV_put (pc := 282) (j := 3) dX10_init_282 flX10_70 rfl (zOb_of rfl) rfl trivial ?_
  refine zV_vret (pc := 285) dX10_init_285 trivial ⟨Nat.le_of_ble_eq_true rfl, Nat.le_of_ble_eq_true rfl⟩ ?_
  exact ⟨rfl, rfl, rfl⟩
def zi9a (M : zM) : zM := zU (zNw (zU (zU (zU (zNw (zU (zU (zNw (zU (zNw (zNw (zU (zNw (zU (zU (zNw (zNw (zU (zNw (zU (zro9 (zNw (zU (zro1 (zNw M 1 (fun j => zdf (zty 5 j.toNat)))) 0 0 1) 9 (fun j => zdf (zty 5 j.toNat)))) 0 1 9) 17 (fun _ => -1)) 0 3 17) 18 (fun j => zdf (zty 3 j.toNat))) 19 (fun _ => 0)) 18 0 19) 0 5 18) 20 (fun j => zdf (zty 2 j.toNat))) 0 7 20) 21 (fun j => zdf (zty 1 j.toNat))) 22 (fun _ => 0)) 21 0 22) 23 (fun _ => 0)) 21 4 23) 0 8 21) 24 (fun j => zdf (zty 8 j.toNat))) 24 0 0) 24 2 1) 0 9 24) 25 (fun _ => -1)) 0 10 25
def zi9b (M : zM) : zM := zU (zU (zNw (zU (zNw (zNw (zU (zU (zNw (zU (zNw (zNw (zU (zU (zNw (zU (zNw (zNw (zU (zU (zNw (zU (zNw (zNw (zU (zU (zNw (zU (zNw (zNw (zU (zU (zNw (zU (zNw (zNw (M) 26 (fun j => zdf (zty 7 j.toNat))) 27 (fun _ => 0)) 26 0 27) 28 (fun _ => 0)) 26 1 28) 17 0 26) 29 (fun j => zdf (zty 7 j.toNat))) 30 (fun _ => 0)) 29 0 30) 31 (fun _ => 0)) 29 1 31) 17 1 29) 32 (fun j => zdf (zty 7 j.toNat))) 33 (fun _ => 0)) 32 0 33) 34 (fun _ => 0)) 32 1 34) 17 2 32) 35 (fun j => zdf (zty 7 j.toNat))) 36 (fun _ => 0)) 35 0 36) 37 (fun _ => 0)) 35 1 37) 17 3 35) 38 (fun j => zdf (zty 7 j.toNat))) 39 (fun _ => 0)) 38 0 39) 40 (fun _ => 0)) 38 1 40) 17 4 38) 41 (fun j => zdf (zty 7 j.toNat))) 42 (fun _ => 0)) 41 0 42) 43 (fun _ => 0)) 41 1 43) 17 5 41
def zi9c (M : zM) : zM := zU (zU (zNw (zU (zNw (zU (zU (zNw (zU (zNw (zU (zU (zNw (zU (zNw (zU (zU (zNw (zU (zNw (M) 44 (fun j => zdf (zty 6 j.toNat))) 44 0 (-1)) 45 (fun _ => 0)) 44 2 45) 25 0 44) 46 (fun j => zdf (zty 6 j.toNat))) 46 0 (-1)) 47 (fun _ => 0)) 46 2 47) 25 1 46) 48 (fun j => zdf (zty 6 j.toNat))) 48 0 (-1)) 49 (fun _ => 0)) 48 2 49) 25 2 48) 50 (fun j => zdf (zty 6 j.toNat))) 50 0 (-1)) 51 (fun _ => 0)) 50 2 51) 25 3 50
set_option maxRecDepth 20000 in
set_option maxHeartbeats 2000000 in
theorem kX9_in0 {P : zP} (hX : zV g xX9_init P 89 [zr 0, zi 0] [] 26 (zi9a M) 25 677) : zV g xX9_init P 0 [zr 0, (3, 0)] [] 1 M 0 0 := by
  refine zV_aload_n (pc := 0) (i := 0) dX9_init_0 rfl rfl ?_
  refine zV_obj (pc := 1) dX9_init_1 klX9_3 obi obc (by decide) ⟨by decide, by decide⟩ (by decide) ?_
  refine zV_aload_n (pc := 4) (i := 0) dX9_init_4 rfl rfl ?_
  refine zV_new (ci := 5) (pc := 5) dX9_init_5 (by decide) clX9_9 icX5 ncX5 rfl zht_5 (by decide) ⟨Nat.le_of_ble_eq_true rfl, Nat.le_of_ble_eq_true rfl⟩ ?_
  refine zV_dup (pc := 8) dX9_init_8 (by simp) ?_
  refine zV_ii (pc := 9) dX9_init_9 klX9_11 mX5_init rfl ⟨by decide, by decide, by decide, by decide⟩ kX5_init1 (by omega) rfl rfl (Nat.le_of_ble_eq_true rfl) ?_
  rintro w9 N9 M9 ⟨rfl, rfl, rfl⟩
  refine zV_putF (pc := 12) (j := 0) dX9_init_12 flX9_12 rfl rfl rfl (zOb_of rfl) rfl trivial ?_
  refine zV_aload_n (pc := 15) (i := 0) dX9_init_15 rfl rfl ?_
  refine zV_new (ci := 5) (pc := 16) dX9_init_16 (by decide) clX9_9 icX5 ncX5 rfl zht_5 (by decide) ⟨Nat.le_of_ble_eq_true rfl, Nat.le_of_ble_eq_true rfl⟩ ?_
  refine zV_dup (pc := 19) dX9_init_19 (by simp) ?_
  refine zV_ii (pc := 20) dX9_init_20 klX9_11 mX5_init rfl ⟨by decide, by decide, by decide, by decide⟩ kX5_init9 (by omega) rfl rfl (Nat.le_of_ble_eq_true rfl) ?_
  rintro w9 N9 M9 ⟨rfl, rfl, rfl⟩
  refine zV_putF (pc := 23) (j := 1) dX9_init_23 flX9_16 rfl rfl rfl (zOb_of rfl) rfl trivial ?_
  refine zV_aload_n (pc := 26) (i := 0) dX9_init_26 rfl rfl ?_
  refine zV_bipush (pc := 27) dX9_init_27 (by decide) ?_
  refine zV_anew (ci := 7) (pc := 29) dX9_init_29 (by decide) rfl rfl clX9_19 aoX7 rfl (by decide) rfl (by decide) ⟨Nat.le_of_ble_eq_true rfl, Nat.le_of_ble_eq_true rfl⟩ ?_
  refine zV_putF (pc := 32) (j := 3) dX9_init_32 flX9_21 rfl rfl rfl (zOb_of rfl) rfl trivial ?_
  refine zV_aload_n (pc := 35) (i := 0) dX9_init_35 rfl rfl ?_
  refine zV_new (ci := 3) (pc := 36) dX9_init_36 (by decide) clX9_25 icX3 ncX3 rfl zht_3 (by decide) ⟨Nat.le_of_ble_eq_true rfl, Nat.le_of_ble_eq_true rfl⟩ ?_
  refine zV_dup (pc := 39) dX9_init_39 (by simp) ?_
  refine zV_iiN (pc := 40) dX9_init_40 klX9_27 mX3_init rfl ⟨by decide, by decide, by decide, by decide⟩ (kX3_init (zOb_of rfl) rfl (by decide)) (by omega) rfl rfl (Nat.le_of_ble_eq_true rfl) ?_
  rintro w9 N9 M9 ⟨rfl, rfl, rfl⟩
  refine zV_putF (pc := 43) (j := 5) dX9_init_43 flX9_28 rfl rfl rfl (zOb_of rfl) rfl trivial ?_
  refine zV_aload_n (pc := 46) (i := 0) dX9_init_46 rfl rfl ?_
  refine zV_new (ci := 2) (pc := 47) dX9_init_47 (by decide) clX9_32 icX2 ncX2 rfl zht_2 (by decide) ⟨Nat.le_of_ble_eq_true rfl, Nat.le_of_ble_eq_true rfl⟩ ?_
  refine zV_dup (pc := 50) dX9_init_50 (by simp) ?_
  refine zV_iiN (pc := 51) dX9_init_51 klX9_34 mX2_init rfl ⟨by decide, by decide, by decide, by decide⟩ (kX2_init (zOb_of rfl)) (by omega) rfl rfl (Nat.le_of_ble_eq_true rfl) ?_
  rintro w9 N9 M9 ⟨rfl, rfl, rfl⟩
  refine zV_putF (pc := 54) (j := 7) dX9_init_54 flX9_35 rfl rfl rfl (zOb_of rfl) rfl trivial ?_
  refine zV_aload_n (pc := 57) (i := 0) dX9_init_57 rfl rfl ?_
  refine zV_new (ci := 1) (pc := 58) dX9_init_58 (by decide) clX9_39 icX1 ncX1 rfl zht_1 (by decide) ⟨Nat.le_of_ble_eq_true rfl, Nat.le_of_ble_eq_true rfl⟩ ?_
  refine zV_dup (pc := 61) dX9_init_61 (by simp) ?_
  refine zV_iiN (pc := 62) dX9_init_62 klX9_41 mX1_init rfl ⟨by decide, by decide, by decide, by decide⟩ (kX1_init (zOb_of rfl) rfl rfl (by decide)) (by omega) rfl rfl (Nat.le_of_ble_eq_true rfl) ?_
  rintro w9 N9 M9 ⟨rfl, rfl, rfl⟩
  refine zV_putF (pc := 65) (j := 8) dX9_init_65 flX9_42 rfl rfl rfl (zOb_of rfl) rfl trivial ?_
  refine zV_aload_n (pc := 68) (i := 0) dX9_init_68 rfl rfl ?_
  refine zV_new (ci := 8) (pc := 69) dX9_init_69 (by decide) clX9_46 icX8 ncX8 rfl zht_8 (by decide) ⟨Nat.le_of_ble_eq_true rfl, Nat.le_of_ble_eq_true rfl⟩ ?_
  refine zV_dup (pc := 72) dX9_init_72 (by simp) ?_
  refine zV_iiN (pc := 73) dX9_init_73 klX9_48 mX8_init rfl ⟨by decide, by decide, by decide, by decide⟩ (kX8_init (zOb_of rfl)) (by omega) rfl rfl (Nat.le_of_ble_eq_true rfl) ?_
  rintro w9 N9 M9 ⟨rfl, rfl, rfl⟩
  refine zV_putF (pc := 76) (j := 9) dX9_init_76 flX9_49 rfl rfl rfl (zOb_of rfl) rfl trivial ?_
  refine zV_aload_n (pc := 79) (i := 0) dX9_init_79 rfl rfl ?_
  refine zV_iconst (pc := 80) dX9_init_80 ?_
  refine zV_anew (ci := 6) (pc := 81) dX9_init_81 (by decide) rfl rfl clX9_53 aoX6 rfl (by decide) rfl (by decide) ⟨Nat.le_of_ble_eq_true rfl, Nat.le_of_ble_eq_true rfl⟩ ?_
  refine zV_putF (pc := 84) (j := 10) dX9_init_84 flX9_55 rfl rfl rfl (zOb_of rfl) rfl trivial ?_
  refine zV_iconst (pc := 87) dX9_init_87 ?_
  refine zV_istore_n (pc := 88) (i := 1) dX9_init_88 rfl rfl ?_
  try dsimp only [List.set_cons_succ, List.set_cons_zero]
  exact hX
set_option maxRecDepth 20000 in
set_option maxHeartbeats 2000000 in
theorem kX9_in1 {P : zP} (hT : M 0 3 = 17) (hX : zV g xX9_init P 119 [zr 0, zi 0] [] 44 (zi9b M) 43 1673) : zV g xX9_init P 89 [zr 0, zi 0] [] 26 M 25 677 := by
  refine zV_iload_n (pc := 89) (i := 1) dX9_init_89 rfl rfl ?_
  refine zV_aload_n (pc := 90) (i := 0) dX9_init_90 rfl rfl ?_
  refine zV_get (pc := 91) (j := 3) dX9_init_91 flX9_21 (zOb_of rfl) rfl hT ?_
  refine zV_alen (pc := 94) dX9_init_94 (zAr_of rfl : zAr 26 17 3 6) ?_
  refine zV_icmp_ge (pc := 95) (tgt := 117) dX9_init_95 (by decide) (by omega) (fun c_95 => absurd c_95 (by decide)) (fun c_95 => ?_)
  refine zV_aload_n (pc := 98) (i := 0) dX9_init_98 rfl rfl ?_
  refine zV_get (pc := 99) (j := 3) dX9_init_99 flX9_21 (zOb_of rfl) rfl hT ?_
  refine zV_iload_n (pc := 102) (i := 1) dX9_init_102 rfl rfl ?_
  refine zV_new (ci := 7) (pc := 103) dX9_init_103 (by decide) clX9_19 icX7 ncX7 rfl zht_7 (by decide) ⟨Nat.le_of_ble_eq_true rfl, Nat.le_of_ble_eq_true rfl⟩ ?_
  refine zV_dup (pc := 106) dX9_init_106 (by simp) ?_
  refine zV_iiN (pc := 107) dX9_init_107 klX9_59 mX7_init rfl ⟨by decide, by decide, by decide, by decide⟩ (kX7_init (zOb_of rfl) rfl rfl (by decide)) (by omega) rfl rfl (Nat.le_of_ble_eq_true rfl) ?_
  rintro w9 N9 M9 ⟨rfl, rfl, rfl⟩
  refine zV_aast (pc := 110) dX9_init_110 (zAr_of rfl : zAr 29 17 3 6) ⟨rfl, rfl, by decide⟩ (by omega) (zOb_of rfl : zOb 29 (29 - 3 : Nat) 7) ?_
  refine zV_iinc (pc := 111) dX9_init_111 rfl rfl ?_
  try dsimp only [List.set_cons_succ, List.set_cons_zero]
  refine zV_goto (pc := 114) (tgt := 89) dX9_init_114 (by decide) ?_
  refine zV_iload_n (pc := 89) (i := 1) dX9_init_89 rfl rfl ?_
  refine zV_aload_n (pc := 90) (i := 0) dX9_init_90 rfl rfl ?_
  refine zV_get (pc := 91) (j := 3) dX9_init_91 flX9_21 (zOb_of rfl) rfl hT ?_
  refine zV_alen (pc := 94) dX9_init_94 (zAr_of rfl : zAr 29 17 3 6) ?_
  refine zV_icmp_ge (pc := 95) (tgt := 117) dX9_init_95 (by decide) (by omega) (fun c_95 => absurd c_95 (by decide)) (fun c_95 => ?_)
  refine zV_aload_n (pc := 98) (i := 0) dX9_init_98 rfl rfl ?_
  refine zV_get (pc := 99) (j := 3) dX9_init_99 flX9_21 (zOb_of rfl) rfl hT ?_
  refine zV_iload_n (pc := 102) (i := 1) dX9_init_102 rfl rfl ?_
  refine zV_new (ci := 7) (pc := 103) dX9_init_103 (by decide) clX9_19 icX7 ncX7 rfl zht_7 (by decide) ⟨Nat.le_of_ble_eq_true rfl, Nat.le_of_ble_eq_true rfl⟩ ?_
  refine zV_dup (pc := 106) dX9_init_106 (by simp) ?_
  refine zV_iiN (pc := 107) dX9_init_107 klX9_59 mX7_init rfl ⟨by decide, by decide, by decide, by decide⟩ (kX7_init (zOb_of rfl) rfl rfl (by decide)) (by omega) rfl rfl (Nat.le_of_ble_eq_true rfl) ?_
  rintro w9 N9 M9 ⟨rfl, rfl, rfl⟩
  refine zV_aast (pc := 110) dX9_init_110 (zAr_of rfl : zAr 32 17 3 6) ⟨rfl, rfl, by decide⟩ (by omega) (zOb_of rfl : zOb 32 (32 - 3 : Nat) 7) ?_
  refine zV_iinc (pc := 111) dX9_init_111 rfl rfl ?_
  try dsimp only [List.set_cons_succ, List.set_cons_zero]
  refine zV_goto (pc := 114) (tgt := 89) dX9_init_114 (by decide) ?_
  refine zV_iload_n (pc := 89) (i := 1) dX9_init_89 rfl rfl ?_
  refine zV_aload_n (pc := 90) (i := 0) dX9_init_90 rfl rfl ?_
  refine zV_get (pc := 91) (j := 3) dX9_init_91 flX9_21 (zOb_of rfl) rfl hT ?_
  refine zV_alen (pc := 94) dX9_init_94 (zAr_of rfl : zAr 32 17 3 6) ?_
  refine zV_icmp_ge (pc := 95) (tgt := 117) dX9_init_95 (by decide) (by omega) (fun c_95 => absurd c_95 (by decide)) (fun c_95 => ?_)
  refine zV_aload_n (pc := 98) (i := 0) dX9_init_98 rfl rfl ?_
  refine zV_get (pc := 99) (j := 3) dX9_init_99 flX9_21 (zOb_of rfl) rfl hT ?_
  refine zV_iload_n (pc := 102) (i := 1) dX9_init_102 rfl rfl ?_
  refine zV_new (ci := 7) (pc := 103) dX9_init_103 (by decide) clX9_19 icX7 ncX7 rfl zht_7 (by decide) ⟨Nat.le_of_ble_eq_true rfl, Nat.le_of_ble_eq_true rfl⟩ ?_
  refine zV_dup (pc := 106) dX9_init_106 (by simp) ?_
  refine zV_iiN (pc := 107) dX9_init_107 klX9_59 mX7_init rfl ⟨by decide, by decide, by decide, by decide⟩ (kX7_init (zOb_of rfl) rfl rfl (by decide)) (by omega) rfl rfl (Nat.le_of_ble_eq_true rfl) ?_
  rintro w9 N9 M9 ⟨rfl, rfl, rfl⟩
  refine zV_aast (pc := 110) dX9_init_110 (zAr_of rfl : zAr 35 17 3 6) ⟨rfl, rfl, by decide⟩ (by omega) (zOb_of rfl : zOb 35 (35 - 3 : Nat) 7) ?_
  refine zV_iinc (pc := 111) dX9_init_111 rfl rfl ?_
  try dsimp only [List.set_cons_succ, List.set_cons_zero]
  refine zV_goto (pc := 114) (tgt := 89) dX9_init_114 (by decide) ?_
  refine zV_iload_n (pc := 89) (i := 1) dX9_init_89 rfl rfl ?_
  refine zV_aload_n (pc := 90) (i := 0) dX9_init_90 rfl rfl ?_
  refine zV_get (pc := 91) (j := 3) dX9_init_91 flX9_21 (zOb_of rfl) rfl hT ?_
  refine zV_alen (pc := 94) dX9_init_94 (zAr_of rfl : zAr 35 17 3 6) ?_
  refine zV_icmp_ge (pc := 95) (tgt := 117) dX9_init_95 (by decide) (by omega) (fun c_95 => absurd c_95 (by decide)) (fun c_95 => ?_)
  refine zV_aload_n (pc := 98) (i := 0) dX9_init_98 rfl rfl ?_
  refine zV_get (pc := 99) (j := 3) dX9_init_99 flX9_21 (zOb_of rfl) rfl hT ?_
  refine zV_iload_n (pc := 102) (i := 1) dX9_init_102 rfl rfl ?_
  refine zV_new (ci := 7) (pc := 103) dX9_init_103 (by decide) clX9_19 icX7 ncX7 rfl zht_7 (by decide) ⟨Nat.le_of_ble_eq_true rfl, Nat.le_of_ble_eq_true rfl⟩ ?_
  refine zV_dup (pc := 106) dX9_init_106 (by simp) ?_
  refine zV_iiN (pc := 107) dX9_init_107 klX9_59 mX7_init rfl ⟨by decide, by decide, by decide, by decide⟩ (kX7_init (zOb_of rfl) rfl rfl (by decide)) (by omega) rfl rfl (Nat.le_of_ble_eq_true rfl) ?_
  rintro w9 N9 M9 ⟨rfl, rfl, rfl⟩
  refine zV_aast (pc := 110) dX9_init_110 (zAr_of rfl : zAr 38 17 3 6) ⟨rfl, rfl, by decide⟩ (by omega) (zOb_of rfl : zOb 38 (38 - 3 : Nat) 7) ?_
  refine zV_iinc (pc := 111) dX9_init_111 rfl rfl ?_
  try dsimp only [List.set_cons_succ, List.set_cons_zero]
  refine zV_goto (pc := 114) (tgt := 89) dX9_init_114 (by decide) ?_
  refine zV_iload_n (pc := 89) (i := 1) dX9_init_89 rfl rfl ?_
  refine zV_aload_n (pc := 90) (i := 0) dX9_init_90 rfl rfl ?_
  refine zV_get (pc := 91) (j := 3) dX9_init_91 flX9_21 (zOb_of rfl) rfl hT ?_
  refine zV_alen (pc := 94) dX9_init_94 (zAr_of rfl : zAr 38 17 3 6) ?_
  refine zV_icmp_ge (pc := 95) (tgt := 117) dX9_init_95 (by decide) (by omega) (fun c_95 => absurd c_95 (by decide)) (fun c_95 => ?_)
  refine zV_aload_n (pc := 98) (i := 0) dX9_init_98 rfl rfl ?_
  refine zV_get (pc := 99) (j := 3) dX9_init_99 flX9_21 (zOb_of rfl) rfl hT ?_
  refine zV_iload_n (pc := 102) (i := 1) dX9_init_102 rfl rfl ?_
  refine zV_new (ci := 7) (pc := 103) dX9_init_103 (by decide) clX9_19 icX7 ncX7 rfl zht_7 (by decide) ⟨Nat.le_of_ble_eq_true rfl, Nat.le_of_ble_eq_true rfl⟩ ?_
  refine zV_dup (pc := 106) dX9_init_106 (by simp) ?_
  refine zV_iiN (pc := 107) dX9_init_107 klX9_59 mX7_init rfl ⟨by decide, by decide, by decide, by decide⟩ (kX7_init (zOb_of rfl) rfl rfl (by decide)) (by omega) rfl rfl (Nat.le_of_ble_eq_true rfl) ?_
  rintro w9 N9 M9 ⟨rfl, rfl, rfl⟩
  refine zV_aast (pc := 110) dX9_init_110 (zAr_of rfl : zAr 41 17 3 6) ⟨rfl, rfl, by decide⟩ (by omega) (zOb_of rfl : zOb 41 (41 - 3 : Nat) 7) ?_
  refine zV_iinc (pc := 111) dX9_init_111 rfl rfl ?_
  try dsimp only [List.set_cons_succ, List.set_cons_zero]
  refine zV_goto (pc := 114) (tgt := 89) dX9_init_114 (by decide) ?_
  refine zV_iload_n (pc := 89) (i := 1) dX9_init_89 rfl rfl ?_
  refine zV_aload_n (pc := 90) (i := 0) dX9_init_90 rfl rfl ?_
  refine zV_get (pc := 91) (j := 3) dX9_init_91 flX9_21 (zOb_of rfl) rfl hT ?_
  refine zV_alen (pc := 94) dX9_init_94 (zAr_of rfl : zAr 41 17 3 6) ?_
  refine zV_icmp_ge (pc := 95) (tgt := 117) dX9_init_95 (by decide) (by omega) (fun c_95 => absurd c_95 (by decide)) (fun c_95 => ?_)
  refine zV_aload_n (pc := 98) (i := 0) dX9_init_98 rfl rfl ?_
  refine zV_get (pc := 99) (j := 3) dX9_init_99 flX9_21 (zOb_of rfl) rfl hT ?_
  refine zV_iload_n (pc := 102) (i := 1) dX9_init_102 rfl rfl ?_
  refine zV_new (ci := 7) (pc := 103) dX9_init_103 (by decide) clX9_19 icX7 ncX7 rfl zht_7 (by decide) ⟨Nat.le_of_ble_eq_true rfl, Nat.le_of_ble_eq_true rfl⟩ ?_
  refine zV_dup (pc := 106) dX9_init_106 (by simp) ?_
  refine zV_iiN (pc := 107) dX9_init_107 klX9_59 mX7_init rfl ⟨by decide, by decide, by decide, by decide⟩ (kX7_init (zOb_of rfl) rfl rfl (by decide)) (by omega) rfl rfl (Nat.le_of_ble_eq_true rfl) ?_
  rintro w9 N9 M9 ⟨rfl, rfl, rfl⟩
  refine zV_aast (pc := 110) dX9_init_110 (zAr_of rfl : zAr 44 17 3 6) ⟨rfl, rfl, by decide⟩ (by omega) (zOb_of rfl : zOb 44 (44 - 3 : Nat) 7) ?_
  refine zV_iinc (pc := 111) dX9_init_111 rfl rfl ?_
  try dsimp only [List.set_cons_succ, List.set_cons_zero]
  refine zV_goto (pc := 114) (tgt := 89) dX9_init_114 (by decide) ?_
  refine zV_iload_n (pc := 89) (i := 1) dX9_init_89 rfl rfl ?_
  refine zV_aload_n (pc := 90) (i := 0) dX9_init_90 rfl rfl ?_
  refine zV_get (pc := 91) (j := 3) dX9_init_91 flX9_21 (zOb_of rfl) rfl hT ?_
  refine zV_alen (pc := 94) dX9_init_94 (zAr_of rfl : zAr 44 17 3 6) ?_
  refine zV_icmp_ge (pc := 95) (tgt := 117) dX9_init_95 (by decide) (by omega) (fun c_95 => ?_) (fun c_95 => absurd (by decide) c_95)
  refine zV_iconst (pc := 117) dX9_init_117 ?_
  refine zV_istore_n (pc := 118) (i := 1) dX9_init_118 rfl rfl ?_
  try dsimp only [List.set_cons_succ, List.set_cons_zero]
  exact hX
set_option maxRecDepth 20000 in
set_option maxHeartbeats 2000000 in
theorem kX9_in2 {P : zP} (hT : M 0 10 = 25) (hX : zV g xX9_init P 149 [zr 0, zi 0] [] 52 (zi9c M) 51 1845) : zV g xX9_init P 119 [zr 0, zi 0] [] 44 M 43 1673 := by
  refine zV_iload_n (pc := 119) (i := 1) dX9_init_119 rfl rfl ?_
  refine zV_aload_n (pc := 120) (i := 0) dX9_init_120 rfl rfl ?_
  refine zV_get (pc := 121) (j := 10) dX9_init_121 flX9_55 (zOb_of rfl) rfl hT ?_
  refine zV_alen (pc := 124) dX9_init_124 (zAr_of rfl : zAr 44 25 4 4) ?_
  refine zV_icmp_ge (pc := 125) (tgt := 147) dX9_init_125 (by decide) (by omega) (fun c_125 => absurd c_125 (by decide)) (fun c_125 => ?_)
  refine zV_aload_n (pc := 128) (i := 0) dX9_init_128 rfl rfl ?_
  refine zV_get (pc := 129) (j := 10) dX9_init_129 flX9_55 (zOb_of rfl) rfl hT ?_
  refine zV_iload_n (pc := 132) (i := 1) dX9_init_132 rfl rfl ?_
  refine zV_new (ci := 6) (pc := 133) dX9_init_133 (by decide) clX9_53 icX6 ncX6 rfl zht_6 (by decide) ⟨Nat.le_of_ble_eq_true rfl, Nat.le_of_ble_eq_true rfl⟩ ?_
  refine zV_dup (pc := 136) dX9_init_136 (by simp) ?_
  refine zV_iiN (pc := 137) dX9_init_137 klX9_60 mX6_init rfl ⟨by decide, by decide, by decide, by decide⟩ (kX6_init (zOb_of rfl) rfl (by decide)) (by omega) rfl rfl (Nat.le_of_ble_eq_true rfl) ?_
  rintro w9 N9 M9 ⟨rfl, rfl, rfl⟩
  refine zV_aast (pc := 140) dX9_init_140 (zAr_of rfl : zAr 46 25 4 4) ⟨rfl, rfl, by decide⟩ (by omega) (zOb_of rfl : zOb 46 (46 - 2 : Nat) 6) ?_
  refine zV_iinc (pc := 141) dX9_init_141 rfl rfl ?_
  try dsimp only [List.set_cons_succ, List.set_cons_zero]
  refine zV_goto (pc := 144) (tgt := 119) dX9_init_144 (by decide) ?_
  refine zV_iload_n (pc := 119) (i := 1) dX9_init_119 rfl rfl ?_
  refine zV_aload_n (pc := 120) (i := 0) dX9_init_120 rfl rfl ?_
  refine zV_get (pc := 121) (j := 10) dX9_init_121 flX9_55 (zOb_of rfl) rfl hT ?_
  refine zV_alen (pc := 124) dX9_init_124 (zAr_of rfl : zAr 46 25 4 4) ?_
  refine zV_icmp_ge (pc := 125) (tgt := 147) dX9_init_125 (by decide) (by omega) (fun c_125 => absurd c_125 (by decide)) (fun c_125 => ?_)
  refine zV_aload_n (pc := 128) (i := 0) dX9_init_128 rfl rfl ?_
  refine zV_get (pc := 129) (j := 10) dX9_init_129 flX9_55 (zOb_of rfl) rfl hT ?_
  refine zV_iload_n (pc := 132) (i := 1) dX9_init_132 rfl rfl ?_
  refine zV_new (ci := 6) (pc := 133) dX9_init_133 (by decide) clX9_53 icX6 ncX6 rfl zht_6 (by decide) ⟨Nat.le_of_ble_eq_true rfl, Nat.le_of_ble_eq_true rfl⟩ ?_
  refine zV_dup (pc := 136) dX9_init_136 (by simp) ?_
  refine zV_iiN (pc := 137) dX9_init_137 klX9_60 mX6_init rfl ⟨by decide, by decide, by decide, by decide⟩ (kX6_init (zOb_of rfl) rfl (by decide)) (by omega) rfl rfl (Nat.le_of_ble_eq_true rfl) ?_
  rintro w9 N9 M9 ⟨rfl, rfl, rfl⟩
  refine zV_aast (pc := 140) dX9_init_140 (zAr_of rfl : zAr 48 25 4 4) ⟨rfl, rfl, by decide⟩ (by omega) (zOb_of rfl : zOb 48 (48 - 2 : Nat) 6) ?_
  refine zV_iinc (pc := 141) dX9_init_141 rfl rfl ?_
  try dsimp only [List.set_cons_succ, List.set_cons_zero]
  refine zV_goto (pc := 144) (tgt := 119) dX9_init_144 (by decide) ?_
  refine zV_iload_n (pc := 119) (i := 1) dX9_init_119 rfl rfl ?_
  refine zV_aload_n (pc := 120) (i := 0) dX9_init_120 rfl rfl ?_
  refine zV_get (pc := 121) (j := 10) dX9_init_121 flX9_55 (zOb_of rfl) rfl hT ?_
  refine zV_alen (pc := 124) dX9_init_124 (zAr_of rfl : zAr 48 25 4 4) ?_
  refine zV_icmp_ge (pc := 125) (tgt := 147) dX9_init_125 (by decide) (by omega) (fun c_125 => absurd c_125 (by decide)) (fun c_125 => ?_)
  refine zV_aload_n (pc := 128) (i := 0) dX9_init_128 rfl rfl ?_
  refine zV_get (pc := 129) (j := 10) dX9_init_129 flX9_55 (zOb_of rfl) rfl hT ?_
  refine zV_iload_n (pc := 132) (i := 1) dX9_init_132 rfl rfl ?_
  refine zV_new (ci := 6) (pc := 133) dX9_init_133 (by decide) clX9_53 icX6 ncX6 rfl zht_6 (by decide) ⟨Nat.le_of_ble_eq_true rfl, Nat.le_of_ble_eq_true rfl⟩ ?_
  refine zV_dup (pc := 136) dX9_init_136 (by simp) ?_
  refine zV_iiN (pc := 137) dX9_init_137 klX9_60 mX6_init rfl ⟨by decide, by decide, by decide, by decide⟩ (kX6_init (zOb_of rfl) rfl (by decide)) (by omega) rfl rfl (Nat.le_of_ble_eq_true rfl) ?_
  rintro w9 N9 M9 ⟨rfl, rfl, rfl⟩
  refine zV_aast (pc := 140) dX9_init_140 (zAr_of rfl : zAr 50 25 4 4) ⟨rfl, rfl, by decide⟩ (by omega) (zOb_of rfl : zOb 50 (50 - 2 : Nat) 6) ?_
  refine zV_iinc (pc := 141) dX9_init_141 rfl rfl ?_
  try dsimp only [List.set_cons_succ, List.set_cons_zero]
  refine zV_goto (pc := 144) (tgt := 119) dX9_init_144 (by decide) ?_
  refine zV_iload_n (pc := 119) (i := 1) dX9_init_119 rfl rfl ?_
  refine zV_aload_n (pc := 120) (i := 0) dX9_init_120 rfl rfl ?_
  refine zV_get (pc := 121) (j := 10) dX9_init_121 flX9_55 (zOb_of rfl) rfl hT ?_
  refine zV_alen (pc := 124) dX9_init_124 (zAr_of rfl : zAr 50 25 4 4) ?_
  refine zV_icmp_ge (pc := 125) (tgt := 147) dX9_init_125 (by decide) (by omega) (fun c_125 => absurd c_125 (by decide)) (fun c_125 => ?_)
  refine zV_aload_n (pc := 128) (i := 0) dX9_init_128 rfl rfl ?_
  refine zV_get (pc := 129) (j := 10) dX9_init_129 flX9_55 (zOb_of rfl) rfl hT ?_
  refine zV_iload_n (pc := 132) (i := 1) dX9_init_132 rfl rfl ?_
  refine zV_new (ci := 6) (pc := 133) dX9_init_133 (by decide) clX9_53 icX6 ncX6 rfl zht_6 (by decide) ⟨Nat.le_of_ble_eq_true rfl, Nat.le_of_ble_eq_true rfl⟩ ?_
  refine zV_dup (pc := 136) dX9_init_136 (by simp) ?_
  refine zV_iiN (pc := 137) dX9_init_137 klX9_60 mX6_init rfl ⟨by decide, by decide, by decide, by decide⟩ (kX6_init (zOb_of rfl) rfl (by decide)) (by omega) rfl rfl (Nat.le_of_ble_eq_true rfl) ?_
  rintro w9 N9 M9 ⟨rfl, rfl, rfl⟩
  refine zV_aast (pc := 140) dX9_init_140 (zAr_of rfl : zAr 52 25 4 4) ⟨rfl, rfl, by decide⟩ (by omega) (zOb_of rfl : zOb 52 (52 - 2 : Nat) 6) ?_
  refine zV_iinc (pc := 141) dX9_init_141 rfl rfl ?_
  try dsimp only [List.set_cons_succ, List.set_cons_zero]
  refine zV_goto (pc := 144) (tgt := 119) dX9_init_144 (by decide) ?_
  refine zV_iload_n (pc := 119) (i := 1) dX9_init_119 rfl rfl ?_
  refine zV_aload_n (pc := 120) (i := 0) dX9_init_120 rfl rfl ?_
  refine zV_get (pc := 121) (j := 10) dX9_init_121 flX9_55 (zOb_of rfl) rfl hT ?_
  refine zV_alen (pc := 124) dX9_init_124 (zAr_of rfl : zAr 52 25 4 4) ?_
  refine zV_icmp_ge (pc := 125) (tgt := 147) dX9_init_125 (by decide) (by omega) (fun c_125 => ?_) (fun c_125 => absurd (by decide) c_125)
  refine zV_iconst (pc := 147) dX9_init_147 ?_
  refine zV_istore_n (pc := 148) (i := 1) dX9_init_148 rfl rfl ?_
  try dsimp only [List.set_cons_succ, List.set_cons_zero]
  exact hX
end
