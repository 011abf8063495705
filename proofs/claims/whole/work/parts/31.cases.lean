/-! part 31 (printed by wip/whole/p30.py): the cases of the law -/
set_option maxRecDepth 100000 in
set_option maxHeartbeats 4000000 in
theorem law_case_0 {p : Program} {l : Launch} {e : Env} {s : State} {m : MethodId} {below : List Frame} {meth : Method} {c : Code} {g : pq_G} {b L : Nat} {xs : Nat → Int32} {cells slots : Nat} {h : pq_H} {i : Int32} {v5 v6 : Option Value} (hl : l.stackTraces = false) (C : lw_C p s m meth c g b L xs) (hR : pq_R h) (hRC : cells + 3 ≤ room_1.cells) (hRS : slots + 18 ≤ room_1.slots) (hi1 : vp_in (i + 1) L) (hi2 : vp_in (i + 2) L) (tail : lw_T p l e s m below meth c g b cells slots i) : VV p l e room_1 s m #[Value.ref b] below meth c (lw_Z below #[Value.ref b] s) g cells slots h 112 (lw_vs b g i v5 v6) [] := by
  obtain ⟨W, n, w, nm, pr, bs, best, ask, sp, sc, c9, kp, tm, dy, hc, hm⟩ := hR
  have cx := C.1
  have hX := C.2.1
  have hN := C.2.2.1
  obtain ⟨x, hx1⟩ : ∃ x, xs (i + 1).toNatClampNeg = x := ⟨_, rfl⟩
  obtain ⟨y, hx2⟩ : ∃ y, xs (i + 2).toNatClampNeg = y := ⟨_, rfl⟩
  refine vv_aload_n cx dL_law_112 rfl rfl (pc' := 113) rfl ?_
  refine vv_aload_n cx dL_law_113 rfl rfl (pc' := 114) rfl ?_
  refine vv_iload cx dL_law_114 rfl (pc' := 116) rfl ?_
  refine vv_iconst cx dL_law_116 (v := 1) (by decide) (pc' := 117) rfl ?_
  refine vv_iadd cx dL_law_117 (pc' := 118) rfl ?_
  refine vv_sld C hi1 hx1 dL_law_118 (pc' := 119) rfl ?_
  refine cc_H (n := 2) cx hX hN (tL_sheet l g h x (tP_sheet l hl g h x ) (fun E h9 q => q.1)) ww_215 ww_0 ww_214 (by decide +kernel) ww_213 rfl rfl ⟨Nat.le_of_ble_eq_true rfl, Nat.le_of_ble_eq_true rfl⟩ rfl rfl (Nat.le_of_ble_eq_true rfl) rfl ⟨by omega, by omega⟩ dL_law_119 (pc' := 122) rfl (fun k9 h1 q1 => ?_)
  obtain ⟨hm1, hop⟩ := op_sheet x hc hm q1
  refine vv_istore cx dL_law_122 (Nat.le_of_ble_eq_true rfl) (pc' := 124) rfl ?_
  refine vv_aload_n cx dL_law_124 rfl rfl (pc' := 125) rfl ?_
  refine vv_aload_n cx dL_law_125 rfl rfl (pc' := 126) rfl ?_
  refine vv_iload cx dL_law_126 rfl (pc' := 128) rfl ?_
  refine vv_iconst cx dL_law_128 (v := 1) (by decide) (pc' := 129) rfl ?_
  refine vv_iadd cx dL_law_129 (pc' := 130) rfl ?_
  refine vv_sld C hi1 hx1 dL_law_130 (pc' := 131) rfl ?_
  refine cc_Vv cx hX (tM_sheet l g h1 x ) kM_sheet ww_604 rfl rfl ⟨Nat.le_of_ble_eq_true rfl, Nat.le_of_ble_eq_true rfl⟩ 116 (by decide) sh_116 rfl rfl rfl rfl (Nat.le_of_ble_eq_true rfl) rfl ⟨by omega, by omega⟩ dL_law_131 (pc' := 134) rfl (fun _ _ q => q.elim) (fun h2 q2 => ?_)
  have hgo := hop h2 q2
  refine vv_aload_n cx dL_law_134 rfl rfl (pc' := 135) rfl ?_
  refine cc_Vi cx hX (tM_thrown l g h2) kM_thrown ww_600 rfl rfl ⟨Nat.le_of_ble_eq_true rfl, Nat.le_of_ble_eq_true rfl⟩ 116 (by decide) sh_116 rfl rfl rfl rfl (Nat.le_of_ble_eq_true rfl) rfl ⟨by omega, by omega⟩ dL_law_135 (pc' := 138) rfl (fun _ _ q => q.elim) (fun t9 h3 q3 => ?_)
  obtain ⟨rfl, rfl⟩ := q3
  refine vv_iload cx dL_law_138 rfl (pc' := 140) rfl ?_
  refine vv_icmp_eq cx dL_law_140 (tgt := 145) (by decide) (pc' := 143) rfl (fun _ => ?_) (fun z => absurd hgo.1 z)
  refine vv_goto cx dL_law_145 (tgt := 866) (by decide) ?_
  exact tail _ _ _ _ _ hgo.2 (by omega) (by omega)
set_option maxRecDepth 100000 in
set_option maxHeartbeats 4000000 in
theorem law_case_1 {p : Program} {l : Launch} {e : Env} {s : State} {m : MethodId} {below : List Frame} {meth : Method} {c : Code} {g : pq_G} {b L : Nat} {xs : Nat → Int32} {cells slots : Nat} {h : pq_H} {i : Int32} {v5 v6 : Option Value} (hl : l.stackTraces = false) (C : lw_C p s m meth c g b L xs) (hR : pq_R h) (hRC : cells + 3 ≤ room_1.cells) (hRS : slots + 18 ≤ room_1.slots) (hi1 : vp_in (i + 1) L) (hi2 : vp_in (i + 2) L) (tail : lw_T p l e s m below meth c g b cells slots i) : VV p l e room_1 s m #[Value.ref b] below meth c (lw_Z below #[Value.ref b] s) g cells slots h 148 (lw_vs b g i v5 v6) [] := by
  obtain ⟨W, n, w, nm, pr, bs, best, ask, sp, sc, c9, kp, tm, dy, hc, hm⟩ := hR
  have cx := C.1
  have hX := C.2.1
  have hN := C.2.2.1
  obtain ⟨x, hx1⟩ : ∃ x, xs (i + 1).toNatClampNeg = x := ⟨_, rfl⟩
  obtain ⟨y, hx2⟩ : ∃ y, xs (i + 2).toNatClampNeg = y := ⟨_, rfl⟩
  refine vv_aload_n cx dL_law_148 rfl rfl (pc' := 149) rfl ?_
  refine vv_aload_n cx dL_law_149 rfl rfl (pc' := 150) rfl ?_
  refine vv_iload cx dL_law_150 rfl (pc' := 152) rfl ?_
  refine vv_iconst cx dL_law_152 (v := 1) (by decide) (pc' := 153) rfl ?_
  refine vv_iadd cx dL_law_153 (pc' := 154) rfl ?_
  refine vv_sld C hi1 hx1 dL_law_154 (pc' := 155) rfl ?_
  refine vv_aload_n cx dL_law_155 rfl rfl (pc' := 156) rfl ?_
  refine vv_iload cx dL_law_156 rfl (pc' := 158) rfl ?_
  refine vv_iconst cx dL_law_158 (v := 2) (by decide) (pc' := 159) rfl ?_
  refine vv_iadd cx dL_law_159 (pc' := 160) rfl ?_
  refine vv_sld C hi2 hx2 dL_law_160 (pc' := 161) rfl ?_
  refine vv_aload_n cx dL_law_161 rfl rfl (pc' := 162) rfl ?_
  refine cc_H (n := 4) cx hX hN (tL_order l g h x y (tP_order l hl g h x y hc.1) (fun E h9 q => q.2.elim (fun z => Or.inl z.1) (fun z => Or.inr z.1))) ww_304 ww_0 ww_303 (by decide +kernel) ww_302 rfl rfl ⟨Nat.le_of_ble_eq_true rfl, Nat.le_of_ble_eq_true rfl⟩ rfl rfl (Nat.le_of_ble_eq_true rfl) rfl ⟨by omega, by omega⟩ dL_law_162 (pc' := 165) rfl (fun k9 h1 q1 => ?_)
  obtain ⟨hm1, hop⟩ := op_order x y hc hm q1
  refine vv_istore cx dL_law_165 (Nat.le_of_ble_eq_true rfl) (pc' := 167) rfl ?_
  refine vv_aload_n cx dL_law_167 rfl rfl (pc' := 168) rfl ?_
  refine vv_aload_n cx dL_law_168 rfl rfl (pc' := 169) rfl ?_
  refine vv_iload cx dL_law_169 rfl (pc' := 171) rfl ?_
  refine vv_iconst cx dL_law_171 (v := 1) (by decide) (pc' := 172) rfl ?_
  refine vv_iadd cx dL_law_172 (pc' := 173) rfl ?_
  refine vv_sld C hi1 hx1 dL_law_173 (pc' := 174) rfl ?_
  refine vv_aload_n cx dL_law_174 rfl rfl (pc' := 175) rfl ?_
  refine vv_iload cx dL_law_175 rfl (pc' := 177) rfl ?_
  refine vv_iconst cx dL_law_177 (v := 2) (by decide) (pc' := 178) rfl ?_
  refine vv_iadd cx dL_law_178 (pc' := 179) rfl ?_
  refine vv_sld C hi2 hx2 dL_law_179 (pc' := 180) rfl ?_
  refine cc_Vi cx hX (tM_order l g h1 x y hm1.1) kM_order ww_619 rfl rfl ⟨Nat.le_of_ble_eq_true rfl, Nat.le_of_ble_eq_true rfl⟩ 116 (by decide) sh_116 rfl rfl rfl rfl (Nat.le_of_ble_eq_true rfl) rfl ⟨by omega, by omega⟩ dL_law_180 (pc' := 183) rfl (fun _ _ q => q.elim) (fun r h2 q2 => ?_)
  have hgo := hop r h2 q2
  refine vv_istore cx dL_law_183 (Nat.le_of_ble_eq_true rfl) (pc' := 185) rfl ?_
  refine vv_aload_n cx dL_law_185 rfl rfl (pc' := 186) rfl ?_
  refine cc_Vi cx hX (tM_thrown l g h2) kM_thrown ww_600 rfl rfl ⟨Nat.le_of_ble_eq_true rfl, Nat.le_of_ble_eq_true rfl⟩ 116 (by decide) sh_116 rfl rfl rfl rfl (Nat.le_of_ble_eq_true rfl) rfl ⟨by omega, by omega⟩ dL_law_186 (pc' := 189) rfl (fun _ _ q => q.elim) (fun t9 h3 q3 => ?_)
  obtain ⟨rfl, rfl⟩ := q3
  refine vv_iload cx dL_law_189 rfl (pc' := 191) rfl ?_
  refine vv_icmp_eq cx dL_law_191 (tgt := 196) (by decide) (pc' := 194) rfl (fun _ => ?_) (fun z => absurd hgo.1 z)
  refine vv_iload cx dL_law_196 rfl (pc' := 198) rfl ?_
  refine vv_if_ne cx dL_law_198 (tgt := 213) (by decide) (pc' := 201) rfl (fun _ => ?_) (fun z9 => ?_)
  · refine vv_goto cx dL_law_213 (tgt := 866) (by decide) ?_
    exact tail _ _ _ _ _ hgo.2.2 (by omega) (by omega)
  refine vv_aload_n cx dL_law_201 rfl rfl (pc' := 202) rfl ?_
  refine vv_iconst cx dL_law_202 (v := 0) (by decide) (pc' := 203) rfl ?_
  refine vv_lald cx dL_law_203 (pc' := 204) rfl ?_
  refine vv_iload cx dL_law_204 rfl (pc' := 206) rfl ?_
  refine vv_i2l cx dL_law_206 (pc' := 207) rfl ?_
  refine vv_lcmp cx dL_law_207 (pc' := 208) rfl ?_
  refine vv_if_eq cx dL_law_208 (tgt := 213) (by decide) (pc' := 211) rfl (fun _ => ?_) (fun z => absurd (lw_cmp0 (hgo.2.1 z9)) z)
  refine vv_goto cx dL_law_213 (tgt := 866) (by decide) ?_
  exact tail _ _ _ _ _ hgo.2.2 (by omega) (by omega)
set_option maxRecDepth 100000 in
set_option maxHeartbeats 4000000 in
theorem law_case_2 {p : Program} {l : Launch} {e : Env} {s : State} {m : MethodId} {below : List Frame} {meth : Method} {c : Code} {g : pq_G} {b L : Nat} {xs : Nat → Int32} {cells slots : Nat} {h : pq_H} {i : Int32} {v5 v6 : Option Value} (hl : l.stackTraces = false) (C : lw_C p s m meth c g b L xs) (hR : pq_R h) (hRC : cells + 3 ≤ room_1.cells) (hRS : slots + 18 ≤ room_1.slots) (hi1 : vp_in (i + 1) L) (hi2 : vp_in (i + 2) L) (tail : lw_T p l e s m below meth c g b cells slots i) : VV p l e room_1 s m #[Value.ref b] below meth c (lw_Z below #[Value.ref b] s) g cells slots h 216 (lw_vs b g i v5 v6) [] := by
  obtain ⟨W, n, w, nm, pr, bs, best, ask, sp, sc, c9, kp, tm, dy, hc, hm⟩ := hR
  have cx := C.1
  have hX := C.2.1
  have hN := C.2.2.1
  obtain ⟨x, hx1⟩ : ∃ x, xs (i + 1).toNatClampNeg = x := ⟨_, rfl⟩
  obtain ⟨y, hx2⟩ : ∃ y, xs (i + 2).toNatClampNeg = y := ⟨_, rfl⟩
  refine vv_aload_n cx dL_law_216 rfl rfl (pc' := 217) rfl ?_
  refine vv_aload_n cx dL_law_217 rfl rfl (pc' := 218) rfl ?_
  refine vv_iload cx dL_law_218 rfl (pc' := 220) rfl ?_
  refine vv_iconst cx dL_law_220 (v := 1) (by decide) (pc' := 221) rfl ?_
  refine vv_iadd cx dL_law_221 (pc' := 222) rfl ?_
  refine vv_sld C hi1 hx1 dL_law_222 (pc' := 223) rfl ?_
  refine vv_aload_n cx dL_law_223 rfl rfl (pc' := 224) rfl ?_
  refine vv_iload cx dL_law_224 rfl (pc' := 226) rfl ?_
  refine vv_iconst cx dL_law_226 (v := 2) (by decide) (pc' := 227) rfl ?_
  refine vv_iadd cx dL_law_227 (pc' := 228) rfl ?_
  refine vv_sld C hi2 hx2 dL_law_228 (pc' := 229) rfl ?_
  refine cc_H (n := 3) cx hX hN (tL_pieces l g h x y (tP_pieces l hl g h x y hc.1) (fun E h9 q => q.2.elim (fun z => Or.inl z.1) (fun z => Or.inr z.1))) ww_334 ww_0 ww_333 (by decide +kernel) ww_332 rfl rfl ⟨Nat.le_of_ble_eq_true rfl, Nat.le_of_ble_eq_true rfl⟩ rfl rfl (Nat.le_of_ble_eq_true rfl) rfl ⟨by omega, by omega⟩ dL_law_229 (pc' := 232) rfl (fun k9 h1 q1 => ?_)
  obtain ⟨hm1, hop⟩ := op_pieces x y hc hm q1
  refine vv_istore cx dL_law_232 (Nat.le_of_ble_eq_true rfl) (pc' := 234) rfl ?_
  refine vv_aload_n cx dL_law_234 rfl rfl (pc' := 235) rfl ?_
  refine vv_aload_n cx dL_law_235 rfl rfl (pc' := 236) rfl ?_
  refine vv_iload cx dL_law_236 rfl (pc' := 238) rfl ?_
  refine vv_iconst cx dL_law_238 (v := 1) (by decide) (pc' := 239) rfl ?_
  refine vv_iadd cx dL_law_239 (pc' := 240) rfl ?_
  refine vv_sld C hi1 hx1 dL_law_240 (pc' := 241) rfl ?_
  refine vv_aload_n cx dL_law_241 rfl rfl (pc' := 242) rfl ?_
  refine vv_iload cx dL_law_242 rfl (pc' := 244) rfl ?_
  refine vv_iconst cx dL_law_244 (v := 2) (by decide) (pc' := 245) rfl ?_
  refine vv_iadd cx dL_law_245 (pc' := 246) rfl ?_
  refine vv_sld C hi2 hx2 dL_law_246 (pc' := 247) rfl ?_
  refine cc_Vv cx hX (tM_pieces l g h1 x y hm1.1) kM_pieces ww_623 rfl rfl ⟨Nat.le_of_ble_eq_true rfl, Nat.le_of_ble_eq_true rfl⟩ 116 (by decide) sh_116 rfl rfl rfl rfl (Nat.le_of_ble_eq_true rfl) rfl ⟨by omega, by omega⟩ dL_law_247 (pc' := 250) rfl (fun _ _ q => q.elim) (fun h2 q2 => ?_)
  have hgo := hop h2 q2
  refine vv_aload_n cx dL_law_250 rfl rfl (pc' := 251) rfl ?_
  refine cc_Vi cx hX (tM_thrown l g h2) kM_thrown ww_600 rfl rfl ⟨Nat.le_of_ble_eq_true rfl, Nat.le_of_ble_eq_true rfl⟩ 116 (by decide) sh_116 rfl rfl rfl rfl (Nat.le_of_ble_eq_true rfl) rfl ⟨by omega, by omega⟩ dL_law_251 (pc' := 254) rfl (fun _ _ q => q.elim) (fun t9 h3 q3 => ?_)
  obtain ⟨rfl, rfl⟩ := q3
  refine vv_iload cx dL_law_254 rfl (pc' := 256) rfl ?_
  refine vv_icmp_eq cx dL_law_256 (tgt := 261) (by decide) (pc' := 259) rfl (fun _ => ?_) (fun z => absurd hgo.1 z)
  refine vv_goto cx dL_law_261 (tgt := 866) (by decide) ?_
  exact tail _ _ _ _ _ hgo.2 (by omega) (by omega)
set_option maxRecDepth 100000 in
set_option maxHeartbeats 4000000 in
theorem law_case_3 {p : Program} {l : Launch} {e : Env} {s : State} {m : MethodId} {below : List Frame} {meth : Method} {c : Code} {g : pq_G} {b L : Nat} {xs : Nat → Int32} {cells slots : Nat} {h : pq_H} {i : Int32} {v5 v6 : Option Value} (hl : l.stackTraces = false) (C : lw_C p s m meth c g b L xs) (hR : pq_R h) (hRC : cells + 3 ≤ room_1.cells) (hRS : slots + 18 ≤ room_1.slots) (hi1 : vp_in (i + 1) L) (hi2 : vp_in (i + 2) L) (tail : lw_T p l e s m below meth c g b cells slots i) : VV p l e room_1 s m #[Value.ref b] below meth c (lw_Z below #[Value.ref b] s) g cells slots h 264 (lw_vs b g i v5 v6) [] := by
  obtain ⟨W, n, w, nm, pr, bs, best, ask, sp, sc, c9, kp, tm, dy, hc, hm⟩ := hR
  have cx := C.1
  have hX := C.2.1
  have hN := C.2.2.1
  obtain ⟨x, hx1⟩ : ∃ x, xs (i + 1).toNatClampNeg = x := ⟨_, rfl⟩
  obtain ⟨y, hx2⟩ : ∃ y, xs (i + 2).toNatClampNeg = y := ⟨_, rfl⟩
  refine vv_aload_n cx dL_law_264 rfl rfl (pc' := 265) rfl ?_
  refine vv_aload_n cx dL_law_265 rfl rfl (pc' := 266) rfl ?_
  refine vv_iload cx dL_law_266 rfl (pc' := 268) rfl ?_
  refine vv_iconst cx dL_law_268 (v := 1) (by decide) (pc' := 269) rfl ?_
  refine vv_iadd cx dL_law_269 (pc' := 270) rfl ?_
  refine vv_sld C hi1 hx1 dL_law_270 (pc' := 271) rfl ?_
  refine vv_aload_n cx dL_law_271 rfl rfl (pc' := 272) rfl ?_
  refine vv_iload cx dL_law_272 rfl (pc' := 274) rfl ?_
  refine vv_iconst cx dL_law_274 (v := 2) (by decide) (pc' := 275) rfl ?_
  refine vv_iadd cx dL_law_275 (pc' := 276) rfl ?_
  refine vv_sld C hi2 hx2 dL_law_276 (pc' := 277) rfl ?_
  refine cc_H (n := 3) cx hX hN (tL_price l g h x y (tP_price l hl g h x y hc.1) (fun E h9 q => q.2.elim (fun z => Or.inl z.1) (fun z => Or.inr z.1))) ww_362 ww_0 ww_361 (by decide +kernel) ww_360 rfl rfl ⟨Nat.le_of_ble_eq_true rfl, Nat.le_of_ble_eq_true rfl⟩ rfl rfl (Nat.le_of_ble_eq_true rfl) rfl ⟨by omega, by omega⟩ dL_law_277 (pc' := 280) rfl (fun k9 h1 q1 => ?_)
  obtain ⟨hm1, hop⟩ := op_price x y hc hm q1
  refine vv_istore cx dL_law_280 (Nat.le_of_ble_eq_true rfl) (pc' := 282) rfl ?_
  refine vv_aload_n cx dL_law_282 rfl rfl (pc' := 283) rfl ?_
  refine vv_aload_n cx dL_law_283 rfl rfl (pc' := 284) rfl ?_
  refine vv_iload cx dL_law_284 rfl (pc' := 286) rfl ?_
  refine vv_iconst cx dL_law_286 (v := 1) (by decide) (pc' := 287) rfl ?_
  refine vv_iadd cx dL_law_287 (pc' := 288) rfl ?_
  refine vv_sld C hi1 hx1 dL_law_288 (pc' := 289) rfl ?_
  refine vv_aload_n cx dL_law_289 rfl rfl (pc' := 290) rfl ?_
  refine vv_iload cx dL_law_290 rfl (pc' := 292) rfl ?_
  refine vv_iconst cx dL_law_292 (v := 2) (by decide) (pc' := 293) rfl ?_
  refine vv_iadd cx dL_law_293 (pc' := 294) rfl ?_
  refine vv_sld C hi2 hx2 dL_law_294 (pc' := 295) rfl ?_
  refine cc_Vv cx hX (tM_price l g h1 x y hm1.1) kM_price ww_631 rfl rfl ⟨Nat.le_of_ble_eq_true rfl, Nat.le_of_ble_eq_true rfl⟩ 116 (by decide) sh_116 rfl rfl rfl rfl (Nat.le_of_ble_eq_true rfl) rfl ⟨by omega, by omega⟩ dL_law_295 (pc' := 298) rfl (fun _ _ q => q.elim) (fun h2 q2 => ?_)
  have hgo := hop h2 q2
  refine vv_aload_n cx dL_law_298 rfl rfl (pc' := 299) rfl ?_
  refine cc_Vi cx hX (tM_thrown l g h2) kM_thrown ww_600 rfl rfl ⟨Nat.le_of_ble_eq_true rfl, Nat.le_of_ble_eq_true rfl⟩ 116 (by decide) sh_116 rfl rfl rfl rfl (Nat.le_of_ble_eq_true rfl) rfl ⟨by omega, by omega⟩ dL_law_299 (pc' := 302) rfl (fun _ _ q => q.elim) (fun t9 h3 q3 => ?_)
  obtain ⟨rfl, rfl⟩ := q3
  refine vv_iload cx dL_law_302 rfl (pc' := 304) rfl ?_
  refine vv_icmp_eq cx dL_law_304 (tgt := 309) (by decide) (pc' := 307) rfl (fun _ => ?_) (fun z => absurd hgo.1 z)
  refine vv_goto cx dL_law_309 (tgt := 866) (by decide) ?_
  exact tail _ _ _ _ _ hgo.2 (by omega) (by omega)
set_option maxRecDepth 100000 in
set_option maxHeartbeats 4000000 in
theorem law_case_4 {p : Program} {l : Launch} {e : Env} {s : State} {m : MethodId} {below : List Frame} {meth : Method} {c : Code} {g : pq_G} {b L : Nat} {xs : Nat → Int32} {cells slots : Nat} {h : pq_H} {i : Int32} {v5 v6 : Option Value} (hl : l.stackTraces = false) (C : lw_C p s m meth c g b L xs) (hR : pq_R h) (hRC : cells + 3 ≤ room_1.cells) (hRS : slots + 18 ≤ room_1.slots) (hi1 : vp_in (i + 1) L) (hi2 : vp_in (i + 2) L) (tail : lw_T p l e s m below meth c g b cells slots i) : VV p l e room_1 s m #[Value.ref b] below meth c (lw_Z below #[Value.ref b] s) g cells slots h 312 (lw_vs b g i v5 v6) [] := by
  obtain ⟨W, n, w, nm, pr, bs, best, ask, sp, sc, c9, kp, tm, dy, hc, hm⟩ := hR
  have cx := C.1
  have hX := C.2.1
  have hN := C.2.2.1
  obtain ⟨x, hx1⟩ : ∃ x, xs (i + 1).toNatClampNeg = x := ⟨_, rfl⟩
  obtain ⟨y, hx2⟩ : ∃ y, xs (i + 2).toNatClampNeg = y := ⟨_, rfl⟩
  refine vv_aload_n cx dL_law_312 rfl rfl (pc' := 313) rfl ?_
  refine cc_Vi cx hX (tP_column l g h hc.1 hc.2.1) kP_column ww_155 rfl rfl ⟨Nat.le_of_ble_eq_true rfl, Nat.le_of_ble_eq_true rfl⟩ 0 (by decide) sh_0 rfl rfl rfl rfl (Nat.le_of_ble_eq_true rfl) rfl ⟨by omega, by omega⟩ dL_law_313 (pc' := 316) rfl (fun _ _ q => q.elim) (fun k9 h1 q1 => ?_)
  obtain ⟨hm1, hop⟩ := op_column hc hm q1
  refine vv_aload_n cx dL_law_316 rfl rfl (pc' := 317) rfl ?_
  refine cc_Vi cx hX (tM_column l g h1  hm1.1) kM_column ww_635 rfl rfl ⟨Nat.le_of_ble_eq_true rfl, Nat.le_of_ble_eq_true rfl⟩ 116 (by decide) sh_116 rfl rfl rfl rfl (Nat.le_of_ble_eq_true rfl) rfl ⟨by omega, by omega⟩ dL_law_317 (pc' := 320) rfl (fun _ _ q => q.elim) (fun r h2 q2 => ?_)
  have hgo := hop r h2 q2
  refine vv_icmp_eq cx dL_law_320 (tgt := 866) (by decide) (pc' := 323) rfl (fun _ => ?_) (fun z => absurd hgo.1 z)
  exact tail _ _ _ _ _ hgo.2 (by omega) (by omega)
set_option maxRecDepth 100000 in
set_option maxHeartbeats 4000000 in
theorem law_case_5 {p : Program} {l : Launch} {e : Env} {s : State} {m : MethodId} {below : List Frame} {meth : Method} {c : Code} {g : pq_G} {b L : Nat} {xs : Nat → Int32} {cells slots : Nat} {h : pq_H} {i : Int32} {v5 v6 : Option Value} (hl : l.stackTraces = false) (C : lw_C p s m meth c g b L xs) (hR : pq_R h) (hRC : cells + 3 ≤ room_1.cells) (hRS : slots + 18 ≤ room_1.slots) (hi1 : vp_in (i + 1) L) (hi2 : vp_in (i + 2) L) (tail : lw_T p l e s m below meth c g b cells slots i) : VV p l e room_1 s m #[Value.ref b] below meth c (lw_Z below #[Value.ref b] s) g cells slots h 325 (lw_vs b g i v5 v6) [] := by
  obtain ⟨W, n, w, nm, pr, bs, best, ask, sp, sc, c9, kp, tm, dy, hc, hm⟩ := hR
  have cx := C.1
  have hX := C.2.1
  have hN := C.2.2.1
  obtain ⟨x, hx1⟩ : ∃ x, xs (i + 1).toNatClampNeg = x := ⟨_, rfl⟩
  obtain ⟨y, hx2⟩ : ∃ y, xs (i + 2).toNatClampNeg = y := ⟨_, rfl⟩
  refine vv_aload_n cx dL_law_325 rfl rfl (pc' := 326) rfl ?_
  refine vv_aload_n cx dL_law_326 rfl rfl (pc' := 327) rfl ?_
  refine vv_iload cx dL_law_327 rfl (pc' := 329) rfl ?_
  refine vv_iconst cx dL_law_329 (v := 1) (by decide) (pc' := 330) rfl ?_
  refine vv_iadd cx dL_law_330 (pc' := 331) rfl ?_
  refine vv_sld C hi1 hx1 dL_law_331 (pc' := 332) rfl ?_
  refine vv_aload_n cx dL_law_332 rfl rfl (pc' := 333) rfl ?_
  refine cc_H (n := 3) cx hX hN (tL_columnOf l g h x (tP_columnOf l hl g h x hc.1 hc.2.1) (fun E h9 q => q.1)) ww_370 ww_0 ww_369 (by decide +kernel) ww_368 rfl rfl ⟨Nat.le_of_ble_eq_true rfl, Nat.le_of_ble_eq_true rfl⟩ rfl rfl (Nat.le_of_ble_eq_true rfl) rfl ⟨by omega, by omega⟩ dL_law_333 (pc' := 336) rfl (fun k9 h1 q1 => ?_)
  obtain ⟨hm1, hop⟩ := op_columnOf x hc hm q1
  refine vv_istore cx dL_law_336 (Nat.le_of_ble_eq_true rfl) (pc' := 338) rfl ?_
  refine vv_aload_n cx dL_law_338 rfl rfl (pc' := 339) rfl ?_
  refine vv_aload_n cx dL_law_339 rfl rfl (pc' := 340) rfl ?_
  refine vv_iload cx dL_law_340 rfl (pc' := 342) rfl ?_
  refine vv_iconst cx dL_law_342 (v := 1) (by decide) (pc' := 343) rfl ?_
  refine vv_iadd cx dL_law_343 (pc' := 344) rfl ?_
  refine vv_sld C hi1 hx1 dL_law_344 (pc' := 345) rfl ?_
  refine cc_Vi cx hX (tM_columnOf l g h1 x hm1.1) kM_columnOf ww_659 rfl rfl ⟨Nat.le_of_ble_eq_true rfl, Nat.le_of_ble_eq_true rfl⟩ 116 (by decide) sh_116 rfl rfl rfl rfl (Nat.le_of_ble_eq_true rfl) rfl ⟨by omega, by omega⟩ dL_law_345 (pc' := 348) rfl (fun _ _ q => q.elim) (fun r h2 q2 => ?_)
  have hgo := hop r h2 q2
  refine vv_istore cx dL_law_348 (Nat.le_of_ble_eq_true rfl) (pc' := 350) rfl ?_
  refine vv_aload_n cx dL_law_350 rfl rfl (pc' := 351) rfl ?_
  refine cc_Vi cx hX (tM_thrown l g h2) kM_thrown ww_600 rfl rfl ⟨Nat.le_of_ble_eq_true rfl, Nat.le_of_ble_eq_true rfl⟩ 116 (by decide) sh_116 rfl rfl rfl rfl (Nat.le_of_ble_eq_true rfl) rfl ⟨by omega, by omega⟩ dL_law_351 (pc' := 354) rfl (fun _ _ q => q.elim) (fun t9 h3 q3 => ?_)
  obtain ⟨rfl, rfl⟩ := q3
  refine vv_iload cx dL_law_354 rfl (pc' := 356) rfl ?_
  refine vv_icmp_eq cx dL_law_356 (tgt := 361) (by decide) (pc' := 359) rfl (fun _ => ?_) (fun z => absurd hgo.1 z)
  refine vv_iload cx dL_law_361 rfl (pc' := 363) rfl ?_
  refine vv_if_ne cx dL_law_363 (tgt := 378) (by decide) (pc' := 366) rfl (fun _ => ?_) (fun z9 => ?_)
  · refine vv_goto cx dL_law_378 (tgt := 866) (by decide) ?_
    exact tail _ _ _ _ _ hgo.2.2 (by omega) (by omega)
  refine vv_aload_n cx dL_law_366 rfl rfl (pc' := 367) rfl ?_
  refine vv_iconst cx dL_law_367 (v := 0) (by decide) (pc' := 368) rfl ?_
  refine vv_lald cx dL_law_368 (pc' := 369) rfl ?_
  refine vv_iload cx dL_law_369 rfl (pc' := 371) rfl ?_
  refine vv_i2l cx dL_law_371 (pc' := 372) rfl ?_
  refine vv_lcmp cx dL_law_372 (pc' := 373) rfl ?_
  refine vv_if_eq cx dL_law_373 (tgt := 378) (by decide) (pc' := 376) rfl (fun _ => ?_) (fun z => absurd (lw_cmp0 (hgo.2.1 z9)) z)
  refine vv_goto cx dL_law_378 (tgt := 866) (by decide) ?_
  exact tail _ _ _ _ _ hgo.2.2 (by omega) (by omega)
set_option maxRecDepth 100000 in
set_option maxHeartbeats 4000000 in
theorem law_case_6 {p : Program} {l : Launch} {e : Env} {s : State} {m : MethodId} {below : List Frame} {meth : Method} {c : Code} {g : pq_G} {b L : Nat} {xs : Nat → Int32} {cells slots : Nat} {h : pq_H} {i : Int32} {v5 v6 : Option Value} (hl : l.stackTraces = false) (C : lw_C p s m meth c g b L xs) (hR : pq_R h) (hRC : cells + 3 ≤ room_1.cells) (hRS : slots + 18 ≤ room_1.slots) (hi1 : vp_in (i + 1) L) (hi2 : vp_in (i + 2) L) (tail : lw_T p l e s m below meth c g b cells slots i) : VV p l e room_1 s m #[Value.ref b] below meth c (lw_Z below #[Value.ref b] s) g cells slots h 381 (lw_vs b g i v5 v6) [] := by
  obtain ⟨W, n, w, nm, pr, bs, best, ask, sp, sc, c9, kp, tm, dy, hc, hm⟩ := hR
  have cx := C.1
  have hX := C.2.1
  have hN := C.2.2.1
  obtain ⟨x, hx1⟩ : ∃ x, xs (i + 1).toNatClampNeg = x := ⟨_, rfl⟩
  obtain ⟨y, hx2⟩ : ∃ y, xs (i + 2).toNatClampNeg = y := ⟨_, rfl⟩
  refine vv_aload_n cx dL_law_381 rfl rfl (pc' := 382) rfl ?_
  refine cc_Vi cx hX (tP_bound l g h hc.1 hc.2.1) kP_bound ww_197 rfl rfl ⟨Nat.le_of_ble_eq_true rfl, Nat.le_of_ble_eq_true rfl⟩ 0 (by decide) sh_0 rfl rfl rfl rfl (Nat.le_of_ble_eq_true rfl) rfl ⟨by omega, by omega⟩ dL_law_382 (pc' := 385) rfl (fun _ _ q => q.elim) (fun k9 h1 q1 => ?_)
  obtain ⟨hm1, hop⟩ := op_bound hc hm q1
  refine vv_aload_n cx dL_law_385 rfl rfl (pc' := 386) rfl ?_
  refine cc_Vi cx hX (tM_bound l g h1  hm1.1) kM_bound ww_663 rfl rfl ⟨Nat.le_of_ble_eq_true rfl, Nat.le_of_ble_eq_true rfl⟩ 116 (by decide) sh_116 rfl rfl rfl rfl (Nat.le_of_ble_eq_true rfl) rfl ⟨by omega, by omega⟩ dL_law_386 (pc' := 389) rfl (fun _ _ q => q.elim) (fun r h2 q2 => ?_)
  have hgo := hop r h2 q2
  refine vv_icmp_eq cx dL_law_389 (tgt := 866) (by decide) (pc' := 392) rfl (fun _ => ?_) (fun z => absurd hgo.1 z)
  exact tail _ _ _ _ _ hgo.2 (by omega) (by omega)
set_option maxRecDepth 100000 in
set_option maxHeartbeats 4000000 in
theorem law_case_7 {p : Program} {l : Launch} {e : Env} {s : State} {m : MethodId} {below : List Frame} {meth : Method} {c : Code} {g : pq_G} {b L : Nat} {xs : Nat → Int32} {cells slots : Nat} {h : pq_H} {i : Int32} {v5 v6 : Option Value} (hl : l.stackTraces = false) (C : lw_C p s m meth c g b L xs) (hR : pq_R h) (hRC : cells + 3 ≤ room_1.cells) (hRS : slots + 18 ≤ room_1.slots) (hi1 : vp_in (i + 1) L) (hi2 : vp_in (i + 2) L) (tail : lw_T p l e s m below meth c g b cells slots i) : VV p l e room_1 s m #[Value.ref b] below meth c (lw_Z below #[Value.ref b] s) g cells slots h 394 (lw_vs b g i v5 v6) [] := by
  obtain ⟨W, n, w, nm, pr, bs, best, ask, sp, sc, c9, kp, tm, dy, hc, hm⟩ := hR
  have cx := C.1
  have hX := C.2.1
  have hN := C.2.2.1
  obtain ⟨x, hx1⟩ : ∃ x, xs (i + 1).toNatClampNeg = x := ⟨_, rfl⟩
  obtain ⟨y, hx2⟩ : ∃ y, xs (i + 2).toNatClampNeg = y := ⟨_, rfl⟩
  refine vv_aload_n cx dL_law_394 rfl rfl (pc' := 395) rfl ?_
  refine vv_aload_n cx dL_law_395 rfl rfl (pc' := 396) rfl ?_
  refine vv_iload cx dL_law_396 rfl (pc' := 398) rfl ?_
  refine vv_iconst cx dL_law_398 (v := 1) (by decide) (pc' := 399) rfl ?_
  refine vv_iadd cx dL_law_399 (pc' := 400) rfl ?_
  refine vv_sld C hi1 hx1 dL_law_400 (pc' := 401) rfl ?_
  refine vv_aload_n cx dL_law_401 rfl rfl (pc' := 402) rfl ?_
  refine cc_H (n := 3) cx hX hN (tL_design l g h x (tP_design l hl g h x hc.1 hc.2.2.1) (fun E h9 q => q.2.elim (fun z => Or.inl z.1) (fun z => Or.inr z.1))) ww_381 ww_0 ww_380 (by decide +kernel) ww_379 rfl rfl ⟨Nat.le_of_ble_eq_true rfl, Nat.le_of_ble_eq_true rfl⟩ rfl rfl (Nat.le_of_ble_eq_true rfl) rfl ⟨by omega, by omega⟩ dL_law_402 (pc' := 405) rfl (fun k9 h1 q1 => ?_)
  obtain ⟨hm1, hop⟩ := op_design x hc hm q1
  refine vv_istore cx dL_law_405 (Nat.le_of_ble_eq_true rfl) (pc' := 407) rfl ?_
  refine vv_aload_n cx dL_law_407 rfl rfl (pc' := 408) rfl ?_
  refine vv_aload_n cx dL_law_408 rfl rfl (pc' := 409) rfl ?_
  refine vv_iload cx dL_law_409 rfl (pc' := 411) rfl ?_
  refine vv_iconst cx dL_law_411 (v := 1) (by decide) (pc' := 412) rfl ?_
  refine vv_iadd cx dL_law_412 (pc' := 413) rfl ?_
  refine vv_sld C hi1 hx1 dL_law_413 (pc' := 414) rfl ?_
  refine cc_Vi cx hX (tM_design l g h1 x hm1.1) kM_design ww_671 rfl rfl ⟨Nat.le_of_ble_eq_true rfl, Nat.le_of_ble_eq_true rfl⟩ 116 (by decide) sh_116 rfl rfl rfl rfl (Nat.le_of_ble_eq_true rfl) rfl ⟨by omega, by omega⟩ dL_law_414 (pc' := 417) rfl (fun _ _ q => q.elim) (fun r h2 q2 => ?_)
  have hgo := hop r h2 q2
  refine vv_istore cx dL_law_417 (Nat.le_of_ble_eq_true rfl) (pc' := 419) rfl ?_
  refine vv_aload_n cx dL_law_419 rfl rfl (pc' := 420) rfl ?_
  refine cc_Vi cx hX (tM_thrown l g h2) kM_thrown ww_600 rfl rfl ⟨Nat.le_of_ble_eq_true rfl, Nat.le_of_ble_eq_true rfl⟩ 116 (by decide) sh_116 rfl rfl rfl rfl (Nat.le_of_ble_eq_true rfl) rfl ⟨by omega, by omega⟩ dL_law_420 (pc' := 423) rfl (fun _ _ q => q.elim) (fun t9 h3 q3 => ?_)
  obtain ⟨rfl, rfl⟩ := q3
  refine vv_iload cx dL_law_423 rfl (pc' := 425) rfl ?_
  refine vv_icmp_eq cx dL_law_425 (tgt := 430) (by decide) (pc' := 428) rfl (fun _ => ?_) (fun z => absurd hgo.1 z)
  refine vv_iload cx dL_law_430 rfl (pc' := 432) rfl ?_
  refine vv_if_ne cx dL_law_432 (tgt := 447) (by decide) (pc' := 435) rfl (fun _ => ?_) (fun z9 => ?_)
  · refine vv_goto cx dL_law_447 (tgt := 866) (by decide) ?_
    exact tail _ _ _ _ _ hgo.2.2 (by omega) (by omega)
  refine vv_aload_n cx dL_law_435 rfl rfl (pc' := 436) rfl ?_
  refine vv_iconst cx dL_law_436 (v := 0) (by decide) (pc' := 437) rfl ?_
  refine vv_lald cx dL_law_437 (pc' := 438) rfl ?_
  refine vv_iload cx dL_law_438 rfl (pc' := 440) rfl ?_
  refine vv_i2l cx dL_law_440 (pc' := 441) rfl ?_
  refine vv_lcmp cx dL_law_441 (pc' := 442) rfl ?_
  refine vv_if_eq cx dL_law_442 (tgt := 447) (by decide) (pc' := 445) rfl (fun _ => ?_) (fun z => absurd (lw_cmp0 (hgo.2.1 z9)) z)
  refine vv_goto cx dL_law_447 (tgt := 866) (by decide) ?_
  exact tail _ _ _ _ _ hgo.2.2 (by omega) (by omega)
set_option maxRecDepth 100000 in
set_option maxHeartbeats 4000000 in
theorem law_case_8 {p : Program} {l : Launch} {e : Env} {s : State} {m : MethodId} {below : List Frame} {meth : Method} {c : Code} {g : pq_G} {b L : Nat} {xs : Nat → Int32} {cells slots : Nat} {h : pq_H} {i : Int32} {v5 v6 : Option Value} (hl : l.stackTraces = false) (C : lw_C p s m meth c g b L xs) (hR : pq_R h) (hRC : cells + 3 ≤ room_1.cells) (hRS : slots + 18 ≤ room_1.slots) (hi1 : vp_in (i + 1) L) (hi2 : vp_in (i + 2) L) (tail : lw_T p l e s m below meth c g b cells slots i) : VV p l e room_1 s m #[Value.ref b] below meth c (lw_Z below #[Value.ref b] s) g cells slots h 450 (lw_vs b g i v5 v6) [] := by
  obtain ⟨W, n, w, nm, pr, bs, best, ask, sp, sc, c9, kp, tm, dy, hc, hm⟩ := hR
  have cx := C.1
  have hX := C.2.1
  have hN := C.2.2.1
  obtain ⟨x, hx1⟩ : ∃ x, xs (i + 1).toNatClampNeg = x := ⟨_, rfl⟩
  obtain ⟨y, hx2⟩ : ∃ y, xs (i + 2).toNatClampNeg = y := ⟨_, rfl⟩
  refine vv_aload_n cx dL_law_450 rfl rfl (pc' := 451) rfl ?_
  refine vv_aload_n cx dL_law_451 rfl rfl (pc' := 452) rfl ?_
  refine vv_iload cx dL_law_452 rfl (pc' := 454) rfl ?_
  refine vv_iconst cx dL_law_454 (v := 1) (by decide) (pc' := 455) rfl ?_
  refine vv_iadd cx dL_law_455 (pc' := 456) rfl ?_
  refine vv_sld C hi1 hx1 dL_law_456 (pc' := 457) rfl ?_
  refine vv_aload_n cx dL_law_457 rfl rfl (pc' := 458) rfl ?_
  refine cc_H (n := 3) cx hX hN (tL_designed l g h x (tP_designed l hl g h x ) (fun E h9 q => q.2.elim (fun z => Or.inl z.1) (fun z => Or.inr z.1))) ww_457 ww_0 ww_456 (by decide +kernel) ww_455 rfl rfl ⟨Nat.le_of_ble_eq_true rfl, Nat.le_of_ble_eq_true rfl⟩ rfl rfl (Nat.le_of_ble_eq_true rfl) rfl ⟨by omega, by omega⟩ dL_law_458 (pc' := 461) rfl (fun k9 h1 q1 => ?_)
  obtain ⟨hm1, hop⟩ := op_designed x hc hm q1
  refine vv_istore cx dL_law_461 (Nat.le_of_ble_eq_true rfl) (pc' := 463) rfl ?_
  refine vv_aload_n cx dL_law_463 rfl rfl (pc' := 464) rfl ?_
  refine vv_aload_n cx dL_law_464 rfl rfl (pc' := 465) rfl ?_
  refine vv_iload cx dL_law_465 rfl (pc' := 467) rfl ?_
  refine vv_iconst cx dL_law_467 (v := 1) (by decide) (pc' := 468) rfl ?_
  refine vv_iadd cx dL_law_468 (pc' := 469) rfl ?_
  refine vv_sld C hi1 hx1 dL_law_469 (pc' := 470) rfl ?_
  refine cc_Vi cx hX (tM_designed l g h1 x ) kM_designed ww_696 rfl rfl ⟨Nat.le_of_ble_eq_true rfl, Nat.le_of_ble_eq_true rfl⟩ 116 (by decide) sh_116 rfl rfl rfl rfl (Nat.le_of_ble_eq_true rfl) rfl ⟨by omega, by omega⟩ dL_law_470 (pc' := 473) rfl (fun _ _ q => q.elim) (fun r h2 q2 => ?_)
  have hgo := hop r h2 q2
  refine vv_istore cx dL_law_473 (Nat.le_of_ble_eq_true rfl) (pc' := 475) rfl ?_
  refine vv_aload_n cx dL_law_475 rfl rfl (pc' := 476) rfl ?_
  refine cc_Vi cx hX (tM_thrown l g h2) kM_thrown ww_600 rfl rfl ⟨Nat.le_of_ble_eq_true rfl, Nat.le_of_ble_eq_true rfl⟩ 116 (by decide) sh_116 rfl rfl rfl rfl (Nat.le_of_ble_eq_true rfl) rfl ⟨by omega, by omega⟩ dL_law_476 (pc' := 479) rfl (fun _ _ q => q.elim) (fun t9 h3 q3 => ?_)
  obtain ⟨rfl, rfl⟩ := q3
  refine vv_iload cx dL_law_479 rfl (pc' := 481) rfl ?_
  refine vv_icmp_eq cx dL_law_481 (tgt := 486) (by decide) (pc' := 484) rfl (fun _ => ?_) (fun z => absurd hgo.1 z)
  refine vv_iload cx dL_law_486 rfl (pc' := 488) rfl ?_
  refine vv_if_ne cx dL_law_488 (tgt := 503) (by decide) (pc' := 491) rfl (fun _ => ?_) (fun z9 => ?_)
  · refine vv_goto cx dL_law_503 (tgt := 866) (by decide) ?_
    exact tail _ _ _ _ _ hgo.2.2 (by omega) (by omega)
  refine vv_aload_n cx dL_law_491 rfl rfl (pc' := 492) rfl ?_
  refine vv_iconst cx dL_law_492 (v := 0) (by decide) (pc' := 493) rfl ?_
  refine vv_lald cx dL_law_493 (pc' := 494) rfl ?_
  refine vv_iload cx dL_law_494 rfl (pc' := 496) rfl ?_
  refine vv_i2l cx dL_law_496 (pc' := 497) rfl ?_
  refine vv_lcmp cx dL_law_497 (pc' := 498) rfl ?_
  refine vv_if_eq cx dL_law_498 (tgt := 503) (by decide) (pc' := 501) rfl (fun _ => ?_) (fun z => absurd (lw_cmp0 (hgo.2.1 z9)) z)
  refine vv_goto cx dL_law_503 (tgt := 866) (by decide) ?_
  exact tail _ _ _ _ _ hgo.2.2 (by omega) (by omega)
set_option maxRecDepth 100000 in
set_option maxHeartbeats 4000000 in
theorem law_case_9 {p : Program} {l : Launch} {e : Env} {s : State} {m : MethodId} {below : List Frame} {meth : Method} {c : Code} {g : pq_G} {b L : Nat} {xs : Nat → Int32} {cells slots : Nat} {h : pq_H} {i : Int32} {v5 v6 : Option Value} (hl : l.stackTraces = false) (C : lw_C p s m meth c g b L xs) (hR : pq_R h) (hRC : cells + 3 ≤ room_1.cells) (hRS : slots + 18 ≤ room_1.slots) (hi1 : vp_in (i + 1) L) (hi2 : vp_in (i + 2) L) (tail : lw_T p l e s m below meth c g b cells slots i) : VV p l e room_1 s m #[Value.ref b] below meth c (lw_Z below #[Value.ref b] s) g cells slots h 506 (lw_vs b g i v5 v6) [] := by
  obtain ⟨W, n, w, nm, pr, bs, best, ask, sp, sc, c9, kp, tm, dy, hc, hm⟩ := hR
  have cx := C.1
  have hX := C.2.1
  have hN := C.2.2.1
  obtain ⟨x, hx1⟩ : ∃ x, xs (i + 1).toNatClampNeg = x := ⟨_, rfl⟩
  obtain ⟨y, hx2⟩ : ∃ y, xs (i + 2).toNatClampNeg = y := ⟨_, rfl⟩
  refine vv_aload_n cx dL_law_506 rfl rfl (pc' := 507) rfl ?_
  refine vv_aload_n cx dL_law_507 rfl rfl (pc' := 508) rfl ?_
  refine cc_H (n := 2) cx hX hN (tL_gap l g h (tP_gap l hl g h  hc.1 hc.2.1) (fun E h9 q => q.1)) ww_466 ww_0 ww_465 (by decide +kernel) ww_464 rfl rfl ⟨Nat.le_of_ble_eq_true rfl, Nat.le_of_ble_eq_true rfl⟩ rfl rfl (Nat.le_of_ble_eq_true rfl) rfl ⟨by omega, by omega⟩ dL_law_508 (pc' := 511) rfl (fun k9 h1 q1 => ?_)
  obtain ⟨hm1, hop⟩ := op_gap hc hm q1
  refine vv_istore cx dL_law_511 (Nat.le_of_ble_eq_true rfl) (pc' := 513) rfl ?_
  refine vv_aload_n cx dL_law_513 rfl rfl (pc' := 514) rfl ?_
  refine cc_Vi cx hX (tM_gap l g h1 bs best  hm1.1 hm1.2.1) kM_gap ww_700 rfl rfl ⟨Nat.le_of_ble_eq_true rfl, Nat.le_of_ble_eq_true rfl⟩ 116 (by decide) sh_116 rfl rfl rfl rfl (Nat.le_of_ble_eq_true rfl) rfl ⟨by omega, by omega⟩ dL_law_514 (pc' := 517) rfl (fun _ _ q => q.elim) (fun r h2 q2 => ?_)
  have hgo := hop r h2 q2
  refine vv_istore cx dL_law_517 (Nat.le_of_ble_eq_true rfl) (pc' := 519) rfl ?_
  refine vv_aload_n cx dL_law_519 rfl rfl (pc' := 520) rfl ?_
  refine cc_Vi cx hX (tM_thrown l g h2) kM_thrown ww_600 rfl rfl ⟨Nat.le_of_ble_eq_true rfl, Nat.le_of_ble_eq_true rfl⟩ 116 (by decide) sh_116 rfl rfl rfl rfl (Nat.le_of_ble_eq_true rfl) rfl ⟨by omega, by omega⟩ dL_law_520 (pc' := 523) rfl (fun _ _ q => q.elim) (fun t9 h3 q3 => ?_)
  obtain ⟨rfl, rfl⟩ := q3
  refine vv_iload cx dL_law_523 rfl (pc' := 525) rfl ?_
  refine vv_icmp_eq cx dL_law_525 (tgt := 530) (by decide) (pc' := 528) rfl (fun _ => ?_) (fun z => absurd hgo.1 z)
  refine vv_iload cx dL_law_530 rfl (pc' := 532) rfl ?_
  refine vv_if_ne cx dL_law_532 (tgt := 547) (by decide) (pc' := 535) rfl (fun _ => ?_) (fun z9 => ?_)
  · refine vv_goto cx dL_law_547 (tgt := 866) (by decide) ?_
    exact tail _ _ _ _ _ hgo.2.2 (by omega) (by omega)
  refine vv_aload_n cx dL_law_535 rfl rfl (pc' := 536) rfl ?_
  refine vv_iconst cx dL_law_536 (v := 0) (by decide) (pc' := 537) rfl ?_
  refine vv_lald cx dL_law_537 (pc' := 538) rfl ?_
  refine vv_iload cx dL_law_538 rfl (pc' := 540) rfl ?_
  refine vv_i2l cx dL_law_540 (pc' := 541) rfl ?_
  refine vv_lcmp cx dL_law_541 (pc' := 542) rfl ?_
  refine vv_if_eq cx dL_law_542 (tgt := 547) (by decide) (pc' := 545) rfl (fun _ => ?_) (fun z => absurd (lw_cmp0 (hgo.2.1 z9)) z)
  refine vv_goto cx dL_law_547 (tgt := 866) (by decide) ?_
  exact tail _ _ _ _ _ hgo.2.2 (by omega) (by omega)
set_option maxRecDepth 100000 in
set_option maxHeartbeats 4000000 in
theorem law_case_10 {p : Program} {l : Launch} {e : Env} {s : State} {m : MethodId} {below : List Frame} {meth : Method} {c : Code} {g : pq_G} {b L : Nat} {xs : Nat → Int32} {cells slots : Nat} {h : pq_H} {i : Int32} {v5 v6 : Option Value} (hl : l.stackTraces = false) (C : lw_C p s m meth c g b L xs) (hR : pq_R h) (hRC : cells + 3 ≤ room_1.cells) (hRS : slots + 18 ≤ room_1.slots) (hi1 : vp_in (i + 1) L) (hi2 : vp_in (i + 2) L) (tail : lw_T p l e s m below meth c g b cells slots i) : VV p l e room_1 s m #[Value.ref b] below meth c (lw_Z below #[Value.ref b] s) g cells slots h 550 (lw_vs b g i v5 v6) [] := by
  obtain ⟨W, n, w, nm, pr, bs, best, ask, sp, sc, c9, kp, tm, dy, hc, hm⟩ := hR
  have cx := C.1
  have hX := C.2.1
  have hN := C.2.2.1
  obtain ⟨x, hx1⟩ : ∃ x, xs (i + 1).toNatClampNeg = x := ⟨_, rfl⟩
  obtain ⟨y, hx2⟩ : ∃ y, xs (i + 2).toNatClampNeg = y := ⟨_, rfl⟩
  refine vv_aload_n cx dL_law_550 rfl rfl (pc' := 551) rfl ?_
  refine vv_aload_n cx dL_law_551 rfl rfl (pc' := 552) rfl ?_
  refine vv_iload cx dL_law_552 rfl (pc' := 554) rfl ?_
  refine vv_iconst cx dL_law_554 (v := 1) (by decide) (pc' := 555) rfl ?_
  refine vv_iadd cx dL_law_555 (pc' := 556) rfl ?_
  refine vv_sld C hi1 hx1 dL_law_556 (pc' := 557) rfl ?_
  refine vv_aload_n cx dL_law_557 rfl rfl (pc' := 558) rfl ?_
  refine vv_iload cx dL_law_558 rfl (pc' := 560) rfl ?_
  refine vv_iconst cx dL_law_560 (v := 2) (by decide) (pc' := 561) rfl ?_
  refine vv_iadd cx dL_law_561 (pc' := 562) rfl ?_
  refine vv_sld C hi2 hx2 dL_law_562 (pc' := 563) rfl ?_
  refine vv_aload_n cx dL_law_563 rfl rfl (pc' := 564) rfl ?_
  refine cc_H (n := 4) cx hX hN (tL_cut l g h x y (tP_cut l hl g h bs best x y hc.1 hc.2.2.2.1) (fun E h9 q => q.2.elim (fun z => Or.inr z.1) (fun z => Or.inl z.1))) ww_483 ww_0 ww_482 (by decide +kernel) ww_481 rfl rfl ⟨Nat.le_of_ble_eq_true rfl, Nat.le_of_ble_eq_true rfl⟩ rfl rfl (Nat.le_of_ble_eq_true rfl) rfl ⟨by omega, by omega⟩ dL_law_564 (pc' := 567) rfl (fun k9 h1 q1 => ?_)
  obtain ⟨hm1, hop⟩ := op_cut x y hc hm q1
  refine vv_istore cx dL_law_567 (Nat.le_of_ble_eq_true rfl) (pc' := 569) rfl ?_
  refine vv_aload_n cx dL_law_569 rfl rfl (pc' := 570) rfl ?_
  refine vv_aload_n cx dL_law_570 rfl rfl (pc' := 571) rfl ?_
  refine vv_iload cx dL_law_571 rfl (pc' := 573) rfl ?_
  refine vv_iconst cx dL_law_573 (v := 1) (by decide) (pc' := 574) rfl ?_
  refine vv_iadd cx dL_law_574 (pc' := 575) rfl ?_
  refine vv_sld C hi1 hx1 dL_law_575 (pc' := 576) rfl ?_
  refine vv_aload_n cx dL_law_576 rfl rfl (pc' := 577) rfl ?_
  refine vv_iload cx dL_law_577 rfl (pc' := 579) rfl ?_
  refine vv_iconst cx dL_law_579 (v := 2) (by decide) (pc' := 580) rfl ?_
  refine vv_iadd cx dL_law_580 (pc' := 581) rfl ?_
  refine vv_sld C hi2 hx2 dL_law_581 (pc' := 582) rfl ?_
  refine cc_Vi cx hX (tM_cut l g h1 bs best x y hm1.1 hm1.2.1) kM_cut ww_704 rfl rfl ⟨Nat.le_of_ble_eq_true rfl, Nat.le_of_ble_eq_true rfl⟩ 116 (by decide) sh_116 rfl rfl rfl rfl (Nat.le_of_ble_eq_true rfl) rfl ⟨by omega, by omega⟩ dL_law_582 (pc' := 585) rfl (fun _ _ q => q.elim) (fun r h2 q2 => ?_)
  have hgo := hop r h2 q2
  refine vv_istore cx dL_law_585 (Nat.le_of_ble_eq_true rfl) (pc' := 587) rfl ?_
  refine vv_aload_n cx dL_law_587 rfl rfl (pc' := 588) rfl ?_
  refine cc_Vi cx hX (tM_thrown l g h2) kM_thrown ww_600 rfl rfl ⟨Nat.le_of_ble_eq_true rfl, Nat.le_of_ble_eq_true rfl⟩ 116 (by decide) sh_116 rfl rfl rfl rfl (Nat.le_of_ble_eq_true rfl) rfl ⟨by omega, by omega⟩ dL_law_588 (pc' := 591) rfl (fun _ _ q => q.elim) (fun t9 h3 q3 => ?_)
  obtain ⟨rfl, rfl⟩ := q3
  refine vv_iload cx dL_law_591 rfl (pc' := 593) rfl ?_
  refine vv_icmp_eq cx dL_law_593 (tgt := 598) (by decide) (pc' := 596) rfl (fun _ => ?_) (fun z => absurd hgo.1 z)
  refine vv_iload cx dL_law_598 rfl (pc' := 600) rfl ?_
  refine vv_if_ne cx dL_law_600 (tgt := 615) (by decide) (pc' := 603) rfl (fun _ => ?_) (fun z9 => ?_)
  · refine vv_goto cx dL_law_615 (tgt := 866) (by decide) ?_
    exact tail _ _ _ _ _ hgo.2.2 (by omega) (by omega)
  refine vv_aload_n cx dL_law_603 rfl rfl (pc' := 604) rfl ?_
  refine vv_iconst cx dL_law_604 (v := 0) (by decide) (pc' := 605) rfl ?_
  refine vv_lald cx dL_law_605 (pc' := 606) rfl ?_
  refine vv_iload cx dL_law_606 rfl (pc' := 608) rfl ?_
  refine vv_i2l cx dL_law_608 (pc' := 609) rfl ?_
  refine vv_lcmp cx dL_law_609 (pc' := 610) rfl ?_
  refine vv_if_eq cx dL_law_610 (tgt := 615) (by decide) (pc' := 613) rfl (fun _ => ?_) (fun z => absurd (lw_cmp0 (hgo.2.1 z9)) z)
  refine vv_goto cx dL_law_615 (tgt := 866) (by decide) ?_
  exact tail _ _ _ _ _ hgo.2.2 (by omega) (by omega)
set_option maxRecDepth 100000 in
set_option maxHeartbeats 4000000 in
theorem law_case_11 {p : Program} {l : Launch} {e : Env} {s : State} {m : MethodId} {below : List Frame} {meth : Method} {c : Code} {g : pq_G} {b L : Nat} {xs : Nat → Int32} {cells slots : Nat} {h : pq_H} {i : Int32} {v5 v6 : Option Value} (hl : l.stackTraces = false) (C : lw_C p s m meth c g b L xs) (hR : pq_R h) (hRC : cells + 3 ≤ room_1.cells) (hRS : slots + 18 ≤ room_1.slots) (hi1 : vp_in (i + 1) L) (hi2 : vp_in (i + 2) L) (tail : lw_T p l e s m below meth c g b cells slots i) : VV p l e room_1 s m #[Value.ref b] below meth c (lw_Z below #[Value.ref b] s) g cells slots h 618 (lw_vs b g i v5 v6) [] := by
  obtain ⟨W, n, w, nm, pr, bs, best, ask, sp, sc, c9, kp, tm, dy, hc, hm⟩ := hR
  have cx := C.1
  have hX := C.2.1
  have hN := C.2.2.1
  obtain ⟨x, hx1⟩ : ∃ x, xs (i + 1).toNatClampNeg = x := ⟨_, rfl⟩
  obtain ⟨y, hx2⟩ : ∃ y, xs (i + 2).toNatClampNeg = y := ⟨_, rfl⟩
  refine vv_aload_n cx dL_law_618 rfl rfl (pc' := 619) rfl ?_
  refine vv_aload_n cx dL_law_619 rfl rfl (pc' := 620) rfl ?_
  refine vv_iload cx dL_law_620 rfl (pc' := 622) rfl ?_
  refine vv_iconst cx dL_law_622 (v := 1) (by decide) (pc' := 623) rfl ?_
  refine vv_iadd cx dL_law_623 (pc' := 624) rfl ?_
  refine vv_sld C hi1 hx1 dL_law_624 (pc' := 625) rfl ?_
  refine vv_aload_n cx dL_law_625 rfl rfl (pc' := 626) rfl ?_
  refine cc_H (n := 3) cx hX hN (tL_over l g h x (tP_over l hl g h bs best x hc.1 hc.2.2.2.1) (fun E h9 q => q.2.elim (fun z => Or.inr z.1) (fun z => Or.inl z.1))) ww_495 ww_0 ww_494 (by decide +kernel) ww_493 rfl rfl ⟨Nat.le_of_ble_eq_true rfl, Nat.le_of_ble_eq_true rfl⟩ rfl rfl (Nat.le_of_ble_eq_true rfl) rfl ⟨by omega, by omega⟩ dL_law_626 (pc' := 629) rfl (fun k9 h1 q1 => ?_)
  obtain ⟨hm1, hop⟩ := op_over x hc hm q1
  refine vv_istore cx dL_law_629 (Nat.le_of_ble_eq_true rfl) (pc' := 631) rfl ?_
  refine vv_aload_n cx dL_law_631 rfl rfl (pc' := 632) rfl ?_
  refine vv_aload_n cx dL_law_632 rfl rfl (pc' := 633) rfl ?_
  refine vv_iload cx dL_law_633 rfl (pc' := 635) rfl ?_
  refine vv_iconst cx dL_law_635 (v := 1) (by decide) (pc' := 636) rfl ?_
  refine vv_iadd cx dL_law_636 (pc' := 637) rfl ?_
  refine vv_sld C hi1 hx1 dL_law_637 (pc' := 638) rfl ?_
  refine cc_Vi cx hX (tM_over l g h1 bs best x hm1.1 hm1.2.1) kM_over ww_712 rfl rfl ⟨Nat.le_of_ble_eq_true rfl, Nat.le_of_ble_eq_true rfl⟩ 116 (by decide) sh_116 rfl rfl rfl rfl (Nat.le_of_ble_eq_true rfl) rfl ⟨by omega, by omega⟩ dL_law_638 (pc' := 641) rfl (fun _ _ q => q.elim) (fun r h2 q2 => ?_)
  have hgo := hop r h2 q2
  refine vv_istore cx dL_law_641 (Nat.le_of_ble_eq_true rfl) (pc' := 643) rfl ?_
  refine vv_aload_n cx dL_law_643 rfl rfl (pc' := 644) rfl ?_
  refine cc_Vi cx hX (tM_thrown l g h2) kM_thrown ww_600 rfl rfl ⟨Nat.le_of_ble_eq_true rfl, Nat.le_of_ble_eq_true rfl⟩ 116 (by decide) sh_116 rfl rfl rfl rfl (Nat.le_of_ble_eq_true rfl) rfl ⟨by omega, by omega⟩ dL_law_644 (pc' := 647) rfl (fun _ _ q => q.elim) (fun t9 h3 q3 => ?_)
  obtain ⟨rfl, rfl⟩ := q3
  refine vv_iload cx dL_law_647 rfl (pc' := 649) rfl ?_
  refine vv_icmp_eq cx dL_law_649 (tgt := 654) (by decide) (pc' := 652) rfl (fun _ => ?_) (fun z => absurd hgo.1 z)
  refine vv_iload cx dL_law_654 rfl (pc' := 656) rfl ?_
  refine vv_if_ne cx dL_law_656 (tgt := 671) (by decide) (pc' := 659) rfl (fun _ => ?_) (fun z9 => ?_)
  · refine vv_goto cx dL_law_671 (tgt := 866) (by decide) ?_
    exact tail _ _ _ _ _ hgo.2.2 (by omega) (by omega)
  refine vv_aload_n cx dL_law_659 rfl rfl (pc' := 660) rfl ?_
  refine vv_iconst cx dL_law_660 (v := 0) (by decide) (pc' := 661) rfl ?_
  refine vv_lald cx dL_law_661 (pc' := 662) rfl ?_
  refine vv_iload cx dL_law_662 rfl (pc' := 664) rfl ?_
  refine vv_i2l cx dL_law_664 (pc' := 665) rfl ?_
  refine vv_lcmp cx dL_law_665 (pc' := 666) rfl ?_
  refine vv_if_eq cx dL_law_666 (tgt := 671) (by decide) (pc' := 669) rfl (fun _ => ?_) (fun z => absurd (lw_cmp0 (hgo.2.1 z9)) z)
  refine vv_goto cx dL_law_671 (tgt := 866) (by decide) ?_
  exact tail _ _ _ _ _ hgo.2.2 (by omega) (by omega)
set_option maxRecDepth 100000 in
set_option maxHeartbeats 4000000 in
theorem law_case_12 {p : Program} {l : Launch} {e : Env} {s : State} {m : MethodId} {below : List Frame} {meth : Method} {c : Code} {g : pq_G} {b L : Nat} {xs : Nat → Int32} {cells slots : Nat} {h : pq_H} {i : Int32} {v5 v6 : Option Value} (hl : l.stackTraces = false) (C : lw_C p s m meth c g b L xs) (hR : pq_R h) (hRC : cells + 3 ≤ room_1.cells) (hRS : slots + 18 ≤ room_1.slots) (hi1 : vp_in (i + 1) L) (hi2 : vp_in (i + 2) L) (tail : lw_T p l e s m below meth c g b cells slots i) : VV p l e room_1 s m #[Value.ref b] below meth c (lw_Z below #[Value.ref b] s) g cells slots h 674 (lw_vs b g i v5 v6) [] := by
  obtain ⟨W, n, w, nm, pr, bs, best, ask, sp, sc, c9, kp, tm, dy, hc, hm⟩ := hR
  have cx := C.1
  have hX := C.2.1
  have hN := C.2.2.1
  obtain ⟨x, hx1⟩ : ∃ x, xs (i + 1).toNatClampNeg = x := ⟨_, rfl⟩
  obtain ⟨y, hx2⟩ : ∃ y, xs (i + 2).toNatClampNeg = y := ⟨_, rfl⟩
  refine vv_aload_n cx dL_law_674 rfl rfl (pc' := 675) rfl ?_
  refine vv_aload_n cx dL_law_675 rfl rfl (pc' := 676) rfl ?_
  refine vv_iload cx dL_law_676 rfl (pc' := 678) rfl ?_
  refine vv_iconst cx dL_law_678 (v := 1) (by decide) (pc' := 679) rfl ?_
  refine vv_iadd cx dL_law_679 (pc' := 680) rfl ?_
  refine vv_sld C hi1 hx1 dL_law_680 (pc' := 681) rfl ?_
  refine vv_aload_n cx dL_law_681 rfl rfl (pc' := 682) rfl ?_
  refine vv_iload cx dL_law_682 rfl (pc' := 684) rfl ?_
  refine vv_iconst cx dL_law_684 (v := 2) (by decide) (pc' := 685) rfl ?_
  refine vv_iadd cx dL_law_685 (pc' := 686) rfl ?_
  refine vv_sld C hi2 hx2 dL_law_686 (pc' := 687) rfl ?_
  refine vv_aload_n cx dL_law_687 rfl rfl (pc' := 688) rfl ?_
  refine cc_H (n := 4) cx hX hN (tL_keep l g h x y (tP_keep l hl g h bs best c9 x y hc.2.2.2.1 hc.2.2.2.2.2.2.1.1 hc.2.2.2.2.2.2.1.2.1) (fun E h9 q => by rcases q.2 with z | z | z | z <;> simp [z.1])) ww_503 ww_0 ww_502 (by decide +kernel) ww_501 rfl rfl ⟨Nat.le_of_ble_eq_true rfl, Nat.le_of_ble_eq_true rfl⟩ rfl rfl (Nat.le_of_ble_eq_true rfl) rfl ⟨by omega, by omega⟩ dL_law_688 (pc' := 691) rfl (fun k9 h1 q1 => ?_)
  obtain ⟨hm1, hop⟩ := op_keep x y hc hm q1
  refine vv_istore cx dL_law_691 (Nat.le_of_ble_eq_true rfl) (pc' := 693) rfl ?_
  refine vv_aload_n cx dL_law_693 rfl rfl (pc' := 694) rfl ?_
  refine vv_aload_n cx dL_law_694 rfl rfl (pc' := 695) rfl ?_
  refine vv_iload cx dL_law_695 rfl (pc' := 697) rfl ?_
  refine vv_iconst cx dL_law_697 (v := 1) (by decide) (pc' := 698) rfl ?_
  refine vv_iadd cx dL_law_698 (pc' := 699) rfl ?_
  refine vv_sld C hi1 hx1 dL_law_699 (pc' := 700) rfl ?_
  refine vv_aload_n cx dL_law_700 rfl rfl (pc' := 701) rfl ?_
  refine vv_iload cx dL_law_701 rfl (pc' := 703) rfl ?_
  refine vv_iconst cx dL_law_703 (v := 2) (by decide) (pc' := 704) rfl ?_
  refine vv_iadd cx dL_law_704 (pc' := 705) rfl ?_
  refine vv_sld C hi2 hx2 dL_law_705 (pc' := 706) rfl ?_
  refine cc_Vi cx hX (tM_keep l g h1 bs best c9 x y hm1.2.1 hm1.2.2.2.2.1.1 hm1.2.2.2.2.1.2.1) kM_keep ww_716 rfl rfl ⟨Nat.le_of_ble_eq_true rfl, Nat.le_of_ble_eq_true rfl⟩ 116 (by decide) sh_116 rfl rfl rfl rfl (Nat.le_of_ble_eq_true rfl) rfl ⟨by omega, by omega⟩ dL_law_706 (pc' := 709) rfl (fun _ _ q => q.elim) (fun r h2 q2 => ?_)
  have hgo := hop r h2 q2
  refine vv_istore cx dL_law_709 (Nat.le_of_ble_eq_true rfl) (pc' := 711) rfl ?_
  refine vv_aload_n cx dL_law_711 rfl rfl (pc' := 712) rfl ?_
  refine cc_Vi cx hX (tM_thrown l g h2) kM_thrown ww_600 rfl rfl ⟨Nat.le_of_ble_eq_true rfl, Nat.le_of_ble_eq_true rfl⟩ 116 (by decide) sh_116 rfl rfl rfl rfl (Nat.le_of_ble_eq_true rfl) rfl ⟨by omega, by omega⟩ dL_law_712 (pc' := 715) rfl (fun _ _ q => q.elim) (fun t9 h3 q3 => ?_)
  obtain ⟨rfl, rfl⟩ := q3
  refine vv_iload cx dL_law_715 rfl (pc' := 717) rfl ?_
  refine vv_icmp_eq cx dL_law_717 (tgt := 722) (by decide) (pc' := 720) rfl (fun _ => ?_) (fun z => absurd hgo.1 z)
  refine vv_iload cx dL_law_722 rfl (pc' := 724) rfl ?_
  refine vv_if_ne cx dL_law_724 (tgt := 739) (by decide) (pc' := 727) rfl (fun _ => ?_) (fun z9 => ?_)
  · refine vv_goto cx dL_law_739 (tgt := 866) (by decide) ?_
    exact tail _ _ _ _ _ hgo.2.2 (by omega) (by omega)
  refine vv_aload_n cx dL_law_727 rfl rfl (pc' := 728) rfl ?_
  refine vv_iconst cx dL_law_728 (v := 0) (by decide) (pc' := 729) rfl ?_
  refine vv_lald cx dL_law_729 (pc' := 730) rfl ?_
  refine vv_iload cx dL_law_730 rfl (pc' := 732) rfl ?_
  refine vv_i2l cx dL_law_732 (pc' := 733) rfl ?_
  refine vv_lcmp cx dL_law_733 (pc' := 734) rfl ?_
  refine vv_if_eq cx dL_law_734 (tgt := 739) (by decide) (pc' := 737) rfl (fun _ => ?_) (fun z => absurd (lw_cmp0 (hgo.2.1 z9)) z)
  refine vv_goto cx dL_law_739 (tgt := 866) (by decide) ?_
  exact tail _ _ _ _ _ hgo.2.2 (by omega) (by omega)
set_option maxRecDepth 100000 in
set_option maxHeartbeats 4000000 in
theorem law_case_13 {p : Program} {l : Launch} {e : Env} {s : State} {m : MethodId} {below : List Frame} {meth : Method} {c : Code} {g : pq_G} {b L : Nat} {xs : Nat → Int32} {cells slots : Nat} {h : pq_H} {i : Int32} {v5 v6 : Option Value} (hl : l.stackTraces = false) (C : lw_C p s m meth c g b L xs) (hR : pq_R h) (hRC : cells + 3 ≤ room_1.cells) (hRS : slots + 18 ≤ room_1.slots) (hi1 : vp_in (i + 1) L) (hi2 : vp_in (i + 2) L) (tail : lw_T p l e s m below meth c g b cells slots i) : VV p l e room_1 s m #[Value.ref b] below meth c (lw_Z below #[Value.ref b] s) g cells slots h 742 (lw_vs b g i v5 v6) [] := by
  obtain ⟨W, n, w, nm, pr, bs, best, ask, sp, sc, c9, kp, tm, dy, hc, hm⟩ := hR
  have cx := C.1
  have hX := C.2.1
  have hN := C.2.2.1
  obtain ⟨x, hx1⟩ : ∃ x, xs (i + 1).toNatClampNeg = x := ⟨_, rfl⟩
  obtain ⟨y, hx2⟩ : ∃ y, xs (i + 2).toNatClampNeg = y := ⟨_, rfl⟩
  refine vv_aload_n cx dL_law_742 rfl rfl (pc' := 743) rfl ?_
  refine vv_aload_n cx dL_law_743 rfl rfl (pc' := 744) rfl ?_
  refine vv_iload cx dL_law_744 rfl (pc' := 746) rfl ?_
  refine vv_iconst cx dL_law_746 (v := 1) (by decide) (pc' := 747) rfl ?_
  refine vv_iadd cx dL_law_747 (pc' := 748) rfl ?_
  refine vv_sld C hi1 hx1 dL_law_748 (pc' := 749) rfl ?_
  refine vv_aload_n cx dL_law_749 rfl rfl (pc' := 750) rfl ?_
  refine vv_iload cx dL_law_750 rfl (pc' := 752) rfl ?_
  refine vv_iconst cx dL_law_752 (v := 2) (by decide) (pc' := 753) rfl ?_
  refine vv_iadd cx dL_law_753 (pc' := 754) rfl ?_
  refine vv_sld C hi2 hx2 dL_law_754 (pc' := 755) rfl ?_
  refine vv_aload_n cx dL_law_755 rfl rfl (pc' := 756) rfl ?_
  refine cc_H (n := 4) cx hX hN (tL_kept l g h x y (tP_kept l hl g h c9 x y hc.2.2.2.2.2.2.1.1 hc.2.2.2.2.2.2.1.2.1) (fun E h9 q => q.1)) ww_529 ww_0 ww_528 (by decide +kernel) ww_527 rfl rfl ⟨Nat.le_of_ble_eq_true rfl, Nat.le_of_ble_eq_true rfl⟩ rfl rfl (Nat.le_of_ble_eq_true rfl) rfl ⟨by omega, by omega⟩ dL_law_756 (pc' := 759) rfl (fun k9 h1 q1 => ?_)
  obtain ⟨hm1, hop⟩ := op_kept x y hc hm q1
  refine vv_istore cx dL_law_759 (Nat.le_of_ble_eq_true rfl) (pc' := 761) rfl ?_
  refine vv_aload_n cx dL_law_761 rfl rfl (pc' := 762) rfl ?_
  refine vv_aload_n cx dL_law_762 rfl rfl (pc' := 763) rfl ?_
  refine vv_iload cx dL_law_763 rfl (pc' := 765) rfl ?_
  refine vv_iconst cx dL_law_765 (v := 1) (by decide) (pc' := 766) rfl ?_
  refine vv_iadd cx dL_law_766 (pc' := 767) rfl ?_
  refine vv_sld C hi1 hx1 dL_law_767 (pc' := 768) rfl ?_
  refine vv_aload_n cx dL_law_768 rfl rfl (pc' := 769) rfl ?_
  refine vv_iload cx dL_law_769 rfl (pc' := 771) rfl ?_
  refine vv_iconst cx dL_law_771 (v := 2) (by decide) (pc' := 772) rfl ?_
  refine vv_iadd cx dL_law_772 (pc' := 773) rfl ?_
  refine vv_sld C hi2 hx2 dL_law_773 (pc' := 774) rfl ?_
  refine cc_Vi cx hX (tM_kept l g h1 c9 x y hm1.2.2.2.2.1.1 hm1.2.2.2.2.1.2.1) kM_kept ww_724 rfl rfl ⟨Nat.le_of_ble_eq_true rfl, Nat.le_of_ble_eq_true rfl⟩ 116 (by decide) sh_116 rfl rfl rfl rfl (Nat.le_of_ble_eq_true rfl) rfl ⟨by omega, by omega⟩ dL_law_774 (pc' := 777) rfl (fun _ _ q => q.elim) (fun r h2 q2 => ?_)
  have hgo := hop r h2 q2
  refine vv_istore cx dL_law_777 (Nat.le_of_ble_eq_true rfl) (pc' := 779) rfl ?_
  refine vv_aload_n cx dL_law_779 rfl rfl (pc' := 780) rfl ?_
  refine cc_Vi cx hX (tM_thrown l g h2) kM_thrown ww_600 rfl rfl ⟨Nat.le_of_ble_eq_true rfl, Nat.le_of_ble_eq_true rfl⟩ 116 (by decide) sh_116 rfl rfl rfl rfl (Nat.le_of_ble_eq_true rfl) rfl ⟨by omega, by omega⟩ dL_law_780 (pc' := 783) rfl (fun _ _ q => q.elim) (fun t9 h3 q3 => ?_)
  obtain ⟨rfl, rfl⟩ := q3
  refine vv_iload cx dL_law_783 rfl (pc' := 785) rfl ?_
  refine vv_icmp_eq cx dL_law_785 (tgt := 790) (by decide) (pc' := 788) rfl (fun _ => ?_) (fun z => absurd hgo.1 z)
  refine vv_iload cx dL_law_790 rfl (pc' := 792) rfl ?_
  refine vv_if_ne cx dL_law_792 (tgt := 807) (by decide) (pc' := 795) rfl (fun _ => ?_) (fun z9 => ?_)
  · refine vv_goto cx dL_law_807 (tgt := 866) (by decide) ?_
    exact tail _ _ _ _ _ hgo.2.2 (by omega) (by omega)
  refine vv_aload_n cx dL_law_795 rfl rfl (pc' := 796) rfl ?_
  refine vv_iconst cx dL_law_796 (v := 0) (by decide) (pc' := 797) rfl ?_
  refine vv_lald cx dL_law_797 (pc' := 798) rfl ?_
  refine vv_iload cx dL_law_798 rfl (pc' := 800) rfl ?_
  refine vv_i2l cx dL_law_800 (pc' := 801) rfl ?_
  refine vv_lcmp cx dL_law_801 (pc' := 802) rfl ?_
  refine vv_if_eq cx dL_law_802 (tgt := 807) (by decide) (pc' := 805) rfl (fun _ => ?_) (fun z => absurd (lw_cmp0 (hgo.2.1 z9)) z)
  refine vv_goto cx dL_law_807 (tgt := 866) (by decide) ?_
  exact tail _ _ _ _ _ hgo.2.2 (by omega) (by omega)
set_option maxRecDepth 100000 in
set_option maxHeartbeats 4000000 in
theorem law_case_14 {p : Program} {l : Launch} {e : Env} {s : State} {m : MethodId} {below : List Frame} {meth : Method} {c : Code} {g : pq_G} {b L : Nat} {xs : Nat → Int32} {cells slots : Nat} {h : pq_H} {i : Int32} {v5 v6 : Option Value} (hl : l.stackTraces = false) (C : lw_C p s m meth c g b L xs) (hR : pq_R h) (hRC : cells + 3 ≤ room_1.cells) (hRS : slots + 18 ≤ room_1.slots) (hi1 : vp_in (i + 1) L) (hi2 : vp_in (i + 2) L) (tail : lw_T p l e s m below meth c g b cells slots i) : VV p l e room_1 s m #[Value.ref b] below meth c (lw_Z below #[Value.ref b] s) g cells slots h 810 (lw_vs b g i v5 v6) [] := by
  obtain ⟨W, n, w, nm, pr, bs, best, ask, sp, sc, c9, kp, tm, dy, hc, hm⟩ := hR
  have cx := C.1
  have hX := C.2.1
  have hN := C.2.2.1
  obtain ⟨x, hx1⟩ : ∃ x, xs (i + 1).toNatClampNeg = x := ⟨_, rfl⟩
  obtain ⟨y, hx2⟩ : ∃ y, xs (i + 2).toNatClampNeg = y := ⟨_, rfl⟩
  refine vv_aload_n cx dL_law_810 rfl rfl (pc' := 811) rfl ?_
  refine vv_aload_n cx dL_law_811 rfl rfl (pc' := 812) rfl ?_
  refine vv_iload cx dL_law_812 rfl (pc' := 814) rfl ?_
  refine vv_iconst cx dL_law_814 (v := 1) (by decide) (pc' := 815) rfl ?_
  refine vv_iadd cx dL_law_815 (pc' := 816) rfl ?_
  refine vv_sld C hi1 hx1 dL_law_816 (pc' := 817) rfl ?_
  refine vv_aload_n cx dL_law_817 rfl rfl (pc' := 818) rfl ?_
  refine cc_H (n := 3) cx hX hN (tL_fitting l g h x (tP_fitting l hl g h c9 kp x hc.1 hc.2.2.2.2.2.2.1) (fun E h9 q => q.1)) ww_537 ww_0 ww_536 (by decide +kernel) ww_535 rfl rfl ⟨Nat.le_of_ble_eq_true rfl, Nat.le_of_ble_eq_true rfl⟩ rfl rfl (Nat.le_of_ble_eq_true rfl) rfl ⟨by omega, by omega⟩ dL_law_818 (pc' := 821) rfl (fun k9 h1 q1 => ?_)
  obtain ⟨hm1, hop⟩ := op_fitting x hc hm q1
  refine vv_istore cx dL_law_821 (Nat.le_of_ble_eq_true rfl) (pc' := 823) rfl ?_
  refine vv_aload_n cx dL_law_823 rfl rfl (pc' := 824) rfl ?_
  refine vv_aload_n cx dL_law_824 rfl rfl (pc' := 825) rfl ?_
  refine vv_iload cx dL_law_825 rfl (pc' := 827) rfl ?_
  refine vv_iconst cx dL_law_827 (v := 1) (by decide) (pc' := 828) rfl ?_
  refine vv_iadd cx dL_law_828 (pc' := 829) rfl ?_
  refine vv_sld C hi1 hx1 dL_law_829 (pc' := 830) rfl ?_
  refine cc_Vi cx hX (tM_fitting l g h1 c9 kp x hm1.1 hm1.2.2.2.2.1 hc.2.2.2.2.2.2.2.1) kM_fitting ww_728 rfl rfl ⟨Nat.le_of_ble_eq_true rfl, Nat.le_of_ble_eq_true rfl⟩ 116 (by decide) sh_116 rfl rfl rfl rfl (Nat.le_of_ble_eq_true rfl) rfl ⟨by omega, by omega⟩ dL_law_830 (pc' := 833) rfl (fun _ _ q => q.elim) (fun r h2 q2 => ?_)
  have hgo := hop r h2 q2
  refine vv_istore cx dL_law_833 (Nat.le_of_ble_eq_true rfl) (pc' := 835) rfl ?_
  refine vv_aload_n cx dL_law_835 rfl rfl (pc' := 836) rfl ?_
  refine cc_Vi cx hX (tM_thrown l g h2) kM_thrown ww_600 rfl rfl ⟨Nat.le_of_ble_eq_true rfl, Nat.le_of_ble_eq_true rfl⟩ 116 (by decide) sh_116 rfl rfl rfl rfl (Nat.le_of_ble_eq_true rfl) rfl ⟨by omega, by omega⟩ dL_law_836 (pc' := 839) rfl (fun _ _ q => q.elim) (fun t9 h3 q3 => ?_)
  obtain ⟨rfl, rfl⟩ := q3
  refine vv_iload cx dL_law_839 rfl (pc' := 841) rfl ?_
  refine vv_icmp_eq cx dL_law_841 (tgt := 846) (by decide) (pc' := 844) rfl (fun _ => ?_) (fun z => absurd hgo.1 z)
  refine vv_iload cx dL_law_846 rfl (pc' := 848) rfl ?_
  refine vv_if_ne cx dL_law_848 (tgt := 863) (by decide) (pc' := 851) rfl (fun _ => ?_) (fun z9 => ?_)
  · refine vv_goto cx dL_law_863 (tgt := 866) (by decide) ?_
    exact tail _ _ _ _ _ hgo.2.2 (by omega) (by omega)
  refine vv_aload_n cx dL_law_851 rfl rfl (pc' := 852) rfl ?_
  refine vv_iconst cx dL_law_852 (v := 0) (by decide) (pc' := 853) rfl ?_
  refine vv_lald cx dL_law_853 (pc' := 854) rfl ?_
  refine vv_iload cx dL_law_854 rfl (pc' := 856) rfl ?_
  refine vv_i2l cx dL_law_856 (pc' := 857) rfl ?_
  refine vv_lcmp cx dL_law_857 (pc' := 858) rfl ?_
  refine vv_if_eq cx dL_law_858 (tgt := 863) (by decide) (pc' := 861) rfl (fun _ => ?_) (fun z => absurd (lw_cmp0 (hgo.2.1 z9)) z)
  refine vv_goto cx dL_law_863 (tgt := 866) (by decide) ?_
  exact tail _ _ _ _ _ hgo.2.2 (by omega) (by omega)
