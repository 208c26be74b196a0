section LC
variable {p : Program} {l : Launch} {e : Env} {s : State} {m : MethodId} {args : Array Value} {below : List Frame} {meth : Method} {c : Code} {D : va_G} {cI cH cE cJ : ClassId} {a b : Nat → Nat} {nc ns : Nat} {Q : State → Prop} {σ τ : Me} {sb L i : Nat} {xs : Nat → Int32}
theorem k_0 (X : LX p s m args meth c D cI cH cE cJ a b sb L xs nc ns) (I : Inv σ τ) (hi : i + 5 ≤ L) (k : ∀ σ' τ', Inv σ' τ' → Gg p l e room_1 s m args below meth c D P0 (wz cI cH cE cJ a b) 4 nc ns Q (σ', τ') (LV a b sb i) 778 []) : Gg p l e room_1 s m args below meth c D P0 (wz cI cH cE cJ a b) 4 nc ns Q (σ, τ) (LV a b sb i) 128 [] := by
  obtain ⟨σ1, τ1, r, h1, h2, I1⟩ := s_write I (xa xs i (nI 1))
  refine g_aload_n (pc := 128) X.1 dL_law_128 2 rfl rfl ?_
  refine g_arg (pc := 129) X 1 dL_law_129 dL_law_130 dL_law_131 (by decide) dL_law_132 dL_law_133 (by omega) ?_
  refine g_cVi (pc := 134) X.1 (σ1 := (σ1, τ)) (st := []) (As := [.int (xa xs i (nI 1))]) (jc X.2.2.1 X.2.2.2.1 X.2.2.2.2.1) (c_X7_write l D X.2.1 h1) y_X7_write tw_322 rfl ⟨by decide, by decide⟩ X.2.2.2.2.2.2.2 (Nat.le_of_ble_eq_true rfl) wz_0 cl_X7 rfl dL_law_134 rfl ?_
  refine g_aload_n (pc := 137) X.1 dL_law_137 1 rfl rfl ?_
  refine g_arg (pc := 138) X 1 dL_law_138 dL_law_139 dL_law_140 (by decide) dL_law_141 dL_law_142 (by omega) ?_
  refine g_cVi (pc := 143) X.1 (σ1 := (σ1, τ1)) (st := [.int r]) (As := [.int (xa xs i (nI 1))]) (jm X.2.1 X.2.2.2.1 X.2.2.2.2.2.1) (c_X8_write l D X.2.2.1 h2) y_X8_write tw_647 rfl ⟨by decide, by decide⟩ X.2.2.2.2.2.2.2 (Nat.le_of_ble_eq_true rfl) wz_51 cl_X8 rfl dL_law_143 rfl ?_
  exact g_icmp_eq (pc := 146) X.1 778 dL_law_146 (by decide) (fun _ => k _ _ I1) (fun z => absurd rfl z)
theorem k_1 (X : LX p s m args meth c D cI cH cE cJ a b sb L xs nc ns) (I : Inv σ τ) (hi : i + 5 ≤ L) (k : ∀ σ' τ', Inv σ' τ' → Gg p l e room_1 s m args below meth c D P0 (wz cI cH cE cJ a b) 4 nc ns Q (σ', τ') (LV a b sb i) 778 []) : Gg p l e room_1 s m args below meth c D P0 (wz cI cH cE cJ a b) 4 nc ns Q (σ, τ) (LV a b sb i) 151 [] := by
  obtain ⟨σ1, τ1, r, h1, h2, I1⟩ := s_wipe I 
  refine g_aload_n (pc := 151) X.1 dL_law_151 2 rfl rfl ?_
  refine g_cVi (pc := 152) X.1 (σ1 := (σ1, τ)) (st := []) (As := []) (jc X.2.2.1 X.2.2.2.1 X.2.2.2.2.1) (c_X7_wipe l D X.2.1 h1) y_X7_wipe tw_327 rfl ⟨by decide, by decide⟩ X.2.2.2.2.2.2.2 (Nat.le_of_ble_eq_true rfl) wz_0 cl_X7 rfl dL_law_152 rfl ?_
  refine g_aload_n (pc := 155) X.1 dL_law_155 1 rfl rfl ?_
  refine g_cVi (pc := 156) X.1 (σ1 := (σ1, τ1)) (st := [.int r]) (As := []) (jm X.2.1 X.2.2.2.1 X.2.2.2.2.2.1) (c_X8_wipe l D X.2.2.1 h2) y_X8_wipe tw_656 rfl ⟨by decide, by decide⟩ X.2.2.2.2.2.2.2 (Nat.le_of_ble_eq_true rfl) wz_51 cl_X8 rfl dL_law_156 rfl ?_
  exact g_icmp_eq (pc := 159) X.1 778 dL_law_159 (by decide) (fun _ => k _ _ I1) (fun z => absurd rfl z)
theorem k_2 (X : LX p s m args meth c D cI cH cE cJ a b sb L xs nc ns) (I : Inv σ τ) (hi : i + 5 ≤ L) (k : ∀ σ' τ', Inv σ' τ' → Gg p l e room_1 s m args below meth c D P0 (wz cI cH cE cJ a b) 4 nc ns Q (σ', τ') (LV a b sb i) 778 []) : Gg p l e room_1 s m args below meth c D P0 (wz cI cH cE cJ a b) 4 nc ns Q (σ, τ) (LV a b sb i) 164 [] := by
  obtain ⟨σ1, τ1, r, h1, h2, I1⟩ := s_fault I 
  refine g_aload_n (pc := 164) X.1 dL_law_164 2 rfl rfl ?_
  refine g_cVi (pc := 165) X.1 (σ1 := (σ1, τ)) (st := []) (As := []) (jc X.2.2.1 X.2.2.2.1 X.2.2.2.2.1) (c_X7_fault l D X.2.1 h1) y_X7_fault tw_331 rfl ⟨by decide, by decide⟩ X.2.2.2.2.2.2.2 (Nat.le_of_ble_eq_true rfl) wz_0 cl_X7 rfl dL_law_165 rfl ?_
  refine g_aload_n (pc := 168) X.1 dL_law_168 1 rfl rfl ?_
  refine g_cVi (pc := 169) X.1 (σ1 := (σ1, τ1)) (st := [.int r]) (As := []) (jm X.2.1 X.2.2.2.1 X.2.2.2.2.2.1) (c_X8_fault l D X.2.2.1 h2) y_X8_fault tw_660 rfl ⟨by decide, by decide⟩ X.2.2.2.2.2.2.2 (Nat.le_of_ble_eq_true rfl) wz_51 cl_X8 rfl dL_law_169 rfl ?_
  exact g_icmp_eq (pc := 172) X.1 778 dL_law_172 (by decide) (fun _ => k _ _ I1) (fun z => absurd rfl z)
theorem k_3 (X : LX p s m args meth c D cI cH cE cJ a b sb L xs nc ns) (I : Inv σ τ) (hi : i + 5 ≤ L) (k : ∀ σ' τ', Inv σ' τ' → Gg p l e room_1 s m args below meth c D P0 (wz cI cH cE cJ a b) 4 nc ns Q (σ', τ') (LV a b sb i) 778 []) : Gg p l e room_1 s m args below meth c D P0 (wz cI cH cE cJ a b) 4 nc ns Q (σ, τ) (LV a b sb i) 177 [] := by
  obtain ⟨σ1, τ1, r, h1, h2, I1⟩ := s_lay I 
  refine g_aload_n (pc := 177) X.1 dL_law_177 2 rfl rfl ?_
  refine g_cVi (pc := 178) X.1 (σ1 := (σ1, τ)) (st := []) (As := []) (jc X.2.2.1 X.2.2.2.1 X.2.2.2.2.1) (c_X7_lay l D X.2.1 h1) y_X7_lay tw_335 rfl ⟨by decide, by decide⟩ X.2.2.2.2.2.2.2 (Nat.le_of_ble_eq_true rfl) wz_0 cl_X7 rfl dL_law_178 rfl ?_
  refine g_aload_n (pc := 181) X.1 dL_law_181 1 rfl rfl ?_
  refine g_cVi (pc := 182) X.1 (σ1 := (σ1, τ1)) (st := [.int r]) (As := []) (jm X.2.1 X.2.2.2.1 X.2.2.2.2.2.1) (c_X8_lay l D X.2.2.1 h2) y_X8_lay tw_692 rfl ⟨by decide, by decide⟩ X.2.2.2.2.2.2.2 (Nat.le_of_ble_eq_true rfl) wz_51 cl_X8 rfl dL_law_182 rfl ?_
  exact g_icmp_eq (pc := 185) X.1 778 dL_law_185 (by decide) (fun _ => k _ _ I1) (fun z => absurd rfl z)
theorem k_4 (X : LX p s m args meth c D cI cH cE cJ a b sb L xs nc ns) (I : Inv σ τ) (hi : i + 5 ≤ L) (k : ∀ σ' τ', Inv σ' τ' → Gg p l e room_1 s m args below meth c D P0 (wz cI cH cE cJ a b) 4 nc ns Q (σ', τ') (LV a b sb i) 778 []) : Gg p l e room_1 s m args below meth c D P0 (wz cI cH cE cJ a b) 4 nc ns Q (σ, τ) (LV a b sb i) 190 [] := by
  obtain ⟨σ1, τ1, r, h1, h2, I1⟩ := s_run I (xa xs i (nI 1)) (xa xs i (nI 2)) (xa xs i (nI 3))
  refine g_aload_n (pc := 190) X.1 dL_law_190 2 rfl rfl ?_
  refine g_arg (pc := 191) X 1 dL_law_191 dL_law_192 dL_law_193 (by decide) dL_law_194 dL_law_195 (by omega) ?_
  refine g_arg (pc := 196) X 2 dL_law_196 dL_law_197 dL_law_198 (by decide) dL_law_199 dL_law_200 (by omega) ?_
  refine g_arg (pc := 201) X 3 dL_law_201 dL_law_202 dL_law_203 (by decide) dL_law_204 dL_law_205 (by omega) ?_
  refine g_cVi (pc := 206) X.1 (σ1 := (σ1, τ)) (st := []) (As := [.int (xa xs i (nI 1)), .int (xa xs i (nI 2)), .int (xa xs i (nI 3))]) (jc X.2.2.1 X.2.2.2.1 X.2.2.2.2.1) (c_X7_run l D X.2.1 h1) y_X7_run tw_339 rfl ⟨by decide, by decide⟩ X.2.2.2.2.2.2.2 (Nat.le_of_ble_eq_true rfl) wz_0 cl_X7 rfl dL_law_206 rfl ?_
  refine g_aload_n (pc := 209) X.1 dL_law_209 1 rfl rfl ?_
  refine g_arg (pc := 210) X 1 dL_law_210 dL_law_211 dL_law_212 (by decide) dL_law_213 dL_law_214 (by omega) ?_
  refine g_arg (pc := 215) X 2 dL_law_215 dL_law_216 dL_law_217 (by decide) dL_law_218 dL_law_219 (by omega) ?_
  refine g_arg (pc := 220) X 3 dL_law_220 dL_law_221 dL_law_222 (by decide) dL_law_223 dL_law_224 (by omega) ?_
  refine g_cVi (pc := 225) X.1 (σ1 := (σ1, τ1)) (st := [.int r]) (As := [.int (xa xs i (nI 1)), .int (xa xs i (nI 2)), .int (xa xs i (nI 3))]) (jm X.2.1 X.2.2.2.1 X.2.2.2.2.2.1) (c_X8_run l D X.2.2.1 h2) y_X8_run tw_726 rfl ⟨by decide, by decide⟩ X.2.2.2.2.2.2.2 (Nat.le_of_ble_eq_true rfl) wz_51 cl_X8 rfl dL_law_225 rfl ?_
  exact g_icmp_eq (pc := 228) X.1 778 dL_law_228 (by decide) (fun _ => k _ _ I1) (fun z => absurd rfl z)
theorem k_5 (X : LX p s m args meth c D cI cH cE cJ a b sb L xs nc ns) (I : Inv σ τ) (hi : i + 5 ≤ L) (k : ∀ σ' τ', Inv σ' τ' → Gg p l e room_1 s m args below meth c D P0 (wz cI cH cE cJ a b) 4 nc ns Q (σ', τ') (LV a b sb i) 778 []) : Gg p l e room_1 s m args below meth c D P0 (wz cI cH cE cJ a b) 4 nc ns Q (σ, τ) (LV a b sb i) 233 [] := by
  obtain ⟨σ1, τ1, r, h1, h2, I1⟩ := s_spoil I (xa xs i (nI 1)) (xa xs i (nI 2))
  refine g_aload_n (pc := 233) X.1 dL_law_233 2 rfl rfl ?_
  refine g_arg (pc := 234) X 1 dL_law_234 dL_law_235 dL_law_236 (by decide) dL_law_237 dL_law_238 (by omega) ?_
  refine g_arg (pc := 239) X 2 dL_law_239 dL_law_240 dL_law_241 (by decide) dL_law_242 dL_law_243 (by omega) ?_
  refine g_cVi (pc := 244) X.1 (σ1 := (σ1, τ)) (st := []) (As := [.int (xa xs i (nI 1)), .int (xa xs i (nI 2))]) (jc X.2.2.1 X.2.2.2.1 X.2.2.2.2.1) (c_X7_spoil l D X.2.1 h1) y_X7_spoil tw_373 rfl ⟨by decide, by decide⟩ X.2.2.2.2.2.2.2 (Nat.le_of_ble_eq_true rfl) wz_0 cl_X7 rfl dL_law_244 rfl ?_
  refine g_aload_n (pc := 247) X.1 dL_law_247 1 rfl rfl ?_
  refine g_arg (pc := 248) X 1 dL_law_248 dL_law_249 dL_law_250 (by decide) dL_law_251 dL_law_252 (by omega) ?_
  refine g_arg (pc := 253) X 2 dL_law_253 dL_law_254 dL_law_255 (by decide) dL_law_256 dL_law_257 (by omega) ?_
  refine g_cVi (pc := 258) X.1 (σ1 := (σ1, τ1)) (st := [.int r]) (As := [.int (xa xs i (nI 1)), .int (xa xs i (nI 2))]) (jm X.2.1 X.2.2.2.1 X.2.2.2.2.2.1) (c_X8_spoil l D X.2.2.1 h2) y_X8_spoil tw_743 rfl ⟨by decide, by decide⟩ X.2.2.2.2.2.2.2 (Nat.le_of_ble_eq_true rfl) wz_51 cl_X8 rfl dL_law_258 rfl ?_
  exact g_icmp_eq (pc := 261) X.1 778 dL_law_261 (by decide) (fun _ => k _ _ I1) (fun z => absurd rfl z)
theorem k_6 (X : LX p s m args meth c D cI cH cE cJ a b sb L xs nc ns) (I : Inv σ τ) (hi : i + 5 ≤ L) (k : ∀ σ' τ', Inv σ' τ' → Gg p l e room_1 s m args below meth c D P0 (wz cI cH cE cJ a b) 4 nc ns Q (σ', τ') (LV a b sb i) 778 []) : Gg p l e room_1 s m args below meth c D P0 (wz cI cH cE cJ a b) 4 nc ns Q (σ, τ) (LV a b sb i) 266 [] := by
  obtain ⟨σ1, τ1, r, h1, h2, I1⟩ := s_spoilSheet I (xa xs i (nI 1)) (xa xs i (nI 2)) (xa xs i (nI 3))
  refine g_aload_n (pc := 266) X.1 dL_law_266 2 rfl rfl ?_
  refine g_arg (pc := 267) X 1 dL_law_267 dL_law_268 dL_law_269 (by decide) dL_law_270 dL_law_271 (by omega) ?_
  refine g_arg (pc := 272) X 2 dL_law_272 dL_law_273 dL_law_274 (by decide) dL_law_275 dL_law_276 (by omega) ?_
  refine g_arg (pc := 277) X 3 dL_law_277 dL_law_278 dL_law_279 (by decide) dL_law_280 dL_law_281 (by omega) ?_
  refine g_cVi (pc := 282) X.1 (σ1 := (σ1, τ)) (st := []) (As := [.int (xa xs i (nI 1)), .int (xa xs i (nI 2)), .int (xa xs i (nI 3))]) (jc X.2.2.1 X.2.2.2.1 X.2.2.2.2.1) (c_X7_spoilSheet l D X.2.1 h1) y_X7_spoilSheet tw_419 rfl ⟨by decide, by decide⟩ X.2.2.2.2.2.2.2 (Nat.le_of_ble_eq_true rfl) wz_0 cl_X7 rfl dL_law_282 rfl ?_
  refine g_aload_n (pc := 285) X.1 dL_law_285 1 rfl rfl ?_
  refine g_arg (pc := 286) X 1 dL_law_286 dL_law_287 dL_law_288 (by decide) dL_law_289 dL_law_290 (by omega) ?_
  refine g_arg (pc := 291) X 2 dL_law_291 dL_law_292 dL_law_293 (by decide) dL_law_294 dL_law_295 (by omega) ?_
  refine g_arg (pc := 296) X 3 dL_law_296 dL_law_297 dL_law_298 (by decide) dL_law_299 dL_law_300 (by omega) ?_
  refine g_cVi (pc := 301) X.1 (σ1 := (σ1, τ1)) (st := [.int r]) (As := [.int (xa xs i (nI 1)), .int (xa xs i (nI 2)), .int (xa xs i (nI 3))]) (jm X.2.1 X.2.2.2.1 X.2.2.2.2.2.1) (c_X8_spoilSheet l D X.2.2.1 h2) y_X8_spoilSheet tw_775 rfl ⟨by decide, by decide⟩ X.2.2.2.2.2.2.2 (Nat.le_of_ble_eq_true rfl) wz_51 cl_X8 rfl dL_law_301 rfl ?_
  exact g_icmp_eq (pc := 304) X.1 778 dL_law_304 (by decide) (fun _ => k _ _ I1) (fun z => absurd rfl z)
theorem k_7 (X : LX p s m args meth c D cI cH cE cJ a b sb L xs nc ns) (I : Inv σ τ) (hi : i + 5 ≤ L) (k : ∀ σ' τ', Inv σ' τ' → Gg p l e room_1 s m args below meth c D P0 (wz cI cH cE cJ a b) 4 nc ns Q (σ', τ') (LV a b sb i) 778 []) : Gg p l e room_1 s m args below meth c D P0 (wz cI cH cE cJ a b) 4 nc ns Q (σ, τ) (LV a b sb i) 309 [] := by
  obtain ⟨σ1, τ1, r, h1, h2, I1⟩ := s_undo I 
  refine g_aload_n (pc := 309) X.1 dL_law_309 2 rfl rfl ?_
  refine g_cVi (pc := 310) X.1 (σ1 := (σ1, τ)) (st := []) (As := []) (jc X.2.2.1 X.2.2.2.1 X.2.2.2.2.1) (c_X7_undo l D X.2.1 h1) y_X7_undo tw_436 rfl ⟨by decide, by decide⟩ X.2.2.2.2.2.2.2 (Nat.le_of_ble_eq_true rfl) wz_0 cl_X7 rfl dL_law_310 rfl ?_
  refine g_aload_n (pc := 313) X.1 dL_law_313 1 rfl rfl ?_
  refine g_cVi (pc := 314) X.1 (σ1 := (σ1, τ1)) (st := [.int r]) (As := []) (jm X.2.1 X.2.2.2.1 X.2.2.2.2.2.1) (c_X8_undo l D X.2.2.1 h2) y_X8_undo tw_722 rfl ⟨by decide, by decide⟩ X.2.2.2.2.2.2.2 (Nat.le_of_ble_eq_true rfl) wz_51 cl_X8 rfl dL_law_314 rfl ?_
  exact g_icmp_eq (pc := 317) X.1 778 dL_law_317 (by decide) (fun _ => k _ _ I1) (fun z => absurd rfl z)
theorem k_8 (X : LX p s m args meth c D cI cH cE cJ a b sb L xs nc ns) (I : Inv σ τ) (hi : i + 5 ≤ L) (k : ∀ σ' τ', Inv σ' τ' → Gg p l e room_1 s m args below meth c D P0 (wz cI cH cE cJ a b) 4 nc ns Q (σ', τ') (LV a b sb i) 778 []) : Gg p l e room_1 s m args below meth c D P0 (wz cI cH cE cJ a b) 4 nc ns Q (σ, τ) (LV a b sb i) 322 [] := by
  obtain ⟨P, Dd, g, kept, hs, len, tx, hD, hPD, h04, Qq, Ih, It⟩ := id I
  obtain ⟨r, h1, h2⟩ := q_series Qq (xa xs i (nI 1)) (xa xs i (nI 2))
  refine g_aload_n (pc := 322) X.1 dL_law_322 2 rfl rfl ?_
  refine g_arg (pc := 323) X 1 dL_law_323 dL_law_324 dL_law_325 (by decide) dL_law_326 dL_law_327 (by omega) ?_
  refine g_arg (pc := 328) X 2 dL_law_328 dL_law_329 dL_law_330 (by decide) dL_law_331 dL_law_332 (by omega) ?_
  refine g_cVi (pc := 333) X.1 (σ1 := (σ, τ)) (st := []) (As := [.int (xa xs i (nI 1)), .int (xa xs i (nI 2))]) (jc X.2.2.1 X.2.2.2.1 X.2.2.2.2.1) (c_X7_series l D X.2.1 h1) y_X7_series tw_460 rfl ⟨by decide, by decide⟩ X.2.2.2.2.2.2.2 (Nat.le_of_ble_eq_true rfl) wz_0 cl_X7 rfl dL_law_333 rfl ?_
  refine g_aload_n (pc := 336) X.1 dL_law_336 1 rfl rfl ?_
  refine g_arg (pc := 337) X 1 dL_law_337 dL_law_338 dL_law_339 (by decide) dL_law_340 dL_law_341 (by omega) ?_
  refine g_arg (pc := 342) X 2 dL_law_342 dL_law_343 dL_law_344 (by decide) dL_law_345 dL_law_346 (by omega) ?_
  refine g_cVi (pc := 347) X.1 (σ1 := (σ, τ)) (st := [.int r]) (As := [.int (xa xs i (nI 1)), .int (xa xs i (nI 2))]) (jm X.2.1 X.2.2.2.1 X.2.2.2.2.2.1) (c_X8_series l D X.2.2.1 h2) y_X8_series tw_783 rfl ⟨by decide, by decide⟩ X.2.2.2.2.2.2.2 (Nat.le_of_ble_eq_true rfl) wz_51 cl_X8 rfl dL_law_347 rfl ?_
  exact g_icmp_eq (pc := 350) X.1 778 dL_law_350 (by decide) (fun _ => k _ _ I) (fun z => absurd rfl z)
theorem k_9 (X : LX p s m args meth c D cI cH cE cJ a b sb L xs nc ns) (I : Inv σ τ) (hi : i + 5 ≤ L) (k : ∀ σ' τ', Inv σ' τ' → Gg p l e room_1 s m args below meth c D P0 (wz cI cH cE cJ a b) 4 nc ns Q (σ', τ') (LV a b sb i) 778 []) : Gg p l e room_1 s m args below meth c D P0 (wz cI cH cE cJ a b) 4 nc ns Q (σ, τ) (LV a b sb i) 355 [] := by
  obtain ⟨P, Dd, g, kept, hs, len, tx, hD, hPD, h04, Qq, Ih, It⟩ := id I
  obtain ⟨r, h1, h2⟩ := q_share Qq (xa xs i (nI 1)) (xa xs i (nI 2)) (xa xs i (nI 3))
  refine g_aload_n (pc := 355) X.1 dL_law_355 2 rfl rfl ?_
  refine g_arg (pc := 356) X 1 dL_law_356 dL_law_357 dL_law_358 (by decide) dL_law_359 dL_law_360 (by omega) ?_
  refine g_arg (pc := 361) X 2 dL_law_361 dL_law_362 dL_law_363 (by decide) dL_law_364 dL_law_365 (by omega) ?_
  refine g_arg (pc := 366) X 3 dL_law_366 dL_law_367 dL_law_368 (by decide) dL_law_369 dL_law_370 (by omega) ?_
  refine g_cVi (pc := 371) X.1 (σ1 := (σ, τ)) (st := []) (As := [.int (xa xs i (nI 1)), .int (xa xs i (nI 2)), .int (xa xs i (nI 3))]) (jc X.2.2.1 X.2.2.2.1 X.2.2.2.2.1) (c_X7_share l D X.2.1 h1) y_X7_share tw_492 rfl ⟨by decide, by decide⟩ X.2.2.2.2.2.2.2 (Nat.le_of_ble_eq_true rfl) wz_0 cl_X7 rfl dL_law_371 rfl ?_
  refine g_aload_n (pc := 374) X.1 dL_law_374 1 rfl rfl ?_
  refine g_arg (pc := 375) X 1 dL_law_375 dL_law_376 dL_law_377 (by decide) dL_law_378 dL_law_379 (by omega) ?_
  refine g_arg (pc := 380) X 2 dL_law_380 dL_law_381 dL_law_382 (by decide) dL_law_383 dL_law_384 (by omega) ?_
  refine g_arg (pc := 385) X 3 dL_law_385 dL_law_386 dL_law_387 (by decide) dL_law_388 dL_law_389 (by omega) ?_
  refine g_cVi (pc := 390) X.1 (σ1 := (σ, τ)) (st := [.int r]) (As := [.int (xa xs i (nI 1)), .int (xa xs i (nI 2)), .int (xa xs i (nI 3))]) (jm X.2.1 X.2.2.2.1 X.2.2.2.2.2.1) (c_X8_share l D X.2.2.1 h2) y_X8_share tw_812 rfl ⟨by decide, by decide⟩ X.2.2.2.2.2.2.2 (Nat.le_of_ble_eq_true rfl) wz_51 cl_X8 rfl dL_law_390 rfl ?_
  exact g_icmp_eq (pc := 393) X.1 778 dL_law_393 (by decide) (fun _ => k _ _ I) (fun z => absurd rfl z)
theorem k_10 (X : LX p s m args meth c D cI cH cE cJ a b sb L xs nc ns) (I : Inv σ τ) (hi : i + 5 ≤ L) (k : ∀ σ' τ', Inv σ' τ' → Gg p l e room_1 s m args below meth c D P0 (wz cI cH cE cJ a b) 4 nc ns Q (σ', τ') (LV a b sb i) 778 []) : Gg p l e room_1 s m args below meth c D P0 (wz cI cH cE cJ a b) 4 nc ns Q (σ, τ) (LV a b sb i) 398 [] := by
  obtain ⟨P, Dd, g, kept, hs, len, tx, hD, hPD, h04, Qq, Ih, It⟩ := id I
  obtain ⟨r, h1, h2⟩ := q_where Qq (xa xs i (nI 1)) (xa xs i (nI 2)) (xa xs i (nI 3))
  refine g_aload_n (pc := 398) X.1 dL_law_398 2 rfl rfl ?_
  refine g_arg (pc := 399) X 1 dL_law_399 dL_law_400 dL_law_401 (by decide) dL_law_402 dL_law_403 (by omega) ?_
  refine g_arg (pc := 404) X 2 dL_law_404 dL_law_405 dL_law_406 (by decide) dL_law_407 dL_law_408 (by omega) ?_
  refine g_arg (pc := 409) X 3 dL_law_409 dL_law_410 dL_law_411 (by decide) dL_law_412 dL_law_413 (by omega) ?_
  refine g_cVi (pc := 414) X.1 (σ1 := (σ, τ)) (st := []) (As := [.int (xa xs i (nI 1)), .int (xa xs i (nI 2)), .int (xa xs i (nI 3))]) (jc X.2.2.1 X.2.2.2.1 X.2.2.2.2.1) (c_X7_where l D X.2.1 h1) y_X7_where tw_496 rfl ⟨by decide, by decide⟩ X.2.2.2.2.2.2.2 (Nat.le_of_ble_eq_true rfl) wz_0 cl_X7 rfl dL_law_414 rfl ?_
  refine g_aload_n (pc := 417) X.1 dL_law_417 1 rfl rfl ?_
  refine g_arg (pc := 418) X 1 dL_law_418 dL_law_419 dL_law_420 (by decide) dL_law_421 dL_law_422 (by omega) ?_
  refine g_arg (pc := 423) X 2 dL_law_423 dL_law_424 dL_law_425 (by decide) dL_law_426 dL_law_427 (by omega) ?_
  refine g_arg (pc := 428) X 3 dL_law_428 dL_law_429 dL_law_430 (by decide) dL_law_431 dL_law_432 (by omega) ?_
  refine g_cVi (pc := 433) X.1 (σ1 := (σ, τ)) (st := [.int r]) (As := [.int (xa xs i (nI 1)), .int (xa xs i (nI 2)), .int (xa xs i (nI 3))]) (jm X.2.1 X.2.2.2.1 X.2.2.2.2.2.1) (c_X8_where l D X.2.2.1 h2) y_X8_where tw_817 rfl ⟨by decide, by decide⟩ X.2.2.2.2.2.2.2 (Nat.le_of_ble_eq_true rfl) wz_51 cl_X8 rfl dL_law_433 rfl ?_
  exact g_icmp_eq (pc := 436) X.1 778 dL_law_436 (by decide) (fun _ => k _ _ I) (fun z => absurd rfl z)
theorem k_11 (X : LX p s m args meth c D cI cH cE cJ a b sb L xs nc ns) (I : Inv σ τ) (hi : i + 5 ≤ L) (k : ∀ σ' τ', Inv σ' τ' → Gg p l e room_1 s m args below meth c D P0 (wz cI cH cE cJ a b) 4 nc ns Q (σ', τ') (LV a b sb i) 778 []) : Gg p l e room_1 s m args below meth c D P0 (wz cI cH cE cJ a b) 4 nc ns Q (σ, τ) (LV a b sb i) 441 [] := by
  obtain ⟨P, Dd, g, kept, hs, len, tx, hD, hPD, h04, Qq, Ih, It⟩ := id I
  obtain ⟨r, h1, h2⟩ := q_number Qq (xa xs i (nI 1)) (xa xs i (nI 2)) (xa xs i (nI 3)) (xa xs i (nI 4))
  refine g_aload_n (pc := 441) X.1 dL_law_441 2 rfl rfl ?_
  refine g_arg (pc := 442) X 1 dL_law_442 dL_law_443 dL_law_444 (by decide) dL_law_445 dL_law_446 (by omega) ?_
  refine g_arg (pc := 447) X 2 dL_law_447 dL_law_448 dL_law_449 (by decide) dL_law_450 dL_law_451 (by omega) ?_
  refine g_arg (pc := 452) X 3 dL_law_452 dL_law_453 dL_law_454 (by decide) dL_law_455 dL_law_456 (by omega) ?_
  refine g_arg (pc := 457) X 4 dL_law_457 dL_law_458 dL_law_459 (by decide) dL_law_460 dL_law_461 (by omega) ?_
  refine g_cVi (pc := 462) X.1 (σ1 := (σ, τ)) (st := []) (As := [.int (xa xs i (nI 1)), .int (xa xs i (nI 2)), .int (xa xs i (nI 3)), .int (xa xs i (nI 4))]) (jc X.2.2.1 X.2.2.2.1 X.2.2.2.2.1) (c_X7_number l D X.2.1 h1) y_X7_number tw_507 rfl ⟨by decide, by decide⟩ X.2.2.2.2.2.2.2 (Nat.le_of_ble_eq_true rfl) wz_0 cl_X7 rfl dL_law_462 rfl ?_
  refine g_aload_n (pc := 465) X.1 dL_law_465 1 rfl rfl ?_
  refine g_arg (pc := 466) X 1 dL_law_466 dL_law_467 dL_law_468 (by decide) dL_law_469 dL_law_470 (by omega) ?_
  refine g_arg (pc := 471) X 2 dL_law_471 dL_law_472 dL_law_473 (by decide) dL_law_474 dL_law_475 (by omega) ?_
  refine g_arg (pc := 476) X 3 dL_law_476 dL_law_477 dL_law_478 (by decide) dL_law_479 dL_law_480 (by omega) ?_
  refine g_arg (pc := 481) X 4 dL_law_481 dL_law_482 dL_law_483 (by decide) dL_law_484 dL_law_485 (by omega) ?_
  refine g_cVi (pc := 486) X.1 (σ1 := (σ, τ)) (st := [.int r]) (As := [.int (xa xs i (nI 1)), .int (xa xs i (nI 2)), .int (xa xs i (nI 3)), .int (xa xs i (nI 4))]) (jm X.2.1 X.2.2.2.1 X.2.2.2.2.2.1) (c_X8_number l D X.2.2.1 h2) y_X8_number tw_822 rfl ⟨by decide, by decide⟩ X.2.2.2.2.2.2.2 (Nat.le_of_ble_eq_true rfl) wz_51 cl_X8 rfl dL_law_486 rfl ?_
  exact g_icmp_eq (pc := 489) X.1 778 dL_law_489 (by decide) (fun _ => k _ _ I) (fun z => absurd rfl z)
theorem k_12 (X : LX p s m args meth c D cI cH cE cJ a b sb L xs nc ns) (I : Inv σ τ) (hi : i + 5 ≤ L) (k : ∀ σ' τ', Inv σ' τ' → Gg p l e room_1 s m args below meth c D P0 (wz cI cH cE cJ a b) 4 nc ns Q (σ', τ') (LV a b sb i) 778 []) : Gg p l e room_1 s m args below meth c D P0 (wz cI cH cE cJ a b) 4 nc ns Q (σ, τ) (LV a b sb i) 494 [] := by
  obtain ⟨P, Dd, g, kept, hs, len, tx, hD, hPD, h04, Qq, Ih, It⟩ := id I
  obtain ⟨r, h1, h2⟩ := q_check Qq (xa xs i (nI 1)) (xa xs i (nI 2))
  refine g_aload_n (pc := 494) X.1 dL_law_494 2 rfl rfl ?_
  refine g_arg (pc := 495) X 1 dL_law_495 dL_law_496 dL_law_497 (by decide) dL_law_498 dL_law_499 (by omega) ?_
  refine g_arg (pc := 500) X 2 dL_law_500 dL_law_501 dL_law_502 (by decide) dL_law_503 dL_law_504 (by omega) ?_
  refine g_cVi (pc := 505) X.1 (σ1 := (σ, τ)) (st := []) (As := [.int (xa xs i (nI 1)), .int (xa xs i (nI 2))]) (jc X.2.2.1 X.2.2.2.1 X.2.2.2.2.1) (c_X7_check l D X.2.1 h1) y_X7_check tw_511 rfl ⟨by decide, by decide⟩ X.2.2.2.2.2.2.2 (Nat.le_of_ble_eq_true rfl) wz_0 cl_X7 rfl dL_law_505 rfl ?_
  refine g_aload_n (pc := 508) X.1 dL_law_508 1 rfl rfl ?_
  refine g_arg (pc := 509) X 1 dL_law_509 dL_law_510 dL_law_511 (by decide) dL_law_512 dL_law_513 (by omega) ?_
  refine g_arg (pc := 514) X 2 dL_law_514 dL_law_515 dL_law_516 (by decide) dL_law_517 dL_law_518 (by omega) ?_
  refine g_cVi (pc := 519) X.1 (σ1 := (σ, τ)) (st := [.int r]) (As := [.int (xa xs i (nI 1)), .int (xa xs i (nI 2))]) (jm X.2.1 X.2.2.2.1 X.2.2.2.2.2.1) (c_X8_check l D X.2.2.1 h2) y_X8_check tw_697 rfl ⟨by decide, by decide⟩ X.2.2.2.2.2.2.2 (Nat.le_of_ble_eq_true rfl) wz_51 cl_X8 rfl dL_law_519 rfl ?_
  exact g_icmp_eq (pc := 522) X.1 778 dL_law_522 (by decide) (fun _ => k _ _ I) (fun z => absurd rfl z)
theorem k_13 (X : LX p s m args meth c D cI cH cE cJ a b sb L xs nc ns) (I : Inv σ τ) (hi : i + 5 ≤ L) (k : ∀ σ' τ', Inv σ' τ' → Gg p l e room_1 s m args below meth c D P0 (wz cI cH cE cJ a b) 4 nc ns Q (σ', τ') (LV a b sb i) 778 []) : Gg p l e room_1 s m args below meth c D P0 (wz cI cH cE cJ a b) 4 nc ns Q (σ, τ) (LV a b sb i) 527 [] := by
  obtain ⟨P, Dd, g, kept, hs, len, tx, hD, hPD, h04, Qq, Ih, It⟩ := id I
  obtain ⟨r, h1, h2⟩ := q_missed Qq (xa xs i (nI 1)) (xa xs i (nI 2)) (xa xs i (nI 3))
  refine g_aload_n (pc := 527) X.1 dL_law_527 2 rfl rfl ?_
  refine g_arg (pc := 528) X 1 dL_law_528 dL_law_529 dL_law_530 (by decide) dL_law_531 dL_law_532 (by omega) ?_
  refine g_arg (pc := 533) X 2 dL_law_533 dL_law_534 dL_law_535 (by decide) dL_law_536 dL_law_537 (by omega) ?_
  refine g_arg (pc := 538) X 3 dL_law_538 dL_law_539 dL_law_540 (by decide) dL_law_541 dL_law_542 (by omega) ?_
  refine g_cVi (pc := 543) X.1 (σ1 := (σ, τ)) (st := []) (As := [.int (xa xs i (nI 1)), .int (xa xs i (nI 2)), .int (xa xs i (nI 3))]) (jc X.2.2.1 X.2.2.2.1 X.2.2.2.2.1) (c_X7_missed l D X.2.1 h1) y_X7_missed tw_536 rfl ⟨by decide, by decide⟩ X.2.2.2.2.2.2.2 (Nat.le_of_ble_eq_true rfl) wz_0 cl_X7 rfl dL_law_543 rfl ?_
  refine g_aload_n (pc := 546) X.1 dL_law_546 1 rfl rfl ?_
  refine g_arg (pc := 547) X 1 dL_law_547 dL_law_548 dL_law_549 (by decide) dL_law_550 dL_law_551 (by omega) ?_
  refine g_arg (pc := 552) X 2 dL_law_552 dL_law_553 dL_law_554 (by decide) dL_law_555 dL_law_556 (by omega) ?_
  refine g_arg (pc := 557) X 3 dL_law_557 dL_law_558 dL_law_559 (by decide) dL_law_560 dL_law_561 (by omega) ?_
  refine g_cVi (pc := 562) X.1 (σ1 := (σ, τ)) (st := [.int r]) (As := [.int (xa xs i (nI 1)), .int (xa xs i (nI 2)), .int (xa xs i (nI 3))]) (jm X.2.1 X.2.2.2.1 X.2.2.2.2.2.1) (c_X8_missed l D X.2.2.1 h2) y_X8_missed tw_718 rfl ⟨by decide, by decide⟩ X.2.2.2.2.2.2.2 (Nat.le_of_ble_eq_true rfl) wz_51 cl_X8 rfl dL_law_562 rfl ?_
  exact g_icmp_eq (pc := 565) X.1 778 dL_law_565 (by decide) (fun _ => k _ _ I) (fun z => absurd rfl z)
theorem k_14 (X : LX p s m args meth c D cI cH cE cJ a b sb L xs nc ns) (I : Inv σ τ) (hi : i + 5 ≤ L) (k : ∀ σ' τ', Inv σ' τ' → Gg p l e room_1 s m args below meth c D P0 (wz cI cH cE cJ a b) 4 nc ns Q (σ', τ') (LV a b sb i) 778 []) : Gg p l e room_1 s m args below meth c D P0 (wz cI cH cE cJ a b) 4 nc ns Q (σ, τ) (LV a b sb i) 570 [] := by
  obtain ⟨P, Dd, g, kept, hs, len, tx, hD, hPD, h04, Qq, Ih, It⟩ := id I
  obtain ⟨r, h1, h2⟩ := q_note Qq (xa xs i (nI 1)) (xa xs i (nI 2))
  refine g_aload_n (pc := 570) X.1 dL_law_570 2 rfl rfl ?_
  refine g_arg (pc := 571) X 1 dL_law_571 dL_law_572 dL_law_573 (by decide) dL_law_574 dL_law_575 (by omega) ?_
  refine g_arg (pc := 576) X 2 dL_law_576 dL_law_577 dL_law_578 (by decide) dL_law_579 dL_law_580 (by omega) ?_
  refine g_cVi (pc := 581) X.1 (σ1 := (σ, τ)) (st := []) (As := [.int (xa xs i (nI 1)), .int (xa xs i (nI 2))]) (jc X.2.2.1 X.2.2.2.1 X.2.2.2.2.1) (c_X7_note l D X.2.1 h1) y_X7_note tw_546 rfl ⟨by decide, by decide⟩ X.2.2.2.2.2.2.2 (Nat.le_of_ble_eq_true rfl) wz_0 cl_X7 rfl dL_law_581 rfl ?_
  refine g_aload_n (pc := 584) X.1 dL_law_584 1 rfl rfl ?_
  refine g_arg (pc := 585) X 1 dL_law_585 dL_law_586 dL_law_587 (by decide) dL_law_588 dL_law_589 (by omega) ?_
  refine g_arg (pc := 590) X 2 dL_law_590 dL_law_591 dL_law_592 (by decide) dL_law_593 dL_law_594 (by omega) ?_
  refine g_cVi (pc := 595) X.1 (σ1 := (σ, τ)) (st := [.int r]) (As := [.int (xa xs i (nI 1)), .int (xa xs i (nI 2))]) (jm X.2.1 X.2.2.2.1 X.2.2.2.2.2.1) (c_X8_note l D X.2.2.1 h2) y_X8_note tw_826 rfl ⟨by decide, by decide⟩ X.2.2.2.2.2.2.2 (Nat.le_of_ble_eq_true rfl) wz_51 cl_X8 rfl dL_law_595 rfl ?_
  exact g_icmp_eq (pc := 598) X.1 778 dL_law_598 (by decide) (fun _ => k _ _ I) (fun z => absurd rfl z)
theorem k_15 (X : LX p s m args meth c D cI cH cE cJ a b sb L xs nc ns) (I : Inv σ τ) (hi : i + 5 ≤ L) (k : ∀ σ' τ', Inv σ' τ' → Gg p l e room_1 s m args below meth c D P0 (wz cI cH cE cJ a b) 4 nc ns Q (σ', τ') (LV a b sb i) 778 []) : Gg p l e room_1 s m args below meth c D P0 (wz cI cH cE cJ a b) 4 nc ns Q (σ, τ) (LV a b sb i) 603 [] := by
  obtain ⟨P, Dd, g, kept, hs, len, tx, hD, hPD, h04, Qq, Ih, It⟩ := id I
  obtain ⟨r, h1, h2⟩ := q_star Qq (xa xs i (nI 1)) (xa xs i (nI 2))
  refine g_aload_n (pc := 603) X.1 dL_law_603 2 rfl rfl ?_
  refine g_arg (pc := 604) X 1 dL_law_604 dL_law_605 dL_law_606 (by decide) dL_law_607 dL_law_608 (by omega) ?_
  refine g_arg (pc := 609) X 2 dL_law_609 dL_law_610 dL_law_611 (by decide) dL_law_612 dL_law_613 (by omega) ?_
  refine g_cVi (pc := 614) X.1 (σ1 := (σ, τ)) (st := []) (As := [.int (xa xs i (nI 1)), .int (xa xs i (nI 2))]) (jc X.2.2.1 X.2.2.2.1 X.2.2.2.2.1) (c_X7_star l D X.2.1 h1) y_X7_star tw_550 rfl ⟨by decide, by decide⟩ X.2.2.2.2.2.2.2 (Nat.le_of_ble_eq_true rfl) wz_0 cl_X7 rfl dL_law_614 rfl ?_
  refine g_aload_n (pc := 617) X.1 dL_law_617 1 rfl rfl ?_
  refine g_arg (pc := 618) X 1 dL_law_618 dL_law_619 dL_law_620 (by decide) dL_law_621 dL_law_622 (by omega) ?_
  refine g_arg (pc := 623) X 2 dL_law_623 dL_law_624 dL_law_625 (by decide) dL_law_626 dL_law_627 (by omega) ?_
  refine g_cVi (pc := 628) X.1 (σ1 := (σ, τ)) (st := [.int r]) (As := [.int (xa xs i (nI 1)), .int (xa xs i (nI 2))]) (jm X.2.1 X.2.2.2.1 X.2.2.2.2.2.1) (c_X8_star l D X.2.2.1 h2) y_X8_star tw_830 rfl ⟨by decide, by decide⟩ X.2.2.2.2.2.2.2 (Nat.le_of_ble_eq_true rfl) wz_51 cl_X8 rfl dL_law_628 rfl ?_
  exact g_icmp_eq (pc := 631) X.1 778 dL_law_631 (by decide) (fun _ => k _ _ I) (fun z => absurd rfl z)
theorem k_16 (X : LX p s m args meth c D cI cH cE cJ a b sb L xs nc ns) (I : Inv σ τ) (hi : i + 5 ≤ L) (k : ∀ σ' τ', Inv σ' τ' → Gg p l e room_1 s m args below meth c D P0 (wz cI cH cE cJ a b) 4 nc ns Q (σ', τ') (LV a b sb i) 778 []) : Gg p l e room_1 s m args below meth c D P0 (wz cI cH cE cJ a b) 4 nc ns Q (σ, τ) (LV a b sb i) 636 [] := by
  obtain ⟨P, Dd, g, kept, hs, len, tx, hD, hPD, h04, Qq, Ih, It⟩ := id I
  obtain ⟨r, h1, h2⟩ := q_starOf Qq (xa xs i (nI 1)) (xa xs i (nI 2))
  refine g_aload_n (pc := 636) X.1 dL_law_636 2 rfl rfl ?_
  refine g_arg (pc := 637) X 1 dL_law_637 dL_law_638 dL_law_639 (by decide) dL_law_640 dL_law_641 (by omega) ?_
  refine g_arg (pc := 642) X 2 dL_law_642 dL_law_643 dL_law_644 (by decide) dL_law_645 dL_law_646 (by omega) ?_
  refine g_cVi (pc := 647) X.1 (σ1 := (σ, τ)) (st := []) (As := [.int (xa xs i (nI 1)), .int (xa xs i (nI 2))]) (jc X.2.2.1 X.2.2.2.1 X.2.2.2.2.1) (c_X7_starOf l D X.2.1 h1) y_X7_starOf tw_567 rfl ⟨by decide, by decide⟩ X.2.2.2.2.2.2.2 (Nat.le_of_ble_eq_true rfl) wz_0 cl_X7 rfl dL_law_647 rfl ?_
  refine g_aload_n (pc := 650) X.1 dL_law_650 1 rfl rfl ?_
  refine g_arg (pc := 651) X 1 dL_law_651 dL_law_652 dL_law_653 (by decide) dL_law_654 dL_law_655 (by omega) ?_
  refine g_arg (pc := 656) X 2 dL_law_656 dL_law_657 dL_law_658 (by decide) dL_law_659 dL_law_660 (by omega) ?_
  refine g_cVi (pc := 661) X.1 (σ1 := (σ, τ)) (st := [.int r]) (As := [.int (xa xs i (nI 1)), .int (xa xs i (nI 2))]) (jm X.2.1 X.2.2.2.1 X.2.2.2.2.2.1) (c_X8_starOf l D X.2.2.1 h2) y_X8_starOf tw_834 rfl ⟨by decide, by decide⟩ X.2.2.2.2.2.2.2 (Nat.le_of_ble_eq_true rfl) wz_51 cl_X8 rfl dL_law_661 rfl ?_
  exact g_icmp_eq (pc := 664) X.1 778 dL_law_664 (by decide) (fun _ => k _ _ I) (fun z => absurd rfl z)
theorem k_17 (X : LX p s m args meth c D cI cH cE cJ a b sb L xs nc ns) (I : Inv σ τ) (hi : i + 5 ≤ L) (k : ∀ σ' τ', Inv σ' τ' → Gg p l e room_1 s m args below meth c D P0 (wz cI cH cE cJ a b) 4 nc ns Q (σ', τ') (LV a b sb i) 778 []) : Gg p l e room_1 s m args below meth c D P0 (wz cI cH cE cJ a b) 4 nc ns Q (σ, τ) (LV a b sb i) 669 [] := by
  obtain ⟨P, Dd, g, kept, hs, len, tx, hD, hPD, h04, Qq, Ih, It⟩ := id I
  obtain ⟨r, h1, h2⟩ := q_judge Qq (xa xs i (nI 1)) (xa xs i (nI 2)) (xa xs i (nI 3))
  refine g_aload_n (pc := 669) X.1 dL_law_669 2 rfl rfl ?_
  refine g_arg (pc := 670) X 1 dL_law_670 dL_law_671 dL_law_672 (by decide) dL_law_673 dL_law_674 (by omega) ?_
  refine g_arg (pc := 675) X 2 dL_law_675 dL_law_676 dL_law_677 (by decide) dL_law_678 dL_law_679 (by omega) ?_
  refine g_arg (pc := 680) X 3 dL_law_680 dL_law_681 dL_law_682 (by decide) dL_law_683 dL_law_684 (by omega) ?_
  refine g_cVi (pc := 685) X.1 (σ1 := (σ, τ)) (st := []) (As := [.int (xa xs i (nI 1)), .int (xa xs i (nI 2)), .int (xa xs i (nI 3))]) (jc X.2.2.1 X.2.2.2.1 X.2.2.2.2.1) (c_X7_judge l D X.2.1 h1) y_X7_judge tw_572 rfl ⟨by decide, by decide⟩ X.2.2.2.2.2.2.2 (Nat.le_of_ble_eq_true rfl) wz_0 cl_X7 rfl dL_law_685 rfl ?_
  refine g_aload_n (pc := 688) X.1 dL_law_688 1 rfl rfl ?_
  refine g_arg (pc := 689) X 1 dL_law_689 dL_law_690 dL_law_691 (by decide) dL_law_692 dL_law_693 (by omega) ?_
  refine g_arg (pc := 694) X 2 dL_law_694 dL_law_695 dL_law_696 (by decide) dL_law_697 dL_law_698 (by omega) ?_
  refine g_arg (pc := 699) X 3 dL_law_699 dL_law_700 dL_law_701 (by decide) dL_law_702 dL_law_703 (by omega) ?_
  refine g_cVi (pc := 704) X.1 (σ1 := (σ, τ)) (st := [.int r]) (As := [.int (xa xs i (nI 1)), .int (xa xs i (nI 2)), .int (xa xs i (nI 3))]) (jm X.2.1 X.2.2.2.1 X.2.2.2.2.2.1) (c_X8_judge l D X.2.2.1 h2) y_X8_judge tw_838 rfl ⟨by decide, by decide⟩ X.2.2.2.2.2.2.2 (Nat.le_of_ble_eq_true rfl) wz_51 cl_X8 rfl dL_law_704 rfl ?_
  exact g_icmp_eq (pc := 707) X.1 778 dL_law_707 (by decide) (fun _ => k _ _ I) (fun z => absurd rfl z)
theorem k_18 (X : LX p s m args meth c D cI cH cE cJ a b sb L xs nc ns) (I : Inv σ τ) (hi : i + 5 ≤ L) (k : ∀ σ' τ', Inv σ' τ' → Gg p l e room_1 s m args below meth c D P0 (wz cI cH cE cJ a b) 4 nc ns Q (σ', τ') (LV a b sb i) 778 []) : Gg p l e room_1 s m args below meth c D P0 (wz cI cH cE cJ a b) 4 nc ns Q (σ, τ) (LV a b sb i) 712 [] := by
  obtain ⟨P, Dd, g, kept, hs, len, tx, hD, hPD, h04, Qq, Ih, It⟩ := id I
  obtain ⟨r, h1, h2⟩ := q_pack Qq (xa xs i (nI 1)) (xa xs i (nI 2)) (xa xs i (nI 3))
  refine g_aload_n (pc := 712) X.1 dL_law_712 2 rfl rfl ?_
  refine g_arg (pc := 713) X 1 dL_law_713 dL_law_714 dL_law_715 (by decide) dL_law_716 dL_law_717 (by omega) ?_
  refine g_arg (pc := 718) X 2 dL_law_718 dL_law_719 dL_law_720 (by decide) dL_law_721 dL_law_722 (by omega) ?_
  refine g_arg (pc := 723) X 3 dL_law_723 dL_law_724 dL_law_725 (by decide) dL_law_726 dL_law_727 (by omega) ?_
  refine g_cVi (pc := 728) X.1 (σ1 := (σ, τ)) (st := []) (As := [.int (xa xs i (nI 1)), .int (xa xs i (nI 2)), .int (xa xs i (nI 3))]) (jc X.2.2.1 X.2.2.2.1 X.2.2.2.2.1) (c_X7_pack l D X.2.1 h1) y_X7_pack tw_585 rfl ⟨by decide, by decide⟩ X.2.2.2.2.2.2.2 (Nat.le_of_ble_eq_true rfl) wz_0 cl_X7 rfl dL_law_728 rfl ?_
  refine g_aload_n (pc := 731) X.1 dL_law_731 1 rfl rfl ?_
  refine g_arg (pc := 732) X 1 dL_law_732 dL_law_733 dL_law_734 (by decide) dL_law_735 dL_law_736 (by omega) ?_
  refine g_arg (pc := 737) X 2 dL_law_737 dL_law_738 dL_law_739 (by decide) dL_law_740 dL_law_741 (by omega) ?_
  refine g_arg (pc := 742) X 3 dL_law_742 dL_law_743 dL_law_744 (by decide) dL_law_745 dL_law_746 (by omega) ?_
  refine g_cVi (pc := 747) X.1 (σ1 := (σ, τ)) (st := [.int r]) (As := [.int (xa xs i (nI 1)), .int (xa xs i (nI 2)), .int (xa xs i (nI 3))]) (jm X.2.1 X.2.2.2.1 X.2.2.2.2.2.1) (c_X8_pack l D X.2.2.1 h2) y_X8_pack tw_848 rfl ⟨by decide, by decide⟩ X.2.2.2.2.2.2.2 (Nat.le_of_ble_eq_true rfl) wz_51 cl_X8 rfl dL_law_747 rfl ?_
  exact g_icmp_eq (pc := 750) X.1 778 dL_law_750 (by decide) (fun _ => k _ _ I) (fun z => absurd rfl z)
theorem k_19 (X : LX p s m args meth c D cI cH cE cJ a b sb L xs nc ns) (I : Inv σ τ) (hi : i + 5 ≤ L) (k : ∀ σ' τ', Inv σ' τ' → Gg p l e room_1 s m args below meth c D P0 (wz cI cH cE cJ a b) 4 nc ns Q (σ', τ') (LV a b sb i) 778 []) : Gg p l e room_1 s m args below meth c D P0 (wz cI cH cE cJ a b) 4 nc ns Q (σ, τ) (LV a b sb i) 755 [] := by
  obtain ⟨P, Dd, g, kept, hs, len, tx, hD, hPD, h04, Qq, Ih, It⟩ := id I
  obtain ⟨r, h1, h2⟩ := q_count Qq (Ih.2.1.trans Ih.2.2.1.symm) (It.2.1.trans It.2.2.1.symm) (xa xs i (nI 1))
  refine g_aload_n (pc := 755) X.1 dL_law_755 2 rfl rfl ?_
  refine g_arg (pc := 756) X 1 dL_law_756 dL_law_757 dL_law_758 (by decide) dL_law_759 dL_law_760 (by omega) ?_
  refine g_cVi (pc := 761) X.1 (σ1 := (σ, τ)) (st := []) (As := [.int (xa xs i (nI 1))]) (jc X.2.2.1 X.2.2.2.1 X.2.2.2.2.1) (c_X7_count l D X.2.1 h1) y_X7_count tw_590 rfl ⟨by decide, by decide⟩ X.2.2.2.2.2.2.2 (Nat.le_of_ble_eq_true rfl) wz_0 cl_X7 rfl dL_law_761 rfl ?_
  refine g_aload_n (pc := 764) X.1 dL_law_764 1 rfl rfl ?_
  refine g_arg (pc := 765) X 1 dL_law_765 dL_law_766 dL_law_767 (by decide) dL_law_768 dL_law_769 (by omega) ?_
  refine g_cVi (pc := 770) X.1 (σ1 := (σ, τ)) (st := [.int r]) (As := [.int (xa xs i (nI 1))]) (jm X.2.1 X.2.2.2.1 X.2.2.2.2.2.1) (c_X8_count l D X.2.2.1 h2) y_X8_count tw_853 rfl ⟨by decide, by decide⟩ X.2.2.2.2.2.2.2 (Nat.le_of_ble_eq_true rfl) wz_51 cl_X8 rfl dL_law_770 rfl ?_
  exact g_icmp_eq (pc := 773) X.1 778 dL_law_773 (by decide) (fun _ => k _ _ I) (fun z => absurd rfl z)
end LC
