/-! ===== the law ===== -/
abbrev kL_law : mM := (yL_law, cL_law, 4, some .boolean)
abbrev lwL (i : Nat) : List (Nat × Value) := [(3, .int (nI i)), (2, .ref 111), (1, .ref 0), (0, .ref 1030)]
def lwQ : Option Value → mS → Prop := fun v _ => v = some (.int 1)
section LW
variable {G : mG} {l : Launch} {d : Nat} {σ : mS}
theorem lwc_type {Q : Option Value → mS → Prop} (hd : 12 ≤ d) (i : Nat) (hi : i + 6 ≤ G.2.2.2.2.1) (hN : G.2.2.2.2.1 ≤ 384) (h : J σ) (nx : ∀ s2, J s2 → mW G l d kL_law 1299 (lwL i) [] s2 Q) : mW G l d kL_law 196 (lwL i) [] σ Q := by
  refine m_aload_n dL_law_196 2 rfl ?_
  refine m_aload_n dL_law_197 3 rfl ?_
  refine m_iload_n dL_law_198 0 rfl ?_
  refine m_iconst (v := 1) dL_law_199 (by decide) ?_
  refine m_iadd dL_law_200 ?_
  refine mW.top (w := nI (i + 1)) (nadd rfl) ?_
  refine m_sald dL_law_201 rfl (by omega) hN ?_
  refine m_aload_n dL_law_202 3 rfl ?_
  refine m_iload_n dL_law_203 0 rfl ?_
  refine m_iconst (v := 2) dL_law_204 (by decide) ?_
  refine m_iadd dL_law_205 ?_
  refine mW.top (w := nI (i + 2)) (nadd rfl) ?_
  refine m_sald dL_law_206 rfl (by omega) hN ?_
  refine m_callV (As := [_, _]) dL_law_207 cv_L_13 rfl (by decide) (show d - 1 < d by omega) rfl rfl (Nat.le_of_ble_eq_true rfl) (b_type (d := d - 1) (by omega) h _ _) (fun v1 σ1 hv1 => ?_)
  refine m_qIP hv1 (fun x1 hq => ?_)
  clear hv1 v1
  rename mS => s1
  refine m_aload_n dL_law_210 1 rfl ?_
  refine m_aload_n dL_law_211 3 rfl ?_
  refine m_iload_n dL_law_212 0 rfl ?_
  refine m_iconst (v := 1) dL_law_213 (by decide) ?_
  refine m_iadd dL_law_214 ?_
  refine mW.top (w := nI (i + 1)) (nadd rfl) ?_
  refine m_sald dL_law_215 rfl (by omega) hN ?_
  refine m_aload_n dL_law_216 3 rfl ?_
  refine m_iload_n dL_law_217 0 rfl ?_
  refine m_iconst (v := 2) dL_law_218 (by decide) ?_
  refine m_iadd dL_law_219 ?_
  refine mW.top (w := nI (i + 2)) (nadd rfl) ?_
  refine m_sald dL_law_220 rfl (by omega) hN ?_
  refine m_callV (As := [_, _]) dL_law_221 cv_L_17 rfl (by decide) (show d - 1 < d by omega) rfl rfl (Nat.le_of_ble_eq_true rfl) hq (fun v1 σ1 hv1 => ?_)
  refine m_qIP hv1 (fun x2 hr => ?_)
  clear hv1 v1 hq
  rename mS => s2
  obtain ⟨e1, j2⟩ := hr
  refine m_icmp_eq dL_law_224 1299 (by decide) (fun _ => nx s2 j2) (fun h9 => absurd e1.symm h9)
theorem lwc_wipe {Q : Option Value → mS → Prop} (hd : 12 ≤ d) (i : Nat) (hi : i + 6 ≤ G.2.2.2.2.1) (hN : G.2.2.2.2.1 ≤ 384) (h : J σ) (nx : ∀ s2, J s2 → mW G l d kL_law 1299 (lwL i) [] s2 Q) : mW G l d kL_law 229 (lwL i) [] σ Q := by
  refine m_aload_n dL_law_229 2 rfl ?_
  refine m_aload_n dL_law_230 3 rfl ?_
  refine m_iload_n dL_law_231 0 rfl ?_
  refine m_iconst (v := 1) dL_law_232 (by decide) ?_
  refine m_iadd dL_law_233 ?_
  refine mW.top (w := nI (i + 1)) (nadd rfl) ?_
  refine m_sald dL_law_234 rfl (by omega) hN ?_
  refine m_callV (As := [_]) dL_law_235 cv_L_18 rfl (by decide) (show d - 1 < d by omega) rfl rfl (Nat.le_of_ble_eq_true rfl) (b_wipe (d := d - 1) (by omega) h _) (fun v1 σ1 hv1 => ?_)
  refine m_qIP hv1 (fun x1 hq => ?_)
  clear hv1 v1
  rename mS => s1
  refine m_aload_n dL_law_238 1 rfl ?_
  refine m_aload_n dL_law_239 3 rfl ?_
  refine m_iload_n dL_law_240 0 rfl ?_
  refine m_iconst (v := 1) dL_law_241 (by decide) ?_
  refine m_iadd dL_law_242 ?_
  refine mW.top (w := nI (i + 1)) (nadd rfl) ?_
  refine m_sald dL_law_243 rfl (by omega) hN ?_
  refine m_callV (As := [_]) dL_law_244 cv_L_22 rfl (by decide) (show d - 1 < d by omega) rfl rfl (Nat.le_of_ble_eq_true rfl) hq (fun v1 σ1 hv1 => ?_)
  refine m_qIP hv1 (fun x2 hr => ?_)
  clear hv1 v1 hq
  rename mS => s2
  obtain ⟨e1, j2⟩ := hr
  refine m_icmp_eq dL_law_247 1299 (by decide) (fun _ => nx s2 j2) (fun h9 => absurd e1.symm h9)
theorem lwc_undo {Q : Option Value → mS → Prop} (hd : 12 ≤ d) (i : Nat) (hi : i + 6 ≤ G.2.2.2.2.1) (hN : G.2.2.2.2.1 ≤ 384) (h : J σ) (nx : ∀ s2, J s2 → mW G l d kL_law 1299 (lwL i) [] s2 Q) : mW G l d kL_law 252 (lwL i) [] σ Q := by
  refine m_aload_n dL_law_252 2 rfl ?_
  refine m_aload_n dL_law_253 3 rfl ?_
  refine m_iload_n dL_law_254 0 rfl ?_
  refine m_iconst (v := 1) dL_law_255 (by decide) ?_
  refine m_iadd dL_law_256 ?_
  refine mW.top (w := nI (i + 1)) (nadd rfl) ?_
  refine m_sald dL_law_257 rfl (by omega) hN ?_
  refine m_callV (As := [_]) dL_law_258 cv_L_23 rfl (by decide) (show d - 1 < d by omega) rfl rfl (Nat.le_of_ble_eq_true rfl) (b_undo (d := d - 1) (by omega) h _) (fun v1 σ1 hv1 => ?_)
  refine m_qIP hv1 (fun x1 hq => ?_)
  clear hv1 v1
  rename mS => s1
  refine m_aload_n dL_law_261 1 rfl ?_
  refine m_aload_n dL_law_262 3 rfl ?_
  refine m_iload_n dL_law_263 0 rfl ?_
  refine m_iconst (v := 1) dL_law_264 (by decide) ?_
  refine m_iadd dL_law_265 ?_
  refine mW.top (w := nI (i + 1)) (nadd rfl) ?_
  refine m_sald dL_law_266 rfl (by omega) hN ?_
  refine m_callV (As := [_]) dL_law_267 cv_L_26 rfl (by decide) (show d - 1 < d by omega) rfl rfl (Nat.le_of_ble_eq_true rfl) hq (fun v1 σ1 hv1 => ?_)
  refine m_qIP hv1 (fun x2 hr => ?_)
  clear hv1 v1 hq
  rename mS => s2
  obtain ⟨e1, j2⟩ := hr
  refine m_icmp_eq dL_law_270 1299 (by decide) (fun _ => nx s2 j2) (fun h9 => absurd e1.symm h9)
theorem lwc_fault {Q : Option Value → mS → Prop} (hd : 12 ≤ d) (i : Nat) (hi : i + 6 ≤ G.2.2.2.2.1) (hN : G.2.2.2.2.1 ≤ 384) (h : J σ) (nx : ∀ s2, J s2 → mW G l d kL_law 1299 (lwL i) [] s2 Q) : mW G l d kL_law 275 (lwL i) [] σ Q := by
  refine m_aload_n dL_law_275 2 rfl ?_
  refine m_aload_n dL_law_276 3 rfl ?_
  refine m_iload_n dL_law_277 0 rfl ?_
  refine m_iconst (v := 1) dL_law_278 (by decide) ?_
  refine m_iadd dL_law_279 ?_
  refine mW.top (w := nI (i + 1)) (nadd rfl) ?_
  refine m_sald dL_law_280 rfl (by omega) hN ?_
  refine m_callV (As := [_]) dL_law_281 cv_L_27 rfl (by decide) (show d - 1 < d by omega) rfl rfl (Nat.le_of_ble_eq_true rfl) (b_fault (d := d - 1) (by omega) h _) (fun v1 σ1 hv1 => ?_)
  refine m_qIP hv1 (fun x1 hq => ?_)
  clear hv1 v1
  rename mS => s1
  refine m_aload_n dL_law_284 1 rfl ?_
  refine m_aload_n dL_law_285 3 rfl ?_
  refine m_iload_n dL_law_286 0 rfl ?_
  refine m_iconst (v := 1) dL_law_287 (by decide) ?_
  refine m_iadd dL_law_288 ?_
  refine mW.top (w := nI (i + 1)) (nadd rfl) ?_
  refine m_sald dL_law_289 rfl (by omega) hN ?_
  refine m_callV (As := [_]) dL_law_290 cv_L_30 rfl (by decide) (show d - 1 < d by omega) rfl rfl (Nat.le_of_ble_eq_true rfl) hq (fun v1 σ1 hv1 => ?_)
  refine m_qIP hv1 (fun x2 hr => ?_)
  clear hv1 v1 hq
  rename mS => s2
  obtain ⟨e1, j2⟩ := hr
  refine m_icmp_eq dL_law_293 1299 (by decide) (fun _ => nx s2 j2) (fun h9 => absurd e1.symm h9)
theorem lwc_car {Q : Option Value → mS → Prop} (hd : 12 ≤ d) (i : Nat) (hi : i + 6 ≤ G.2.2.2.2.1) (hN : G.2.2.2.2.1 ≤ 384) (h : J σ) (nx : ∀ s2, J s2 → mW G l d kL_law 1299 (lwL i) [] s2 Q) : mW G l d kL_law 298 (lwL i) [] σ Q := by
  refine m_aload_n dL_law_298 2 rfl ?_
  refine m_aload_n dL_law_299 3 rfl ?_
  refine m_iload_n dL_law_300 0 rfl ?_
  refine m_iconst (v := 1) dL_law_301 (by decide) ?_
  refine m_iadd dL_law_302 ?_
  refine mW.top (w := nI (i + 1)) (nadd rfl) ?_
  refine m_sald dL_law_303 rfl (by omega) hN ?_
  refine m_aload_n dL_law_304 3 rfl ?_
  refine m_iload_n dL_law_305 0 rfl ?_
  refine m_iconst (v := 2) dL_law_306 (by decide) ?_
  refine m_iadd dL_law_307 ?_
  refine mW.top (w := nI (i + 2)) (nadd rfl) ?_
  refine m_sald dL_law_308 rfl (by omega) hN ?_
  refine m_callV (As := [_, _]) dL_law_309 cv_L_31 rfl (by decide) (show d - 1 < d by omega) rfl rfl (Nat.le_of_ble_eq_true rfl) (b_car (d := d - 1) (by omega) h _ _) (fun v1 σ1 hv1 => ?_)
  refine m_qIP hv1 (fun x1 hq => ?_)
  clear hv1 v1
  rename mS => s1
  refine m_aload_n dL_law_312 1 rfl ?_
  refine m_aload_n dL_law_313 3 rfl ?_
  refine m_iload_n dL_law_314 0 rfl ?_
  refine m_iconst (v := 1) dL_law_315 (by decide) ?_
  refine m_iadd dL_law_316 ?_
  refine mW.top (w := nI (i + 1)) (nadd rfl) ?_
  refine m_sald dL_law_317 rfl (by omega) hN ?_
  refine m_aload_n dL_law_318 3 rfl ?_
  refine m_iload_n dL_law_319 0 rfl ?_
  refine m_iconst (v := 2) dL_law_320 (by decide) ?_
  refine m_iadd dL_law_321 ?_
  refine mW.top (w := nI (i + 2)) (nadd rfl) ?_
  refine m_sald dL_law_322 rfl (by omega) hN ?_
  refine m_callV (As := [_, _]) dL_law_323 cv_L_34 rfl (by decide) (show d - 1 < d by omega) rfl rfl (Nat.le_of_ble_eq_true rfl) hq (fun v1 σ1 hv1 => ?_)
  refine m_qIP hv1 (fun x2 hr => ?_)
  clear hv1 v1 hq
  rename mS => s2
  obtain ⟨e1, j2⟩ := hr
  refine m_icmp_eq dL_law_326 1299 (by decide) (fun _ => nx s2 j2) (fun h9 => absurd e1.symm h9)
theorem lwc_steer {Q : Option Value → mS → Prop} (hd : 12 ≤ d) (i : Nat) (hi : i + 6 ≤ G.2.2.2.2.1) (hN : G.2.2.2.2.1 ≤ 384) (h : J σ) (nx : ∀ s2, J s2 → mW G l d kL_law 1299 (lwL i) [] s2 Q) : mW G l d kL_law 331 (lwL i) [] σ Q := by
  refine m_aload_n dL_law_331 2 rfl ?_
  refine m_aload_n dL_law_332 3 rfl ?_
  refine m_iload_n dL_law_333 0 rfl ?_
  refine m_iconst (v := 1) dL_law_334 (by decide) ?_
  refine m_iadd dL_law_335 ?_
  refine mW.top (w := nI (i + 1)) (nadd rfl) ?_
  refine m_sald dL_law_336 rfl (by omega) hN ?_
  refine m_aload_n dL_law_337 3 rfl ?_
  refine m_iload_n dL_law_338 0 rfl ?_
  refine m_iconst (v := 2) dL_law_339 (by decide) ?_
  refine m_iadd dL_law_340 ?_
  refine mW.top (w := nI (i + 2)) (nadd rfl) ?_
  refine m_sald dL_law_341 rfl (by omega) hN ?_
  refine m_callV (As := [_, _]) dL_law_342 cv_L_35 rfl (by decide) (show d - 1 < d by omega) rfl rfl (Nat.le_of_ble_eq_true rfl) (b_steer (d := d - 1) (by omega) h _ _) (fun v1 σ1 hv1 => ?_)
  refine m_qIP hv1 (fun x1 hq => ?_)
  clear hv1 v1
  rename mS => s1
  refine m_aload_n dL_law_345 1 rfl ?_
  refine m_aload_n dL_law_346 3 rfl ?_
  refine m_iload_n dL_law_347 0 rfl ?_
  refine m_iconst (v := 1) dL_law_348 (by decide) ?_
  refine m_iadd dL_law_349 ?_
  refine mW.top (w := nI (i + 1)) (nadd rfl) ?_
  refine m_sald dL_law_350 rfl (by omega) hN ?_
  refine m_aload_n dL_law_351 3 rfl ?_
  refine m_iload_n dL_law_352 0 rfl ?_
  refine m_iconst (v := 2) dL_law_353 (by decide) ?_
  refine m_iadd dL_law_354 ?_
  refine mW.top (w := nI (i + 2)) (nadd rfl) ?_
  refine m_sald dL_law_355 rfl (by omega) hN ?_
  refine m_callV (As := [_, _]) dL_law_356 cv_L_38 rfl (by decide) (show d - 1 < d by omega) rfl rfl (Nat.le_of_ble_eq_true rfl) hq (fun v1 σ1 hv1 => ?_)
  refine m_qIP hv1 (fun x2 hr => ?_)
  clear hv1 v1 hq
  rename mS => s2
  obtain ⟨e1, j2⟩ := hr
  refine m_icmp_eq dL_law_359 1299 (by decide) (fun _ => nx s2 j2) (fun h9 => absurd e1.symm h9)
theorem lwc_event {Q : Option Value → mS → Prop} (hd : 12 ≤ d) (i : Nat) (hi : i + 6 ≤ G.2.2.2.2.1) (hN : G.2.2.2.2.1 ≤ 384) (h : J σ) (nx : ∀ s2, J s2 → mW G l d kL_law 1299 (lwL i) [] s2 Q) : mW G l d kL_law 364 (lwL i) [] σ Q := by
  refine m_aload_n dL_law_364 2 rfl ?_
  refine m_aload_n dL_law_365 3 rfl ?_
  refine m_iload_n dL_law_366 0 rfl ?_
  refine m_iconst (v := 1) dL_law_367 (by decide) ?_
  refine m_iadd dL_law_368 ?_
  refine mW.top (w := nI (i + 1)) (nadd rfl) ?_
  refine m_sald dL_law_369 rfl (by omega) hN ?_
  refine m_aload_n dL_law_370 3 rfl ?_
  refine m_iload_n dL_law_371 0 rfl ?_
  refine m_iconst (v := 2) dL_law_372 (by decide) ?_
  refine m_iadd dL_law_373 ?_
  refine mW.top (w := nI (i + 2)) (nadd rfl) ?_
  refine m_sald dL_law_374 rfl (by omega) hN ?_
  refine m_aload_n dL_law_375 3 rfl ?_
  refine m_iload_n dL_law_376 0 rfl ?_
  refine m_iconst (v := 3) dL_law_377 (by decide) ?_
  refine m_iadd dL_law_378 ?_
  refine mW.top (w := nI (i + 3)) (nadd rfl) ?_
  refine m_sald dL_law_379 rfl (by omega) hN ?_
  refine m_callV (As := [_, _, _]) dL_law_380 cv_L_39 rfl (by decide) (show d - 1 < d by omega) rfl rfl (Nat.le_of_ble_eq_true rfl) (b_event (d := d - 1) (by omega) h _ _ _) (fun v1 σ1 hv1 => ?_)
  refine m_qIP hv1 (fun x1 hq => ?_)
  clear hv1 v1
  rename mS => s1
  refine m_aload_n dL_law_383 1 rfl ?_
  refine m_aload_n dL_law_384 3 rfl ?_
  refine m_iload_n dL_law_385 0 rfl ?_
  refine m_iconst (v := 1) dL_law_386 (by decide) ?_
  refine m_iadd dL_law_387 ?_
  refine mW.top (w := nI (i + 1)) (nadd rfl) ?_
  refine m_sald dL_law_388 rfl (by omega) hN ?_
  refine m_aload_n dL_law_389 3 rfl ?_
  refine m_iload_n dL_law_390 0 rfl ?_
  refine m_iconst (v := 2) dL_law_391 (by decide) ?_
  refine m_iadd dL_law_392 ?_
  refine mW.top (w := nI (i + 2)) (nadd rfl) ?_
  refine m_sald dL_law_393 rfl (by omega) hN ?_
  refine m_aload_n dL_law_394 3 rfl ?_
  refine m_iload_n dL_law_395 0 rfl ?_
  refine m_iconst (v := 3) dL_law_396 (by decide) ?_
  refine m_iadd dL_law_397 ?_
  refine mW.top (w := nI (i + 3)) (nadd rfl) ?_
  refine m_sald dL_law_398 rfl (by omega) hN ?_
  refine m_callV (As := [_, _, _]) dL_law_399 cv_L_43 rfl (by decide) (show d - 1 < d by omega) rfl rfl (Nat.le_of_ble_eq_true rfl) hq (fun v1 σ1 hv1 => ?_)
  refine m_qIP hv1 (fun x2 hr => ?_)
  clear hv1 v1 hq
  rename mS => s2
  obtain ⟨e1, j2⟩ := hr
  refine m_icmp_eq dL_law_402 1299 (by decide) (fun _ => nx s2 j2) (fun h9 => absurd e1.symm h9)
theorem lwc_back {Q : Option Value → mS → Prop} (hd : 12 ≤ d) (i : Nat) (hi : i + 6 ≤ G.2.2.2.2.1) (hN : G.2.2.2.2.1 ≤ 384) (h : J σ) (nx : ∀ s2, J s2 → mW G l d kL_law 1299 (lwL i) [] s2 Q) : mW G l d kL_law 407 (lwL i) [] σ Q := by
  refine m_aload_n dL_law_407 2 rfl ?_
  refine m_callV (As := []) dL_law_408 cv_L_44 rfl (by decide) (show d - 1 < d by omega) rfl rfl (Nat.le_of_ble_eq_true rfl) (b_back (d := d - 1) (by omega) h) (fun v1 σ1 hv1 => ?_)
  refine m_qIP hv1 (fun x1 hq => ?_)
  clear hv1 v1
  rename mS => s1
  refine m_aload_n dL_law_411 1 rfl ?_
  refine m_callV (As := []) dL_law_412 cv_L_48 rfl (by decide) (show d - 1 < d by omega) rfl rfl (Nat.le_of_ble_eq_true rfl) hq (fun v1 σ1 hv1 => ?_)
  refine m_qIP hv1 (fun x2 hr => ?_)
  clear hv1 v1 hq
  rename mS => s2
  obtain ⟨e1, j2⟩ := hr
  refine m_icmp_eq dL_law_415 1299 (by decide) (fun _ => nx s2 j2) (fun h9 => absurd e1.symm h9)
theorem lwc_read {Q : Option Value → mS → Prop} (hd : 12 ≤ d) (i : Nat) (hi : i + 6 ≤ G.2.2.2.2.1) (hN : G.2.2.2.2.1 ≤ 384) (h : J σ) (nx : ∀ s2, J s2 → mW G l d kL_law 1299 (lwL i) [] s2 Q) : mW G l d kL_law 420 (lwL i) [] σ Q := by
  refine m_aload_n dL_law_420 2 rfl ?_
  refine m_aload_n dL_law_421 3 rfl ?_
  refine m_iload_n dL_law_422 0 rfl ?_
  refine m_iconst (v := 1) dL_law_423 (by decide) ?_
  refine m_iadd dL_law_424 ?_
  refine mW.top (w := nI (i + 1)) (nadd rfl) ?_
  refine m_sald dL_law_425 rfl (by omega) hN ?_
  refine m_callV (As := [_]) dL_law_426 cv_L_49 rfl (by decide) (show d - 1 < d by omega) rfl rfl (Nat.le_of_ble_eq_true rfl) (b_read (d := d - 1) (by omega) h _) (fun v1 σ1 hv1 => ?_)
  refine m_qIP hv1 (fun x1 hq => ?_)
  clear hv1 v1
  rename mS => s1
  refine m_aload_n dL_law_429 1 rfl ?_
  refine m_aload_n dL_law_430 3 rfl ?_
  refine m_iload_n dL_law_431 0 rfl ?_
  refine m_iconst (v := 1) dL_law_432 (by decide) ?_
  refine m_iadd dL_law_433 ?_
  refine mW.top (w := nI (i + 1)) (nadd rfl) ?_
  refine m_sald dL_law_434 rfl (by omega) hN ?_
  refine m_callV (As := [_]) dL_law_435 cv_L_52 rfl (by decide) (show d - 1 < d by omega) rfl rfl (Nat.le_of_ble_eq_true rfl) hq (fun v1 σ1 hv1 => ?_)
  refine m_qIP hv1 (fun x2 hr => ?_)
  clear hv1 v1 hq
  rename mS => s2
  obtain ⟨e1, j2⟩ := hr
  refine m_icmp_eq dL_law_438 1299 (by decide) (fun _ => nx s2 j2) (fun h9 => absurd e1.symm h9)
theorem lwc_at {Q : Option Value → mS → Prop} (hd : 12 ≤ d) (i : Nat) (hi : i + 6 ≤ G.2.2.2.2.1) (hN : G.2.2.2.2.1 ≤ 384) (h : J σ) (nx : ∀ s2, J s2 → mW G l d kL_law 1299 (lwL i) [] s2 Q) : mW G l d kL_law 443 (lwL i) [] σ Q := by
  refine m_aload_n dL_law_443 2 rfl ?_
  refine m_aload_n dL_law_444 3 rfl ?_
  refine m_iload_n dL_law_445 0 rfl ?_
  refine m_iconst (v := 1) dL_law_446 (by decide) ?_
  refine m_iadd dL_law_447 ?_
  refine mW.top (w := nI (i + 1)) (nadd rfl) ?_
  refine m_sald dL_law_448 rfl (by omega) hN ?_
  refine m_aload_n dL_law_449 3 rfl ?_
  refine m_iload_n dL_law_450 0 rfl ?_
  refine m_iconst (v := 2) dL_law_451 (by decide) ?_
  refine m_iadd dL_law_452 ?_
  refine mW.top (w := nI (i + 2)) (nadd rfl) ?_
  refine m_sald dL_law_453 rfl (by omega) hN ?_
  refine m_aload_n dL_law_454 3 rfl ?_
  refine m_iload_n dL_law_455 0 rfl ?_
  refine m_iconst (v := 3) dL_law_456 (by decide) ?_
  refine m_iadd dL_law_457 ?_
  refine mW.top (w := nI (i + 3)) (nadd rfl) ?_
  refine m_sald dL_law_458 rfl (by omega) hN ?_
  refine m_callV (As := [_, _, _]) dL_law_459 cv_L_53 rfl (by decide) (show d - 1 < d by omega) rfl rfl (Nat.le_of_ble_eq_true rfl) (b_at (d := d - 1) (by omega) h _ _ _) (fun v1 σ1 hv1 => ?_)
  refine m_qIP hv1 (fun x1 hq => ?_)
  clear hv1 v1
  rename mS => s1
  refine m_aload_n dL_law_462 1 rfl ?_
  refine m_aload_n dL_law_463 3 rfl ?_
  refine m_iload_n dL_law_464 0 rfl ?_
  refine m_iconst (v := 1) dL_law_465 (by decide) ?_
  refine m_iadd dL_law_466 ?_
  refine mW.top (w := nI (i + 1)) (nadd rfl) ?_
  refine m_sald dL_law_467 rfl (by omega) hN ?_
  refine m_aload_n dL_law_468 3 rfl ?_
  refine m_iload_n dL_law_469 0 rfl ?_
  refine m_iconst (v := 2) dL_law_470 (by decide) ?_
  refine m_iadd dL_law_471 ?_
  refine mW.top (w := nI (i + 2)) (nadd rfl) ?_
  refine m_sald dL_law_472 rfl (by omega) hN ?_
  refine m_aload_n dL_law_473 3 rfl ?_
  refine m_iload_n dL_law_474 0 rfl ?_
  refine m_iconst (v := 3) dL_law_475 (by decide) ?_
  refine m_iadd dL_law_476 ?_
  refine mW.top (w := nI (i + 3)) (nadd rfl) ?_
  refine m_sald dL_law_477 rfl (by omega) hN ?_
  refine m_callV (As := [_, _, _]) dL_law_478 cv_L_56 rfl (by decide) (show d - 1 < d by omega) rfl rfl (Nat.le_of_ble_eq_true rfl) hq (fun v1 σ1 hv1 => ?_)
  refine m_qIP hv1 (fun x2 hr => ?_)
  clear hv1 v1 hq
  rename mS => s2
  obtain ⟨e1, j2⟩ := hr
  refine m_icmp_eq dL_law_481 1299 (by decide) (fun _ => nx s2 j2) (fun h9 => absurd e1.symm h9)
theorem lwc_who {Q : Option Value → mS → Prop} (hd : 12 ≤ d) (i : Nat) (hi : i + 6 ≤ G.2.2.2.2.1) (hN : G.2.2.2.2.1 ≤ 384) (h : J σ) (nx : ∀ s2, J s2 → mW G l d kL_law 1299 (lwL i) [] s2 Q) : mW G l d kL_law 486 (lwL i) [] σ Q := by
  refine m_aload_n dL_law_486 2 rfl ?_
  refine m_aload_n dL_law_487 3 rfl ?_
  refine m_iload_n dL_law_488 0 rfl ?_
  refine m_iconst (v := 1) dL_law_489 (by decide) ?_
  refine m_iadd dL_law_490 ?_
  refine mW.top (w := nI (i + 1)) (nadd rfl) ?_
  refine m_sald dL_law_491 rfl (by omega) hN ?_
  refine m_aload_n dL_law_492 3 rfl ?_
  refine m_iload_n dL_law_493 0 rfl ?_
  refine m_iconst (v := 2) dL_law_494 (by decide) ?_
  refine m_iadd dL_law_495 ?_
  refine mW.top (w := nI (i + 2)) (nadd rfl) ?_
  refine m_sald dL_law_496 rfl (by omega) hN ?_
  refine m_aload_n dL_law_497 3 rfl ?_
  refine m_iload_n dL_law_498 0 rfl ?_
  refine m_iconst (v := 3) dL_law_499 (by decide) ?_
  refine m_iadd dL_law_500 ?_
  refine mW.top (w := nI (i + 3)) (nadd rfl) ?_
  refine m_sald dL_law_501 rfl (by omega) hN ?_
  refine m_callV (As := [_, _, _]) dL_law_502 cv_L_57 rfl (by decide) (show d - 1 < d by omega) rfl rfl (Nat.le_of_ble_eq_true rfl) (b_who (d := d - 1) (by omega) h _ _ _) (fun v1 σ1 hv1 => ?_)
  refine m_qIP hv1 (fun x1 hq => ?_)
  clear hv1 v1
  rename mS => s1
  refine m_aload_n dL_law_505 1 rfl ?_
  refine m_aload_n dL_law_506 3 rfl ?_
  refine m_iload_n dL_law_507 0 rfl ?_
  refine m_iconst (v := 1) dL_law_508 (by decide) ?_
  refine m_iadd dL_law_509 ?_
  refine mW.top (w := nI (i + 1)) (nadd rfl) ?_
  refine m_sald dL_law_510 rfl (by omega) hN ?_
  refine m_aload_n dL_law_511 3 rfl ?_
  refine m_iload_n dL_law_512 0 rfl ?_
  refine m_iconst (v := 2) dL_law_513 (by decide) ?_
  refine m_iadd dL_law_514 ?_
  refine mW.top (w := nI (i + 2)) (nadd rfl) ?_
  refine m_sald dL_law_515 rfl (by omega) hN ?_
  refine m_aload_n dL_law_516 3 rfl ?_
  refine m_iload_n dL_law_517 0 rfl ?_
  refine m_iconst (v := 3) dL_law_518 (by decide) ?_
  refine m_iadd dL_law_519 ?_
  refine mW.top (w := nI (i + 3)) (nadd rfl) ?_
  refine m_sald dL_law_520 rfl (by omega) hN ?_
  refine m_callV (As := [_, _, _]) dL_law_521 cv_L_60 rfl (by decide) (show d - 1 < d by omega) rfl rfl (Nat.le_of_ble_eq_true rfl) hq (fun v1 σ1 hv1 => ?_)
  refine m_qIP hv1 (fun x2 hr => ?_)
  clear hv1 v1 hq
  rename mS => s2
  obtain ⟨e1, j2⟩ := hr
  refine m_icmp_eq dL_law_524 1299 (by decide) (fun _ => nx s2 j2) (fun h9 => absurd e1.symm h9)
theorem lwc_house {Q : Option Value → mS → Prop} (hd : 12 ≤ d) (i : Nat) (hi : i + 6 ≤ G.2.2.2.2.1) (hN : G.2.2.2.2.1 ≤ 384) (h : J σ) (nx : ∀ s2, J s2 → mW G l d kL_law 1299 (lwL i) [] s2 Q) : mW G l d kL_law 529 (lwL i) [] σ Q := by
  refine m_aload_n dL_law_529 2 rfl ?_
  refine m_aload_n dL_law_530 3 rfl ?_
  refine m_iload_n dL_law_531 0 rfl ?_
  refine m_iconst (v := 1) dL_law_532 (by decide) ?_
  refine m_iadd dL_law_533 ?_
  refine mW.top (w := nI (i + 1)) (nadd rfl) ?_
  refine m_sald dL_law_534 rfl (by omega) hN ?_
  refine m_aload_n dL_law_535 3 rfl ?_
  refine m_iload_n dL_law_536 0 rfl ?_
  refine m_iconst (v := 2) dL_law_537 (by decide) ?_
  refine m_iadd dL_law_538 ?_
  refine mW.top (w := nI (i + 2)) (nadd rfl) ?_
  refine m_sald dL_law_539 rfl (by omega) hN ?_
  refine m_callV (As := [_, _]) dL_law_540 cv_L_61 rfl (by decide) (show d - 1 < d by omega) rfl rfl (Nat.le_of_ble_eq_true rfl) (b_house (d := d - 1) (by omega) h _ _) (fun v1 σ1 hv1 => ?_)
  refine m_qIP hv1 (fun x1 hq => ?_)
  clear hv1 v1
  rename mS => s1
  refine m_aload_n dL_law_543 1 rfl ?_
  refine m_aload_n dL_law_544 3 rfl ?_
  refine m_iload_n dL_law_545 0 rfl ?_
  refine m_iconst (v := 1) dL_law_546 (by decide) ?_
  refine m_iadd dL_law_547 ?_
  refine mW.top (w := nI (i + 1)) (nadd rfl) ?_
  refine m_sald dL_law_548 rfl (by omega) hN ?_
  refine m_aload_n dL_law_549 3 rfl ?_
  refine m_iload_n dL_law_550 0 rfl ?_
  refine m_iconst (v := 2) dL_law_551 (by decide) ?_
  refine m_iadd dL_law_552 ?_
  refine mW.top (w := nI (i + 2)) (nadd rfl) ?_
  refine m_sald dL_law_553 rfl (by omega) hN ?_
  refine m_callV (As := [_, _]) dL_law_554 cv_L_64 rfl (by decide) (show d - 1 < d by omega) rfl rfl (Nat.le_of_ble_eq_true rfl) hq (fun v1 σ1 hv1 => ?_)
  refine m_qIP hv1 (fun x2 hr => ?_)
  clear hv1 v1 hq
  rename mS => s2
  obtain ⟨e1, j2⟩ := hr
  refine m_icmp_eq dL_law_557 1299 (by decide) (fun _ => nx s2 j2) (fun h9 => absurd e1.symm h9)
theorem lwc_strikes {Q : Option Value → mS → Prop} (hd : 12 ≤ d) (i : Nat) (hi : i + 6 ≤ G.2.2.2.2.1) (hN : G.2.2.2.2.1 ≤ 384) (h : J σ) (nx : ∀ s2, J s2 → mW G l d kL_law 1299 (lwL i) [] s2 Q) : mW G l d kL_law 562 (lwL i) [] σ Q := by
  refine m_aload_n dL_law_562 2 rfl ?_
  refine m_callV (As := []) dL_law_563 cv_L_65 rfl (by decide) (show d - 1 < d by omega) rfl rfl (Nat.le_of_ble_eq_true rfl) (b_strikes (d := d - 1) (by omega) h) (fun v1 σ1 hv1 => ?_)
  refine m_qIP hv1 (fun x1 hq => ?_)
  clear hv1 v1
  rename mS => s1
  refine m_aload_n dL_law_566 1 rfl ?_
  refine m_callV (As := []) dL_law_567 cv_L_68 rfl (by decide) (show d - 1 < d by omega) rfl rfl (Nat.le_of_ble_eq_true rfl) hq (fun v1 σ1 hv1 => ?_)
  refine m_qIP hv1 (fun x2 hr => ?_)
  clear hv1 v1 hq
  rename mS => s2
  obtain ⟨e1, j2⟩ := hr
  refine m_icmp_eq dL_law_570 1299 (by decide) (fun _ => nx s2 j2) (fun h9 => absurd e1.symm h9)
theorem lwc_first {Q : Option Value → mS → Prop} (hd : 12 ≤ d) (i : Nat) (hi : i + 6 ≤ G.2.2.2.2.1) (hN : G.2.2.2.2.1 ≤ 384) (h : J σ) (nx : ∀ s2, J s2 → mW G l d kL_law 1299 (lwL i) [] s2 Q) : mW G l d kL_law 575 (lwL i) [] σ Q := by
  refine m_aload_n dL_law_575 2 rfl ?_
  refine m_aload_n dL_law_576 3 rfl ?_
  refine m_iload_n dL_law_577 0 rfl ?_
  refine m_iconst (v := 1) dL_law_578 (by decide) ?_
  refine m_iadd dL_law_579 ?_
  refine mW.top (w := nI (i + 1)) (nadd rfl) ?_
  refine m_sald dL_law_580 rfl (by omega) hN ?_
  refine m_callV (As := [_]) dL_law_581 cv_L_69 rfl (by decide) (show d - 1 < d by omega) rfl rfl (Nat.le_of_ble_eq_true rfl) (b_first (d := d - 1) (by omega) h _) (fun v1 σ1 hv1 => ?_)
  refine m_qIP hv1 (fun x1 hq => ?_)
  clear hv1 v1
  rename mS => s1
  refine m_aload_n dL_law_584 1 rfl ?_
  refine m_aload_n dL_law_585 3 rfl ?_
  refine m_iload_n dL_law_586 0 rfl ?_
  refine m_iconst (v := 1) dL_law_587 (by decide) ?_
  refine m_iadd dL_law_588 ?_
  refine mW.top (w := nI (i + 1)) (nadd rfl) ?_
  refine m_sald dL_law_589 rfl (by omega) hN ?_
  refine m_callV (As := [_]) dL_law_590 cv_L_72 rfl (by decide) (show d - 1 < d by omega) rfl rfl (Nat.le_of_ble_eq_true rfl) hq (fun v1 σ1 hv1 => ?_)
  refine m_qIP hv1 (fun x2 hr => ?_)
  clear hv1 v1 hq
  rename mS => s2
  obtain ⟨e1, j2⟩ := hr
  refine m_icmp_eq dL_law_593 1299 (by decide) (fun _ => nx s2 j2) (fun h9 => absurd e1.symm h9)
theorem lwc_best {Q : Option Value → mS → Prop} (hd : 12 ≤ d) (i : Nat) (hi : i + 6 ≤ G.2.2.2.2.1) (hN : G.2.2.2.2.1 ≤ 384) (h : J σ) (nx : ∀ s2, J s2 → mW G l d kL_law 1299 (lwL i) [] s2 Q) : mW G l d kL_law 598 (lwL i) [] σ Q := by
  refine m_aload_n dL_law_598 2 rfl ?_
  refine m_callV (As := []) dL_law_599 cv_L_73 rfl (by decide) (show d - 1 < d by omega) rfl rfl (Nat.le_of_ble_eq_true rfl) (b_best (d := d - 1) (by omega) h) (fun v1 σ1 hv1 => ?_)
  refine m_qIP hv1 (fun x1 hq => ?_)
  clear hv1 v1
  rename mS => s1
  refine m_aload_n dL_law_602 1 rfl ?_
  refine m_callV (As := []) dL_law_603 cv_L_76 rfl (by decide) (show d - 1 < d by omega) rfl rfl (Nat.le_of_ble_eq_true rfl) hq (fun v1 σ1 hv1 => ?_)
  refine m_qIP hv1 (fun x2 hr => ?_)
  clear hv1 v1 hq
  rename mS => s2
  obtain ⟨e1, j2⟩ := hr
  refine m_icmp_eq dL_law_606 1299 (by decide) (fun _ => nx s2 j2) (fun h9 => absurd e1.symm h9)
theorem lwc_meek {Q : Option Value → mS → Prop} (hd : 12 ≤ d) (i : Nat) (hi : i + 6 ≤ G.2.2.2.2.1) (hN : G.2.2.2.2.1 ≤ 384) (h : J σ) (nx : ∀ s2, J s2 → mW G l d kL_law 1299 (lwL i) [] s2 Q) : mW G l d kL_law 611 (lwL i) [] σ Q := by
  refine m_aload_n dL_law_611 2 rfl ?_
  refine m_callV (As := []) dL_law_612 cv_L_77 rfl (by decide) (show d - 1 < d by omega) rfl rfl (Nat.le_of_ble_eq_true rfl) (b_meek (d := d - 1) (by omega) h) (fun v1 σ1 hv1 => ?_)
  refine m_qIP hv1 (fun x1 hq => ?_)
  clear hv1 v1
  rename mS => s1
  refine m_aload_n dL_law_615 1 rfl ?_
  refine m_callV (As := []) dL_law_616 cv_L_80 rfl (by decide) (show d - 1 < d by omega) rfl rfl (Nat.le_of_ble_eq_true rfl) hq (fun v1 σ1 hv1 => ?_)
  refine m_qIP hv1 (fun x2 hr => ?_)
  clear hv1 v1 hq
  rename mS => s2
  obtain ⟨e1, j2⟩ := hr
  refine m_icmp_eq dL_law_619 1299 (by decide) (fun _ => nx s2 j2) (fun h9 => absurd e1.symm h9)
theorem lwc_jam {Q : Option Value → mS → Prop} (hd : 12 ≤ d) (i : Nat) (hi : i + 6 ≤ G.2.2.2.2.1) (hN : G.2.2.2.2.1 ≤ 384) (h : J σ) (nx : ∀ s2, J s2 → mW G l d kL_law 1299 (lwL i) [] s2 Q) : mW G l d kL_law 624 (lwL i) [] σ Q := by
  refine m_aload_n dL_law_624 2 rfl ?_
  refine m_aload_n dL_law_625 3 rfl ?_
  refine m_iload_n dL_law_626 0 rfl ?_
  refine m_iconst (v := 1) dL_law_627 (by decide) ?_
  refine m_iadd dL_law_628 ?_
  refine mW.top (w := nI (i + 1)) (nadd rfl) ?_
  refine m_sald dL_law_629 rfl (by omega) hN ?_
  refine m_callV (As := [_]) dL_law_630 cv_L_81 rfl (by decide) (show d - 1 < d by omega) rfl rfl (Nat.le_of_ble_eq_true rfl) (b_jam (d := d - 1) (by omega) h _) (fun v1 σ1 hv1 => ?_)
  refine m_qIP hv1 (fun x1 hq => ?_)
  clear hv1 v1
  rename mS => s1
  refine m_aload_n dL_law_633 1 rfl ?_
  refine m_aload_n dL_law_634 3 rfl ?_
  refine m_iload_n dL_law_635 0 rfl ?_
  refine m_iconst (v := 1) dL_law_636 (by decide) ?_
  refine m_iadd dL_law_637 ?_
  refine mW.top (w := nI (i + 1)) (nadd rfl) ?_
  refine m_sald dL_law_638 rfl (by omega) hN ?_
  refine m_callV (As := [_]) dL_law_639 cv_L_84 rfl (by decide) (show d - 1 < d by omega) rfl rfl (Nat.le_of_ble_eq_true rfl) hq (fun v1 σ1 hv1 => ?_)
  refine m_qIP hv1 (fun x2 hr => ?_)
  clear hv1 v1 hq
  rename mS => s2
  obtain ⟨e1, j2⟩ := hr
  refine m_icmp_eq dL_law_642 1299 (by decide) (fun _ => nx s2 j2) (fun h9 => absurd e1.symm h9)
theorem lwc_carried {Q : Option Value → mS → Prop} (hd : 12 ≤ d) (i : Nat) (hi : i + 6 ≤ G.2.2.2.2.1) (hN : G.2.2.2.2.1 ≤ 384) (h : J σ) (nx : ∀ s2, J s2 → mW G l d kL_law 1299 (lwL i) [] s2 Q) : mW G l d kL_law 647 (lwL i) [] σ Q := by
  refine m_aload_n dL_law_647 2 rfl ?_
  refine m_callV (As := []) dL_law_648 cv_L_85 rfl (by decide) (show d - 1 < d by omega) rfl rfl (Nat.le_of_ble_eq_true rfl) (b_carried (d := d - 1) (by omega) h) (fun v1 σ1 hv1 => ?_)
  refine m_qIP hv1 (fun x1 hq => ?_)
  clear hv1 v1
  rename mS => s1
  refine m_aload_n dL_law_651 1 rfl ?_
  refine m_callV (As := []) dL_law_652 cv_L_88 rfl (by decide) (show d - 1 < d by omega) rfl rfl (Nat.le_of_ble_eq_true rfl) hq (fun v1 σ1 hv1 => ?_)
  refine m_qIP hv1 (fun x2 hr => ?_)
  clear hv1 v1 hq
  rename mS => s2
  obtain ⟨e1, j2⟩ := hr
  refine m_icmp_eq dL_law_655 1299 (by decide) (fun _ => nx s2 j2) (fun h9 => absurd e1.symm h9)
theorem lwc_stand {Q : Option Value → mS → Prop} (hd : 12 ≤ d) (i : Nat) (hi : i + 6 ≤ G.2.2.2.2.1) (hN : G.2.2.2.2.1 ≤ 384) (h : J σ) (nx : ∀ s2, J s2 → mW G l d kL_law 1299 (lwL i) [] s2 Q) : mW G l d kL_law 660 (lwL i) [] σ Q := by
  refine m_aload_n dL_law_660 2 rfl ?_
  refine m_aload_n dL_law_661 3 rfl ?_
  refine m_iload_n dL_law_662 0 rfl ?_
  refine m_iconst (v := 1) dL_law_663 (by decide) ?_
  refine m_iadd dL_law_664 ?_
  refine mW.top (w := nI (i + 1)) (nadd rfl) ?_
  refine m_sald dL_law_665 rfl (by omega) hN ?_
  refine m_aload_n dL_law_666 3 rfl ?_
  refine m_iload_n dL_law_667 0 rfl ?_
  refine m_iconst (v := 2) dL_law_668 (by decide) ?_
  refine m_iadd dL_law_669 ?_
  refine mW.top (w := nI (i + 2)) (nadd rfl) ?_
  refine m_sald dL_law_670 rfl (by omega) hN ?_
  refine m_callV (As := [_, _]) dL_law_671 cv_L_89 rfl (by decide) (show d - 1 < d by omega) rfl rfl (Nat.le_of_ble_eq_true rfl) (b_stand (d := d - 1) (by omega) h _ _) (fun v1 σ1 hv1 => ?_)
  refine m_qIP hv1 (fun x1 hq => ?_)
  clear hv1 v1
  rename mS => s1
  refine m_aload_n dL_law_674 1 rfl ?_
  refine m_aload_n dL_law_675 3 rfl ?_
  refine m_iload_n dL_law_676 0 rfl ?_
  refine m_iconst (v := 1) dL_law_677 (by decide) ?_
  refine m_iadd dL_law_678 ?_
  refine mW.top (w := nI (i + 1)) (nadd rfl) ?_
  refine m_sald dL_law_679 rfl (by omega) hN ?_
  refine m_aload_n dL_law_680 3 rfl ?_
  refine m_iload_n dL_law_681 0 rfl ?_
  refine m_iconst (v := 2) dL_law_682 (by decide) ?_
  refine m_iadd dL_law_683 ?_
  refine mW.top (w := nI (i + 2)) (nadd rfl) ?_
  refine m_sald dL_law_684 rfl (by omega) hN ?_
  refine m_callV (As := [_, _]) dL_law_685 cv_L_92 rfl (by decide) (show d - 1 < d by omega) rfl rfl (Nat.le_of_ble_eq_true rfl) hq (fun v1 σ1 hv1 => ?_)
  refine m_qIP hv1 (fun x2 hr => ?_)
  clear hv1 v1 hq
  rename mS => s2
  obtain ⟨e1, j2⟩ := hr
  refine m_icmp_eq dL_law_688 1299 (by decide) (fun _ => nx s2 j2) (fun h9 => absurd e1.symm h9)
theorem lwc_better {Q : Option Value → mS → Prop} (hd : 12 ≤ d) (i : Nat) (hi : i + 6 ≤ G.2.2.2.2.1) (hN : G.2.2.2.2.1 ≤ 384) (h : J σ) (nx : ∀ s2, J s2 → mW G l d kL_law 1299 (lwL i) [] s2 Q) : mW G l d kL_law 693 (lwL i) [] σ Q := by
  refine m_aload_n dL_law_693 2 rfl ?_
  refine m_aload_n dL_law_694 3 rfl ?_
  refine m_iload_n dL_law_695 0 rfl ?_
  refine m_iconst (v := 1) dL_law_696 (by decide) ?_
  refine m_iadd dL_law_697 ?_
  refine mW.top (w := nI (i + 1)) (nadd rfl) ?_
  refine m_sald dL_law_698 rfl (by omega) hN ?_
  refine m_aload_n dL_law_699 3 rfl ?_
  refine m_iload_n dL_law_700 0 rfl ?_
  refine m_iconst (v := 2) dL_law_701 (by decide) ?_
  refine m_iadd dL_law_702 ?_
  refine mW.top (w := nI (i + 2)) (nadd rfl) ?_
  refine m_sald dL_law_703 rfl (by omega) hN ?_
  refine m_aload_n dL_law_704 3 rfl ?_
  refine m_iload_n dL_law_705 0 rfl ?_
  refine m_iconst (v := 3) dL_law_706 (by decide) ?_
  refine m_iadd dL_law_707 ?_
  refine mW.top (w := nI (i + 3)) (nadd rfl) ?_
  refine m_sald dL_law_708 rfl (by omega) hN ?_
  refine m_callV (As := [_, _, _]) dL_law_709 cv_L_93 rfl (by decide) (show d - 1 < d by omega) rfl rfl (Nat.le_of_ble_eq_true rfl) (b_better (d := d - 1) (by omega) h _ _ _) (fun v1 σ1 hv1 => ?_)
  refine m_qIP hv1 (fun x1 hq => ?_)
  clear hv1 v1
  rename mS => s1
  refine m_aload_n dL_law_712 1 rfl ?_
  refine m_aload_n dL_law_713 3 rfl ?_
  refine m_iload_n dL_law_714 0 rfl ?_
  refine m_iconst (v := 1) dL_law_715 (by decide) ?_
  refine m_iadd dL_law_716 ?_
  refine mW.top (w := nI (i + 1)) (nadd rfl) ?_
  refine m_sald dL_law_717 rfl (by omega) hN ?_
  refine m_aload_n dL_law_718 3 rfl ?_
  refine m_iload_n dL_law_719 0 rfl ?_
  refine m_iconst (v := 2) dL_law_720 (by decide) ?_
  refine m_iadd dL_law_721 ?_
  refine mW.top (w := nI (i + 2)) (nadd rfl) ?_
  refine m_sald dL_law_722 rfl (by omega) hN ?_
  refine m_aload_n dL_law_723 3 rfl ?_
  refine m_iload_n dL_law_724 0 rfl ?_
  refine m_iconst (v := 3) dL_law_725 (by decide) ?_
  refine m_iadd dL_law_726 ?_
  refine mW.top (w := nI (i + 3)) (nadd rfl) ?_
  refine m_sald dL_law_727 rfl (by omega) hN ?_
  refine m_callV (As := [_, _, _]) dL_law_728 cv_L_96 rfl (by decide) (show d - 1 < d by omega) rfl rfl (Nat.le_of_ble_eq_true rfl) hq (fun v1 σ1 hv1 => ?_)
  refine m_qIP hv1 (fun x2 hr => ?_)
  clear hv1 v1 hq
  rename mS => s2
  obtain ⟨e1, j2⟩ := hr
  refine m_icmp_eq dL_law_731 1299 (by decide) (fun _ => nx s2 j2) (fun h9 => absurd e1.symm h9)
theorem lwc_ring {Q : Option Value → mS → Prop} (hd : 12 ≤ d) (i : Nat) (hi : i + 6 ≤ G.2.2.2.2.1) (hN : G.2.2.2.2.1 ≤ 384) (h : J σ) (nx : ∀ s2, J s2 → mW G l d kL_law 1299 (lwL i) [] s2 Q) : mW G l d kL_law 736 (lwL i) [] σ Q := by
  refine m_aload_n dL_law_736 2 rfl ?_
  refine m_aload_n dL_law_737 3 rfl ?_
  refine m_iload_n dL_law_738 0 rfl ?_
  refine m_iconst (v := 1) dL_law_739 (by decide) ?_
  refine m_iadd dL_law_740 ?_
  refine mW.top (w := nI (i + 1)) (nadd rfl) ?_
  refine m_sald dL_law_741 rfl (by omega) hN ?_
  refine m_callV (As := [_]) dL_law_742 cv_L_97 rfl (by decide) (show d - 1 < d by omega) rfl rfl (Nat.le_of_ble_eq_true rfl) (b_ring (d := d - 1) (by omega) h _) (fun v1 σ1 hv1 => ?_)
  refine m_qIP hv1 (fun x1 hq => ?_)
  clear hv1 v1
  rename mS => s1
  refine m_aload_n dL_law_745 1 rfl ?_
  refine m_aload_n dL_law_746 3 rfl ?_
  refine m_iload_n dL_law_747 0 rfl ?_
  refine m_iconst (v := 1) dL_law_748 (by decide) ?_
  refine m_iadd dL_law_749 ?_
  refine mW.top (w := nI (i + 1)) (nadd rfl) ?_
  refine m_sald dL_law_750 rfl (by omega) hN ?_
  refine m_callV (As := [_]) dL_law_751 cv_L_100 rfl (by decide) (show d - 1 < d by omega) rfl rfl (Nat.le_of_ble_eq_true rfl) hq (fun v1 σ1 hv1 => ?_)
  refine m_qIP hv1 (fun x2 hr => ?_)
  clear hv1 v1 hq
  rename mS => s2
  obtain ⟨e1, j2⟩ := hr
  refine m_icmp_eq dL_law_754 1299 (by decide) (fun _ => nx s2 j2) (fun h9 => absurd e1.symm h9)
theorem lwc_spare {Q : Option Value → mS → Prop} (hd : 12 ≤ d) (i : Nat) (hi : i + 6 ≤ G.2.2.2.2.1) (hN : G.2.2.2.2.1 ≤ 384) (h : J σ) (nx : ∀ s2, J s2 → mW G l d kL_law 1299 (lwL i) [] s2 Q) : mW G l d kL_law 759 (lwL i) [] σ Q := by
  refine m_aload_n dL_law_759 2 rfl ?_
  refine m_aload_n dL_law_760 3 rfl ?_
  refine m_iload_n dL_law_761 0 rfl ?_
  refine m_iconst (v := 1) dL_law_762 (by decide) ?_
  refine m_iadd dL_law_763 ?_
  refine mW.top (w := nI (i + 1)) (nadd rfl) ?_
  refine m_sald dL_law_764 rfl (by omega) hN ?_
  refine m_callV (As := [_]) dL_law_765 cv_L_101 rfl (by decide) (show d - 1 < d by omega) rfl rfl (Nat.le_of_ble_eq_true rfl) (b_spare (d := d - 1) (by omega) h _) (fun v1 σ1 hv1 => ?_)
  refine m_qIP hv1 (fun x1 hq => ?_)
  clear hv1 v1
  rename mS => s1
  refine m_aload_n dL_law_768 1 rfl ?_
  refine m_aload_n dL_law_769 3 rfl ?_
  refine m_iload_n dL_law_770 0 rfl ?_
  refine m_iconst (v := 1) dL_law_771 (by decide) ?_
  refine m_iadd dL_law_772 ?_
  refine mW.top (w := nI (i + 1)) (nadd rfl) ?_
  refine m_sald dL_law_773 rfl (by omega) hN ?_
  refine m_callV (As := [_]) dL_law_774 cv_L_104 rfl (by decide) (show d - 1 < d by omega) rfl rfl (Nat.le_of_ble_eq_true rfl) hq (fun v1 σ1 hv1 => ?_)
  refine m_qIP hv1 (fun x2 hr => ?_)
  clear hv1 v1 hq
  rename mS => s2
  obtain ⟨e1, j2⟩ := hr
  refine m_icmp_eq dL_law_777 1299 (by decide) (fun _ => nx s2 j2) (fun h9 => absurd e1.symm h9)
theorem lwc_seen {Q : Option Value → mS → Prop} (hd : 12 ≤ d) (i : Nat) (hi : i + 6 ≤ G.2.2.2.2.1) (hN : G.2.2.2.2.1 ≤ 384) (h : J σ) (nx : ∀ s2, J s2 → mW G l d kL_law 1299 (lwL i) [] s2 Q) : mW G l d kL_law 782 (lwL i) [] σ Q := by
  refine m_aload_n dL_law_782 2 rfl ?_
  refine m_aload_n dL_law_783 3 rfl ?_
  refine m_iload_n dL_law_784 0 rfl ?_
  refine m_iconst (v := 1) dL_law_785 (by decide) ?_
  refine m_iadd dL_law_786 ?_
  refine mW.top (w := nI (i + 1)) (nadd rfl) ?_
  refine m_sald dL_law_787 rfl (by omega) hN ?_
  refine m_aload_n dL_law_788 3 rfl ?_
  refine m_iload_n dL_law_789 0 rfl ?_
  refine m_iconst (v := 2) dL_law_790 (by decide) ?_
  refine m_iadd dL_law_791 ?_
  refine mW.top (w := nI (i + 2)) (nadd rfl) ?_
  refine m_sald dL_law_792 rfl (by omega) hN ?_
  refine m_aload_n dL_law_793 3 rfl ?_
  refine m_iload_n dL_law_794 0 rfl ?_
  refine m_iconst (v := 3) dL_law_795 (by decide) ?_
  refine m_iadd dL_law_796 ?_
  refine mW.top (w := nI (i + 3)) (nadd rfl) ?_
  refine m_sald dL_law_797 rfl (by omega) hN ?_
  refine m_aload_n dL_law_798 3 rfl ?_
  refine m_iload_n dL_law_799 0 rfl ?_
  refine m_iconst (v := 4) dL_law_800 (by decide) ?_
  refine m_iadd dL_law_801 ?_
  refine mW.top (w := nI (i + 4)) (nadd rfl) ?_
  refine m_sald dL_law_802 rfl (by omega) hN ?_
  refine m_callV (As := [_, _, _, _]) dL_law_803 cv_L_105 rfl (by decide) (show d - 1 < d by omega) rfl rfl (Nat.le_of_ble_eq_true rfl) (b_seen (d := d - 1) (by omega) h _ _ _ _) (fun v1 σ1 hv1 => ?_)
  refine m_qIP hv1 (fun x1 hq => ?_)
  clear hv1 v1
  rename mS => s1
  refine m_aload_n dL_law_806 1 rfl ?_
  refine m_aload_n dL_law_807 3 rfl ?_
  refine m_iload_n dL_law_808 0 rfl ?_
  refine m_iconst (v := 1) dL_law_809 (by decide) ?_
  refine m_iadd dL_law_810 ?_
  refine mW.top (w := nI (i + 1)) (nadd rfl) ?_
  refine m_sald dL_law_811 rfl (by omega) hN ?_
  refine m_aload_n dL_law_812 3 rfl ?_
  refine m_iload_n dL_law_813 0 rfl ?_
  refine m_iconst (v := 2) dL_law_814 (by decide) ?_
  refine m_iadd dL_law_815 ?_
  refine mW.top (w := nI (i + 2)) (nadd rfl) ?_
  refine m_sald dL_law_816 rfl (by omega) hN ?_
  refine m_aload_n dL_law_817 3 rfl ?_
  refine m_iload_n dL_law_818 0 rfl ?_
  refine m_iconst (v := 3) dL_law_819 (by decide) ?_
  refine m_iadd dL_law_820 ?_
  refine mW.top (w := nI (i + 3)) (nadd rfl) ?_
  refine m_sald dL_law_821 rfl (by omega) hN ?_
  refine m_aload_n dL_law_822 3 rfl ?_
  refine m_iload_n dL_law_823 0 rfl ?_
  refine m_iconst (v := 4) dL_law_824 (by decide) ?_
  refine m_iadd dL_law_825 ?_
  refine mW.top (w := nI (i + 4)) (nadd rfl) ?_
  refine m_sald dL_law_826 rfl (by omega) hN ?_
  refine m_callV (As := [_, _, _, _]) dL_law_827 cv_L_109 rfl (by decide) (show d - 1 < d by omega) rfl rfl (Nat.le_of_ble_eq_true rfl) hq (fun v1 σ1 hv1 => ?_)
  refine m_qIP hv1 (fun x2 hr => ?_)
  clear hv1 v1 hq
  rename mS => s2
  obtain ⟨e1, j2⟩ := hr
  refine m_icmp_eq dL_law_830 1299 (by decide) (fun _ => nx s2 j2) (fun h9 => absurd e1.symm h9)
theorem lwc_forget {Q : Option Value → mS → Prop} (hd : 12 ≤ d) (i : Nat) (hi : i + 6 ≤ G.2.2.2.2.1) (hN : G.2.2.2.2.1 ≤ 384) (h : J σ) (nx : ∀ s2, J s2 → mW G l d kL_law 1299 (lwL i) [] s2 Q) : mW G l d kL_law 835 (lwL i) [] σ Q := by
  refine m_aload_n dL_law_835 2 rfl ?_
  refine m_callV (As := []) dL_law_836 cv_L_110 rfl (by decide) (show d - 1 < d by omega) rfl rfl (Nat.le_of_ble_eq_true rfl) (b_forget (d := d - 1) (by omega) h) (fun v1 σ1 hv1 => ?_)
  refine m_qIP hv1 (fun x1 hq => ?_)
  clear hv1 v1
  rename mS => s1
  refine m_aload_n dL_law_839 1 rfl ?_
  refine m_callV (As := []) dL_law_840 cv_L_113 rfl (by decide) (show d - 1 < d by omega) rfl rfl (Nat.le_of_ble_eq_true rfl) hq (fun v1 σ1 hv1 => ?_)
  refine m_qIP hv1 (fun x2 hr => ?_)
  clear hv1 v1 hq
  rename mS => s2
  obtain ⟨e1, j2⟩ := hr
  refine m_icmp_eq dL_law_843 1299 (by decide) (fun _ => nx s2 j2) (fun h9 => absurd e1.symm h9)
theorem lwc_never {Q : Option Value → mS → Prop} (hd : 12 ≤ d) (i : Nat) (hi : i + 6 ≤ G.2.2.2.2.1) (hN : G.2.2.2.2.1 ≤ 384) (h : J σ) (nx : ∀ s2, J s2 → mW G l d kL_law 1299 (lwL i) [] s2 Q) : mW G l d kL_law 848 (lwL i) [] σ Q := by
  refine m_aload_n dL_law_848 2 rfl ?_
  refine m_callV (As := []) dL_law_849 cv_L_114 rfl (by decide) (show d - 1 < d by omega) rfl rfl (Nat.le_of_ble_eq_true rfl) (b_never (d := d - 1) (by omega) h) (fun v1 σ1 hv1 => ?_)
  refine m_qIP hv1 (fun x1 hq => ?_)
  clear hv1 v1
  rename mS => s1
  refine m_aload_n dL_law_852 1 rfl ?_
  refine m_callV (As := []) dL_law_853 cv_L_117 rfl (by decide) (show d - 1 < d by omega) rfl rfl (Nat.le_of_ble_eq_true rfl) hq (fun v1 σ1 hv1 => ?_)
  refine m_qIP hv1 (fun x2 hr => ?_)
  clear hv1 v1 hq
  rename mS => s2
  obtain ⟨e1, j2⟩ := hr
  refine m_icmp_eq dL_law_856 1299 (by decide) (fun _ => nx s2 j2) (fun h9 => absurd e1.symm h9)
theorem lwc_was {Q : Option Value → mS → Prop} (hd : 12 ≤ d) (i : Nat) (hi : i + 6 ≤ G.2.2.2.2.1) (hN : G.2.2.2.2.1 ≤ 384) (h : J σ) (nx : ∀ s2, J s2 → mW G l d kL_law 1299 (lwL i) [] s2 Q) : mW G l d kL_law 861 (lwL i) [] σ Q := by
  refine m_aload_n dL_law_861 2 rfl ?_
  refine m_aload_n dL_law_862 3 rfl ?_
  refine m_iload_n dL_law_863 0 rfl ?_
  refine m_iconst (v := 1) dL_law_864 (by decide) ?_
  refine m_iadd dL_law_865 ?_
  refine mW.top (w := nI (i + 1)) (nadd rfl) ?_
  refine m_sald dL_law_866 rfl (by omega) hN ?_
  refine m_aload_n dL_law_867 3 rfl ?_
  refine m_iload_n dL_law_868 0 rfl ?_
  refine m_iconst (v := 2) dL_law_869 (by decide) ?_
  refine m_iadd dL_law_870 ?_
  refine mW.top (w := nI (i + 2)) (nadd rfl) ?_
  refine m_sald dL_law_871 rfl (by omega) hN ?_
  refine m_callV (As := [_, _]) dL_law_872 cv_L_118 rfl (by decide) (show d - 1 < d by omega) rfl rfl (Nat.le_of_ble_eq_true rfl) (b_was (d := d - 1) (by omega) h _ _) (fun v1 σ1 hv1 => ?_)
  refine m_qIP hv1 (fun x1 hq => ?_)
  clear hv1 v1
  rename mS => s1
  refine m_aload_n dL_law_875 1 rfl ?_
  refine m_aload_n dL_law_876 3 rfl ?_
  refine m_iload_n dL_law_877 0 rfl ?_
  refine m_iconst (v := 1) dL_law_878 (by decide) ?_
  refine m_iadd dL_law_879 ?_
  refine mW.top (w := nI (i + 1)) (nadd rfl) ?_
  refine m_sald dL_law_880 rfl (by omega) hN ?_
  refine m_aload_n dL_law_881 3 rfl ?_
  refine m_iload_n dL_law_882 0 rfl ?_
  refine m_iconst (v := 2) dL_law_883 (by decide) ?_
  refine m_iadd dL_law_884 ?_
  refine mW.top (w := nI (i + 2)) (nadd rfl) ?_
  refine m_sald dL_law_885 rfl (by omega) hN ?_
  refine m_callV (As := [_, _]) dL_law_886 cv_L_121 rfl (by decide) (show d - 1 < d by omega) rfl rfl (Nat.le_of_ble_eq_true rfl) hq (fun v1 σ1 hv1 => ?_)
  refine m_qIP hv1 (fun x2 hr => ?_)
  clear hv1 v1 hq
  rename mS => s2
  obtain ⟨e1, j2⟩ := hr
  refine m_icmp_eq dL_law_889 1299 (by decide) (fun _ => nx s2 j2) (fun h9 => absurd e1.symm h9)
theorem lwc_ask {Q : Option Value → mS → Prop} (hd : 12 ≤ d) (i : Nat) (hi : i + 6 ≤ G.2.2.2.2.1) (hN : G.2.2.2.2.1 ≤ 384) (h : J σ) (nx : ∀ s2, J s2 → mW G l d kL_law 1299 (lwL i) [] s2 Q) : mW G l d kL_law 894 (lwL i) [] σ Q := by
  refine m_aload_n dL_law_894 2 rfl ?_
  refine m_aload_n dL_law_895 3 rfl ?_
  refine m_iload_n dL_law_896 0 rfl ?_
  refine m_iconst (v := 1) dL_law_897 (by decide) ?_
  refine m_iadd dL_law_898 ?_
  refine mW.top (w := nI (i + 1)) (nadd rfl) ?_
  refine m_sald dL_law_899 rfl (by omega) hN ?_
  refine m_callV (As := [_]) dL_law_900 cv_L_122 rfl (by decide) (show d - 1 < d by omega) rfl rfl (Nat.le_of_ble_eq_true rfl) (b_ask (d := d - 1) (by omega) h _) (fun v1 σ1 hv1 => ?_)
  refine m_qIP hv1 (fun x1 hq => ?_)
  clear hv1 v1
  rename mS => s1
  refine m_aload_n dL_law_903 1 rfl ?_
  refine m_aload_n dL_law_904 3 rfl ?_
  refine m_iload_n dL_law_905 0 rfl ?_
  refine m_iconst (v := 1) dL_law_906 (by decide) ?_
  refine m_iadd dL_law_907 ?_
  refine mW.top (w := nI (i + 1)) (nadd rfl) ?_
  refine m_sald dL_law_908 rfl (by omega) hN ?_
  refine m_callV (As := [_]) dL_law_909 cv_L_125 rfl (by decide) (show d - 1 < d by omega) rfl rfl (Nat.le_of_ble_eq_true rfl) hq (fun v1 σ1 hv1 => ?_)
  refine m_qIP hv1 (fun x2 hr => ?_)
  clear hv1 v1 hq
  rename mS => s2
  obtain ⟨e1, j2⟩ := hr
  refine m_icmp_eq dL_law_912 1299 (by decide) (fun _ => nx s2 j2) (fun h9 => absurd e1.symm h9)
theorem lwc_chance {Q : Option Value → mS → Prop} (hd : 12 ≤ d) (i : Nat) (hi : i + 6 ≤ G.2.2.2.2.1) (hN : G.2.2.2.2.1 ≤ 384) (h : J σ) (nx : ∀ s2, J s2 → mW G l d kL_law 1299 (lwL i) [] s2 Q) : mW G l d kL_law 917 (lwL i) [] σ Q := by
  refine m_aload_n dL_law_917 2 rfl ?_
  refine m_aload_n dL_law_918 3 rfl ?_
  refine m_iload_n dL_law_919 0 rfl ?_
  refine m_iconst (v := 1) dL_law_920 (by decide) ?_
  refine m_iadd dL_law_921 ?_
  refine mW.top (w := nI (i + 1)) (nadd rfl) ?_
  refine m_sald dL_law_922 rfl (by omega) hN ?_
  refine m_aload_n dL_law_923 3 rfl ?_
  refine m_iload_n dL_law_924 0 rfl ?_
  refine m_iconst (v := 2) dL_law_925 (by decide) ?_
  refine m_iadd dL_law_926 ?_
  refine mW.top (w := nI (i + 2)) (nadd rfl) ?_
  refine m_sald dL_law_927 rfl (by omega) hN ?_
  refine m_aload_n dL_law_928 3 rfl ?_
  refine m_iload_n dL_law_929 0 rfl ?_
  refine m_iconst (v := 3) dL_law_930 (by decide) ?_
  refine m_iadd dL_law_931 ?_
  refine mW.top (w := nI (i + 3)) (nadd rfl) ?_
  refine m_sald dL_law_932 rfl (by omega) hN ?_
  refine m_callV (As := [_, _, _]) dL_law_933 cv_L_126 rfl (by decide) (show d - 1 < d by omega) rfl rfl (Nat.le_of_ble_eq_true rfl) (b_chance (d := d - 1) (by omega) h _ _ _) (fun v1 σ1 hv1 => ?_)
  refine m_qLP hv1 (fun x1 hq => ?_)
  clear hv1 v1
  rename mS => s1
  refine m_aload_n dL_law_936 1 rfl ?_
  refine m_aload_n dL_law_937 3 rfl ?_
  refine m_iload_n dL_law_938 0 rfl ?_
  refine m_iconst (v := 1) dL_law_939 (by decide) ?_
  refine m_iadd dL_law_940 ?_
  refine mW.top (w := nI (i + 1)) (nadd rfl) ?_
  refine m_sald dL_law_941 rfl (by omega) hN ?_
  refine m_aload_n dL_law_942 3 rfl ?_
  refine m_iload_n dL_law_943 0 rfl ?_
  refine m_iconst (v := 2) dL_law_944 (by decide) ?_
  refine m_iadd dL_law_945 ?_
  refine mW.top (w := nI (i + 2)) (nadd rfl) ?_
  refine m_sald dL_law_946 rfl (by omega) hN ?_
  refine m_aload_n dL_law_947 3 rfl ?_
  refine m_iload_n dL_law_948 0 rfl ?_
  refine m_iconst (v := 3) dL_law_949 (by decide) ?_
  refine m_iadd dL_law_950 ?_
  refine mW.top (w := nI (i + 3)) (nadd rfl) ?_
  refine m_sald dL_law_951 rfl (by omega) hN ?_
  refine m_callV (As := [_, _, _]) dL_law_952 cv_L_130 rfl (by decide) (show d - 1 < d by omega) rfl rfl (Nat.le_of_ble_eq_true rfl) hq (fun v1 σ1 hv1 => ?_)
  refine m_qLP hv1 (fun x2 hr => ?_)
  clear hv1 v1 hq
  rename mS => s2
  obtain ⟨e1, j2⟩ := hr
  refine m_lcmp dL_law_955 ?_
  refine m_if_eq dL_law_956 1299 (by decide) (fun _ => nx s2 j2) (fun h9 => absurd (lcmp_eq.mpr e1.symm) h9)
theorem lwc_ages {Q : Option Value → mS → Prop} (hd : 12 ≤ d) (i : Nat) (hi : i + 6 ≤ G.2.2.2.2.1) (hN : G.2.2.2.2.1 ≤ 384) (h : J σ) (nx : ∀ s2, J s2 → mW G l d kL_law 1299 (lwL i) [] s2 Q) : mW G l d kL_law 961 (lwL i) [] σ Q := by
  refine m_aload_n dL_law_961 2 rfl ?_
  refine m_aload_n dL_law_962 3 rfl ?_
  refine m_iload_n dL_law_963 0 rfl ?_
  refine m_iconst (v := 1) dL_law_964 (by decide) ?_
  refine m_iadd dL_law_965 ?_
  refine mW.top (w := nI (i + 1)) (nadd rfl) ?_
  refine m_sald dL_law_966 rfl (by omega) hN ?_
  refine m_aload_n dL_law_967 3 rfl ?_
  refine m_iload_n dL_law_968 0 rfl ?_
  refine m_iconst (v := 2) dL_law_969 (by decide) ?_
  refine m_iadd dL_law_970 ?_
  refine mW.top (w := nI (i + 2)) (nadd rfl) ?_
  refine m_sald dL_law_971 rfl (by omega) hN ?_
  refine m_aload_n dL_law_972 3 rfl ?_
  refine m_iload_n dL_law_973 0 rfl ?_
  refine m_iconst (v := 3) dL_law_974 (by decide) ?_
  refine m_iadd dL_law_975 ?_
  refine mW.top (w := nI (i + 3)) (nadd rfl) ?_
  refine m_sald dL_law_976 rfl (by omega) hN ?_
  refine m_callV (As := [_, _, _]) dL_law_977 cv_L_131 rfl (by decide) (show d - 1 < d by omega) rfl rfl (Nat.le_of_ble_eq_true rfl) (b_ages (d := d - 1) (by omega) h _ _ _) (fun v1 σ1 hv1 => ?_)
  refine m_qIP hv1 (fun x1 hq => ?_)
  clear hv1 v1
  rename mS => s1
  refine m_aload_n dL_law_980 1 rfl ?_
  refine m_aload_n dL_law_981 3 rfl ?_
  refine m_iload_n dL_law_982 0 rfl ?_
  refine m_iconst (v := 1) dL_law_983 (by decide) ?_
  refine m_iadd dL_law_984 ?_
  refine mW.top (w := nI (i + 1)) (nadd rfl) ?_
  refine m_sald dL_law_985 rfl (by omega) hN ?_
  refine m_aload_n dL_law_986 3 rfl ?_
  refine m_iload_n dL_law_987 0 rfl ?_
  refine m_iconst (v := 2) dL_law_988 (by decide) ?_
  refine m_iadd dL_law_989 ?_
  refine mW.top (w := nI (i + 2)) (nadd rfl) ?_
  refine m_sald dL_law_990 rfl (by omega) hN ?_
  refine m_aload_n dL_law_991 3 rfl ?_
  refine m_iload_n dL_law_992 0 rfl ?_
  refine m_iconst (v := 3) dL_law_993 (by decide) ?_
  refine m_iadd dL_law_994 ?_
  refine mW.top (w := nI (i + 3)) (nadd rfl) ?_
  refine m_sald dL_law_995 rfl (by omega) hN ?_
  refine m_callV (As := [_, _, _]) dL_law_996 cv_L_134 rfl (by decide) (show d - 1 < d by omega) rfl rfl (Nat.le_of_ble_eq_true rfl) hq (fun v1 σ1 hv1 => ?_)
  refine m_qIP hv1 (fun x2 hr => ?_)
  clear hv1 v1 hq
  rename mS => s2
  obtain ⟨e1, j2⟩ := hr
  refine m_icmp_eq dL_law_999 1299 (by decide) (fun _ => nx s2 j2) (fun h9 => absurd e1.symm h9)
theorem lwc_sheet {Q : Option Value → mS → Prop} (hd : 12 ≤ d) (i : Nat) (hi : i + 6 ≤ G.2.2.2.2.1) (hN : G.2.2.2.2.1 ≤ 384) (h : J σ) (nx : ∀ s2, J s2 → mW G l d kL_law 1299 (lwL i) [] s2 Q) : mW G l d kL_law 1004 (lwL i) [] σ Q := by
  refine m_aload_n dL_law_1004 2 rfl ?_
  refine m_aload_n dL_law_1005 3 rfl ?_
  refine m_iload_n dL_law_1006 0 rfl ?_
  refine m_iconst (v := 1) dL_law_1007 (by decide) ?_
  refine m_iadd dL_law_1008 ?_
  refine mW.top (w := nI (i + 1)) (nadd rfl) ?_
  refine m_sald dL_law_1009 rfl (by omega) hN ?_
  refine m_aload_n dL_law_1010 3 rfl ?_
  refine m_iload_n dL_law_1011 0 rfl ?_
  refine m_iconst (v := 2) dL_law_1012 (by decide) ?_
  refine m_iadd dL_law_1013 ?_
  refine mW.top (w := nI (i + 2)) (nadd rfl) ?_
  refine m_sald dL_law_1014 rfl (by omega) hN ?_
  refine m_aload_n dL_law_1015 3 rfl ?_
  refine m_iload_n dL_law_1016 0 rfl ?_
  refine m_iconst (v := 3) dL_law_1017 (by decide) ?_
  refine m_iadd dL_law_1018 ?_
  refine mW.top (w := nI (i + 3)) (nadd rfl) ?_
  refine m_sald dL_law_1019 rfl (by omega) hN ?_
  refine m_callV (As := [_, _, _]) dL_law_1020 cv_L_135 rfl (by decide) (show d - 1 < d by omega) rfl rfl (Nat.le_of_ble_eq_true rfl) (b_sheet (d := d - 1) (by omega) h _ _ _) (fun v1 σ1 hv1 => ?_)
  refine m_qIP hv1 (fun x1 hq => ?_)
  clear hv1 v1
  rename mS => s1
  refine m_aload_n dL_law_1023 1 rfl ?_
  refine m_aload_n dL_law_1024 3 rfl ?_
  refine m_iload_n dL_law_1025 0 rfl ?_
  refine m_iconst (v := 1) dL_law_1026 (by decide) ?_
  refine m_iadd dL_law_1027 ?_
  refine mW.top (w := nI (i + 1)) (nadd rfl) ?_
  refine m_sald dL_law_1028 rfl (by omega) hN ?_
  refine m_aload_n dL_law_1029 3 rfl ?_
  refine m_iload_n dL_law_1030 0 rfl ?_
  refine m_iconst (v := 2) dL_law_1031 (by decide) ?_
  refine m_iadd dL_law_1032 ?_
  refine mW.top (w := nI (i + 2)) (nadd rfl) ?_
  refine m_sald dL_law_1033 rfl (by omega) hN ?_
  refine m_aload_n dL_law_1034 3 rfl ?_
  refine m_iload_n dL_law_1035 0 rfl ?_
  refine m_iconst (v := 3) dL_law_1036 (by decide) ?_
  refine m_iadd dL_law_1037 ?_
  refine mW.top (w := nI (i + 3)) (nadd rfl) ?_
  refine m_sald dL_law_1038 rfl (by omega) hN ?_
  refine m_callV (As := [_, _, _]) dL_law_1039 cv_L_138 rfl (by decide) (show d - 1 < d by omega) rfl rfl (Nat.le_of_ble_eq_true rfl) hq (fun v1 σ1 hv1 => ?_)
  refine m_qIP hv1 (fun x2 hr => ?_)
  clear hv1 v1 hq
  rename mS => s2
  obtain ⟨e1, j2⟩ := hr
  refine m_icmp_eq dL_law_1042 1299 (by decide) (fun _ => nx s2 j2) (fun h9 => absurd e1.symm h9)
theorem lwc_lose {Q : Option Value → mS → Prop} (hd : 12 ≤ d) (i : Nat) (hi : i + 6 ≤ G.2.2.2.2.1) (hN : G.2.2.2.2.1 ≤ 384) (h : J σ) (nx : ∀ s2, J s2 → mW G l d kL_law 1299 (lwL i) [] s2 Q) : mW G l d kL_law 1047 (lwL i) [] σ Q := by
  refine m_aload_n dL_law_1047 2 rfl ?_
  refine m_aload_n dL_law_1048 3 rfl ?_
  refine m_iload_n dL_law_1049 0 rfl ?_
  refine m_iconst (v := 1) dL_law_1050 (by decide) ?_
  refine m_iadd dL_law_1051 ?_
  refine mW.top (w := nI (i + 1)) (nadd rfl) ?_
  refine m_sald dL_law_1052 rfl (by omega) hN ?_
  refine m_callV (As := [_]) dL_law_1053 cv_L_139 rfl (by decide) (show d - 1 < d by omega) rfl rfl (Nat.le_of_ble_eq_true rfl) (b_lose (d := d - 1) (by omega) h _) (fun v1 σ1 hv1 => ?_)
  refine m_qIP hv1 (fun x1 hq => ?_)
  clear hv1 v1
  rename mS => s1
  refine m_aload_n dL_law_1056 1 rfl ?_
  refine m_aload_n dL_law_1057 3 rfl ?_
  refine m_iload_n dL_law_1058 0 rfl ?_
  refine m_iconst (v := 1) dL_law_1059 (by decide) ?_
  refine m_iadd dL_law_1060 ?_
  refine mW.top (w := nI (i + 1)) (nadd rfl) ?_
  refine m_sald dL_law_1061 rfl (by omega) hN ?_
  refine m_callV (As := [_]) dL_law_1062 cv_L_142 rfl (by decide) (show d - 1 < d by omega) rfl rfl (Nat.le_of_ble_eq_true rfl) hq (fun v1 σ1 hv1 => ?_)
  refine m_qIP hv1 (fun x2 hr => ?_)
  clear hv1 v1 hq
  rename mS => s2
  obtain ⟨e1, j2⟩ := hr
  refine m_icmp_eq dL_law_1065 1299 (by decide) (fun _ => nx s2 j2) (fun h9 => absurd e1.symm h9)
theorem lwc_put {Q : Option Value → mS → Prop} (hd : 12 ≤ d) (i : Nat) (hi : i + 6 ≤ G.2.2.2.2.1) (hN : G.2.2.2.2.1 ≤ 384) (h : J σ) (nx : ∀ s2, J s2 → mW G l d kL_law 1299 (lwL i) [] s2 Q) : mW G l d kL_law 1070 (lwL i) [] σ Q := by
  refine m_aload_n dL_law_1070 2 rfl ?_
  refine m_aload_n dL_law_1071 3 rfl ?_
  refine m_iload_n dL_law_1072 0 rfl ?_
  refine m_iconst (v := 1) dL_law_1073 (by decide) ?_
  refine m_iadd dL_law_1074 ?_
  refine mW.top (w := nI (i + 1)) (nadd rfl) ?_
  refine m_sald dL_law_1075 rfl (by omega) hN ?_
  refine m_aload_n dL_law_1076 3 rfl ?_
  refine m_iload_n dL_law_1077 0 rfl ?_
  refine m_iconst (v := 2) dL_law_1078 (by decide) ?_
  refine m_iadd dL_law_1079 ?_
  refine mW.top (w := nI (i + 2)) (nadd rfl) ?_
  refine m_sald dL_law_1080 rfl (by omega) hN ?_
  refine m_aload_n dL_law_1081 3 rfl ?_
  refine m_iload_n dL_law_1082 0 rfl ?_
  refine m_iconst (v := 3) dL_law_1083 (by decide) ?_
  refine m_iadd dL_law_1084 ?_
  refine mW.top (w := nI (i + 3)) (nadd rfl) ?_
  refine m_sald dL_law_1085 rfl (by omega) hN ?_
  refine m_aload_n dL_law_1086 3 rfl ?_
  refine m_iload_n dL_law_1087 0 rfl ?_
  refine m_iconst (v := 4) dL_law_1088 (by decide) ?_
  refine m_iadd dL_law_1089 ?_
  refine mW.top (w := nI (i + 4)) (nadd rfl) ?_
  refine m_sald dL_law_1090 rfl (by omega) hN ?_
  refine m_callV (As := [_, _, _, _]) dL_law_1091 cv_L_143 rfl (by decide) (show d - 1 < d by omega) rfl rfl (Nat.le_of_ble_eq_true rfl) (b_put (d := d - 1) (by omega) h _ _ _ _) (fun v1 σ1 hv1 => ?_)
  refine m_qIP hv1 (fun x1 hq => ?_)
  clear hv1 v1
  rename mS => s1
  refine m_aload_n dL_law_1094 1 rfl ?_
  refine m_aload_n dL_law_1095 3 rfl ?_
  refine m_iload_n dL_law_1096 0 rfl ?_
  refine m_iconst (v := 1) dL_law_1097 (by decide) ?_
  refine m_iadd dL_law_1098 ?_
  refine mW.top (w := nI (i + 1)) (nadd rfl) ?_
  refine m_sald dL_law_1099 rfl (by omega) hN ?_
  refine m_aload_n dL_law_1100 3 rfl ?_
  refine m_iload_n dL_law_1101 0 rfl ?_
  refine m_iconst (v := 2) dL_law_1102 (by decide) ?_
  refine m_iadd dL_law_1103 ?_
  refine mW.top (w := nI (i + 2)) (nadd rfl) ?_
  refine m_sald dL_law_1104 rfl (by omega) hN ?_
  refine m_aload_n dL_law_1105 3 rfl ?_
  refine m_iload_n dL_law_1106 0 rfl ?_
  refine m_iconst (v := 3) dL_law_1107 (by decide) ?_
  refine m_iadd dL_law_1108 ?_
  refine mW.top (w := nI (i + 3)) (nadd rfl) ?_
  refine m_sald dL_law_1109 rfl (by omega) hN ?_
  refine m_aload_n dL_law_1110 3 rfl ?_
  refine m_iload_n dL_law_1111 0 rfl ?_
  refine m_iconst (v := 4) dL_law_1112 (by decide) ?_
  refine m_iadd dL_law_1113 ?_
  refine mW.top (w := nI (i + 4)) (nadd rfl) ?_
  refine m_sald dL_law_1114 rfl (by omega) hN ?_
  refine m_callV (As := [_, _, _, _]) dL_law_1115 cv_L_146 rfl (by decide) (show d - 1 < d by omega) rfl rfl (Nat.le_of_ble_eq_true rfl) hq (fun v1 σ1 hv1 => ?_)
  refine m_qIP hv1 (fun x2 hr => ?_)
  clear hv1 v1 hq
  rename mS => s2
  obtain ⟨e1, j2⟩ := hr
  refine m_icmp_eq dL_law_1118 1299 (by decide) (fun _ => nx s2 j2) (fun h9 => absurd e1.symm h9)
theorem lwc_get {Q : Option Value → mS → Prop} (hd : 12 ≤ d) (i : Nat) (hi : i + 6 ≤ G.2.2.2.2.1) (hN : G.2.2.2.2.1 ≤ 384) (h : J σ) (nx : ∀ s2, J s2 → mW G l d kL_law 1299 (lwL i) [] s2 Q) : mW G l d kL_law 1123 (lwL i) [] σ Q := by
  refine m_aload_n dL_law_1123 2 rfl ?_
  refine m_aload_n dL_law_1124 3 rfl ?_
  refine m_iload_n dL_law_1125 0 rfl ?_
  refine m_iconst (v := 1) dL_law_1126 (by decide) ?_
  refine m_iadd dL_law_1127 ?_
  refine mW.top (w := nI (i + 1)) (nadd rfl) ?_
  refine m_sald dL_law_1128 rfl (by omega) hN ?_
  refine m_aload_n dL_law_1129 3 rfl ?_
  refine m_iload_n dL_law_1130 0 rfl ?_
  refine m_iconst (v := 2) dL_law_1131 (by decide) ?_
  refine m_iadd dL_law_1132 ?_
  refine mW.top (w := nI (i + 2)) (nadd rfl) ?_
  refine m_sald dL_law_1133 rfl (by omega) hN ?_
  refine m_aload_n dL_law_1134 3 rfl ?_
  refine m_iload_n dL_law_1135 0 rfl ?_
  refine m_iconst (v := 3) dL_law_1136 (by decide) ?_
  refine m_iadd dL_law_1137 ?_
  refine mW.top (w := nI (i + 3)) (nadd rfl) ?_
  refine m_sald dL_law_1138 rfl (by omega) hN ?_
  refine m_callV (As := [_, _, _]) dL_law_1139 cv_L_147 rfl (by decide) (show d - 1 < d by omega) rfl rfl (Nat.le_of_ble_eq_true rfl) (b_get (d := d - 1) (by omega) h _ _ _) (fun v1 σ1 hv1 => ?_)
  refine m_qIP hv1 (fun x1 hq => ?_)
  clear hv1 v1
  rename mS => s1
  refine m_aload_n dL_law_1142 1 rfl ?_
  refine m_aload_n dL_law_1143 3 rfl ?_
  refine m_iload_n dL_law_1144 0 rfl ?_
  refine m_iconst (v := 1) dL_law_1145 (by decide) ?_
  refine m_iadd dL_law_1146 ?_
  refine mW.top (w := nI (i + 1)) (nadd rfl) ?_
  refine m_sald dL_law_1147 rfl (by omega) hN ?_
  refine m_aload_n dL_law_1148 3 rfl ?_
  refine m_iload_n dL_law_1149 0 rfl ?_
  refine m_iconst (v := 2) dL_law_1150 (by decide) ?_
  refine m_iadd dL_law_1151 ?_
  refine mW.top (w := nI (i + 2)) (nadd rfl) ?_
  refine m_sald dL_law_1152 rfl (by omega) hN ?_
  refine m_aload_n dL_law_1153 3 rfl ?_
  refine m_iload_n dL_law_1154 0 rfl ?_
  refine m_iconst (v := 3) dL_law_1155 (by decide) ?_
  refine m_iadd dL_law_1156 ?_
  refine mW.top (w := nI (i + 3)) (nadd rfl) ?_
  refine m_sald dL_law_1157 rfl (by omega) hN ?_
  refine m_callV (As := [_, _, _]) dL_law_1158 cv_L_150 rfl (by decide) (show d - 1 < d by omega) rfl rfl (Nat.le_of_ble_eq_true rfl) hq (fun v1 σ1 hv1 => ?_)
  refine m_qIP hv1 (fun x2 hr => ?_)
  clear hv1 v1 hq
  rename mS => s2
  obtain ⟨e1, j2⟩ := hr
  refine m_icmp_eq dL_law_1161 1299 (by decide) (fun _ => nx s2 j2) (fun h9 => absurd e1.symm h9)
theorem lwc_copy {Q : Option Value → mS → Prop} (hd : 12 ≤ d) (i : Nat) (hi : i + 6 ≤ G.2.2.2.2.1) (hN : G.2.2.2.2.1 ≤ 384) (h : J σ) (nx : ∀ s2, J s2 → mW G l d kL_law 1299 (lwL i) [] s2 Q) : mW G l d kL_law 1166 (lwL i) [] σ Q := by
  refine m_aload_n dL_law_1166 2 rfl ?_
  refine m_aload_n dL_law_1167 3 rfl ?_
  refine m_iload_n dL_law_1168 0 rfl ?_
  refine m_iconst (v := 1) dL_law_1169 (by decide) ?_
  refine m_iadd dL_law_1170 ?_
  refine mW.top (w := nI (i + 1)) (nadd rfl) ?_
  refine m_sald dL_law_1171 rfl (by omega) hN ?_
  refine m_aload_n dL_law_1172 3 rfl ?_
  refine m_iload_n dL_law_1173 0 rfl ?_
  refine m_iconst (v := 2) dL_law_1174 (by decide) ?_
  refine m_iadd dL_law_1175 ?_
  refine mW.top (w := nI (i + 2)) (nadd rfl) ?_
  refine m_sald dL_law_1176 rfl (by omega) hN ?_
  refine m_aload_n dL_law_1177 3 rfl ?_
  refine m_iload_n dL_law_1178 0 rfl ?_
  refine m_iconst (v := 3) dL_law_1179 (by decide) ?_
  refine m_iadd dL_law_1180 ?_
  refine mW.top (w := nI (i + 3)) (nadd rfl) ?_
  refine m_sald dL_law_1181 rfl (by omega) hN ?_
  refine m_aload_n dL_law_1182 3 rfl ?_
  refine m_iload_n dL_law_1183 0 rfl ?_
  refine m_iconst (v := 4) dL_law_1184 (by decide) ?_
  refine m_iadd dL_law_1185 ?_
  refine mW.top (w := nI (i + 4)) (nadd rfl) ?_
  refine m_sald dL_law_1186 rfl (by omega) hN ?_
  refine m_aload_n dL_law_1187 3 rfl ?_
  refine m_iload_n dL_law_1188 0 rfl ?_
  refine m_iconst (v := 5) dL_law_1189 (by decide) ?_
  refine m_iadd dL_law_1190 ?_
  refine mW.top (w := nI (i + 5)) (nadd rfl) ?_
  refine m_sald dL_law_1191 rfl (by omega) hN ?_
  refine m_callV (As := [_, _, _, _, _]) dL_law_1192 cv_L_151 rfl (by decide) (show d - 1 < d by omega) rfl rfl (Nat.le_of_ble_eq_true rfl) (b_copy (d := d - 1) (by omega) h _ _ _ _ _) (fun v1 σ1 hv1 => ?_)
  refine m_qIP hv1 (fun x1 hq => ?_)
  clear hv1 v1
  rename mS => s1
  refine m_aload_n dL_law_1195 1 rfl ?_
  refine m_aload_n dL_law_1196 3 rfl ?_
  refine m_iload_n dL_law_1197 0 rfl ?_
  refine m_iconst (v := 1) dL_law_1198 (by decide) ?_
  refine m_iadd dL_law_1199 ?_
  refine mW.top (w := nI (i + 1)) (nadd rfl) ?_
  refine m_sald dL_law_1200 rfl (by omega) hN ?_
  refine m_aload_n dL_law_1201 3 rfl ?_
  refine m_iload_n dL_law_1202 0 rfl ?_
  refine m_iconst (v := 2) dL_law_1203 (by decide) ?_
  refine m_iadd dL_law_1204 ?_
  refine mW.top (w := nI (i + 2)) (nadd rfl) ?_
  refine m_sald dL_law_1205 rfl (by omega) hN ?_
  refine m_aload_n dL_law_1206 3 rfl ?_
  refine m_iload_n dL_law_1207 0 rfl ?_
  refine m_iconst (v := 3) dL_law_1208 (by decide) ?_
  refine m_iadd dL_law_1209 ?_
  refine mW.top (w := nI (i + 3)) (nadd rfl) ?_
  refine m_sald dL_law_1210 rfl (by omega) hN ?_
  refine m_aload_n dL_law_1211 3 rfl ?_
  refine m_iload_n dL_law_1212 0 rfl ?_
  refine m_iconst (v := 4) dL_law_1213 (by decide) ?_
  refine m_iadd dL_law_1214 ?_
  refine mW.top (w := nI (i + 4)) (nadd rfl) ?_
  refine m_sald dL_law_1215 rfl (by omega) hN ?_
  refine m_aload_n dL_law_1216 3 rfl ?_
  refine m_iload_n dL_law_1217 0 rfl ?_
  refine m_iconst (v := 5) dL_law_1218 (by decide) ?_
  refine m_iadd dL_law_1219 ?_
  refine mW.top (w := nI (i + 5)) (nadd rfl) ?_
  refine m_sald dL_law_1220 rfl (by omega) hN ?_
  refine m_callV (As := [_, _, _, _, _]) dL_law_1221 cv_L_155 rfl (by decide) (show d - 1 < d by omega) rfl rfl (Nat.le_of_ble_eq_true rfl) hq (fun v1 σ1 hv1 => ?_)
  refine m_qIP hv1 (fun x2 hr => ?_)
  clear hv1 v1 hq
  rename mS => s2
  obtain ⟨e1, j2⟩ := hr
  refine m_icmp_eq dL_law_1224 1299 (by decide) (fun _ => nx s2 j2) (fun h9 => absurd e1.symm h9)
theorem lwc_write {Q : Option Value → mS → Prop} (hd : 12 ≤ d) (i : Nat) (hi : i + 6 ≤ G.2.2.2.2.1) (hN : G.2.2.2.2.1 ≤ 384) (h : J σ) (nx : ∀ s2, J s2 → mW G l d kL_law 1299 (lwL i) [] s2 Q) : mW G l d kL_law 1229 (lwL i) [] σ Q := by
  refine m_aload_n dL_law_1229 2 rfl ?_
  refine m_aload_n dL_law_1230 3 rfl ?_
  refine m_iload_n dL_law_1231 0 rfl ?_
  refine m_iconst (v := 1) dL_law_1232 (by decide) ?_
  refine m_iadd dL_law_1233 ?_
  refine mW.top (w := nI (i + 1)) (nadd rfl) ?_
  refine m_sald dL_law_1234 rfl (by omega) hN ?_
  refine m_aload_n dL_law_1235 3 rfl ?_
  refine m_iload_n dL_law_1236 0 rfl ?_
  refine m_iconst (v := 2) dL_law_1237 (by decide) ?_
  refine m_iadd dL_law_1238 ?_
  refine mW.top (w := nI (i + 2)) (nadd rfl) ?_
  refine m_sald dL_law_1239 rfl (by omega) hN ?_
  refine m_callV (As := [_, _]) dL_law_1240 cv_L_156 rfl (by decide) (show d - 1 < d by omega) rfl rfl (Nat.le_of_ble_eq_true rfl) (b_write (d := d - 1) (by omega) h _ _) (fun v1 σ1 hv1 => ?_)
  refine m_qIP hv1 (fun x1 hq => ?_)
  clear hv1 v1
  rename mS => s1
  refine m_aload_n dL_law_1243 1 rfl ?_
  refine m_aload_n dL_law_1244 3 rfl ?_
  refine m_iload_n dL_law_1245 0 rfl ?_
  refine m_iconst (v := 1) dL_law_1246 (by decide) ?_
  refine m_iadd dL_law_1247 ?_
  refine mW.top (w := nI (i + 1)) (nadd rfl) ?_
  refine m_sald dL_law_1248 rfl (by omega) hN ?_
  refine m_aload_n dL_law_1249 3 rfl ?_
  refine m_iload_n dL_law_1250 0 rfl ?_
  refine m_iconst (v := 2) dL_law_1251 (by decide) ?_
  refine m_iadd dL_law_1252 ?_
  refine mW.top (w := nI (i + 2)) (nadd rfl) ?_
  refine m_sald dL_law_1253 rfl (by omega) hN ?_
  refine m_callV (As := [_, _]) dL_law_1254 cv_L_159 rfl (by decide) (show d - 1 < d by omega) rfl rfl (Nat.le_of_ble_eq_true rfl) hq (fun v1 σ1 hv1 => ?_)
  refine m_qIP hv1 (fun x2 hr => ?_)
  clear hv1 v1 hq
  rename mS => s2
  obtain ⟨e1, j2⟩ := hr
  refine m_icmp_eq dL_law_1257 1299 (by decide) (fun _ => nx s2 j2) (fun h9 => absurd e1.symm h9)
theorem lwc_count {Q : Option Value → mS → Prop} (hd : 12 ≤ d) (i : Nat) (hi : i + 6 ≤ G.2.2.2.2.1) (hN : G.2.2.2.2.1 ≤ 384) (h : J σ) (nx : ∀ s2, J s2 → mW G l d kL_law 1299 (lwL i) [] s2 Q) : mW G l d kL_law 1262 (lwL i) [] σ Q := by
  refine m_aload_n dL_law_1262 2 rfl ?_
  refine m_aload_n dL_law_1263 3 rfl ?_
  refine m_iload_n dL_law_1264 0 rfl ?_
  refine m_iconst (v := 1) dL_law_1265 (by decide) ?_
  refine m_iadd dL_law_1266 ?_
  refine mW.top (w := nI (i + 1)) (nadd rfl) ?_
  refine m_sald dL_law_1267 rfl (by omega) hN ?_
  refine m_callV (As := [_]) dL_law_1268 cv_L_160 rfl (by decide) (show d - 1 < d by omega) rfl rfl (Nat.le_of_ble_eq_true rfl) (b_count (d := d - 1) (by omega) h _) (fun v1 σ1 hv1 => ?_)
  refine m_qIP hv1 (fun x1 hq => ?_)
  clear hv1 v1
  rename mS => s1
  refine m_aload_n dL_law_1271 1 rfl ?_
  refine m_aload_n dL_law_1272 3 rfl ?_
  refine m_iload_n dL_law_1273 0 rfl ?_
  refine m_iconst (v := 1) dL_law_1274 (by decide) ?_
  refine m_iadd dL_law_1275 ?_
  refine mW.top (w := nI (i + 1)) (nadd rfl) ?_
  refine m_sald dL_law_1276 rfl (by omega) hN ?_
  refine m_callV (As := [_]) dL_law_1277 cv_L_163 rfl (by decide) (show d - 1 < d by omega) rfl rfl (Nat.le_of_ble_eq_true rfl) hq (fun v1 σ1 hv1 => ?_)
  refine m_qIP hv1 (fun x2 hr => ?_)
  clear hv1 v1 hq
  rename mS => s2
  obtain ⟨e1, j2⟩ := hr
  refine m_icmp_eq dL_law_1280 1299 (by decide) (fun _ => nx s2 j2) (fun h9 => absurd e1.symm h9)
theorem lwc_digest {Q : Option Value → mS → Prop} (hd : 12 ≤ d) (i : Nat) (hi : i + 6 ≤ G.2.2.2.2.1) (hN : G.2.2.2.2.1 ≤ 384) (h : J σ) (nx : ∀ s2, J s2 → mW G l d kL_law 1299 (lwL i) [] s2 Q) : mW G l d kL_law 1285 (lwL i) [] σ Q := by
  refine m_aload_n dL_law_1285 2 rfl ?_
  refine m_callV (As := []) dL_law_1286 cv_L_164 rfl (by decide) (show d - 1 < d by omega) rfl rfl (Nat.le_of_ble_eq_true rfl) (b_digest (d := d - 1) (by omega) h) (fun v1 σ1 hv1 => ?_)
  refine m_qLP hv1 (fun x1 hq => ?_)
  clear hv1 v1
  rename mS => s1
  refine m_aload_n dL_law_1289 1 rfl ?_
  refine m_callV (As := []) dL_law_1290 cv_L_168 rfl (by decide) (show d - 1 < d by omega) rfl rfl (Nat.le_of_ble_eq_true rfl) hq (fun v1 σ1 hv1 => ?_)
  refine m_qLP hv1 (fun x2 hr => ?_)
  clear hv1 v1 hq
  rename mS => s2
  obtain ⟨e1, j2⟩ := hr
  refine m_lcmp dL_law_1293 ?_
  refine m_if_eq dL_law_1294 1299 (by decide) (fun _ => nx s2 j2) (fun h9 => absurd (lcmp_eq.mpr e1.symm) h9)
theorem law_mW (hd : 12 ≤ d) (hN : G.2.2.2.2.1 ≤ 384) : ∀ f i (σ : mS), i ≤ G.2.2.2.2.1 → G.2.2.2.2.1 ≤ i + f → J σ → mW G l d kL_law 18 (lwL i) [] σ lwQ := by
  intro f
  have ex : ∀ i (σ : mS), mW G l d kL_law 1305 (lwL i) [] σ lwQ := fun i σ => by
    refine m_iconst (v := 1) dL_law_1305 (by decide) ?_
    exact m_ireturn dL_law_1306 rfl
  have test : ∀ i (σ : mS), i ≤ G.2.2.2.2.1 → (i + 6 ≤ G.2.2.2.2.1 → mW G l d kL_law 27 (lwL i) [] σ lwQ) → mW G l d kL_law 18 (lwL i) [] σ lwQ := fun i σ hi k => by
    refine m_iload_n dL_law_18 0 rfl ?_
    refine m_aload_n dL_law_19 3 rfl ?_
    refine m_slen dL_law_20 ?_
    refine m_bipush (v := 6) dL_law_21 (by decide) ?_
    refine m_isub dL_law_23 ?_
    refine m_icmp_gt dL_law_24 1305 (by decide) (fun _ => ex i σ) (fun z => k ?_)
    have z1 := Int32.not_lt.mp z
    rw [Int32.le_iff_toInt_le] at z1
    have e1 : (nI G.2.2.2.2.1 - 6).toInt = (G.2.2.2.2.1 : Int) - 6 := pk_sub_toInt (b := 6) (by omega) (by decide)
    rw [e1, nI_toInt (by omega)] at z1
    omega
  induction f with
  | zero =>
    intro i σ hi hf _
    exact test i σ hi (fun q => by omega)
  | succ f ih =>
    intro i σ hi hf h
    refine test i σ hi (fun hi6 => ?_)
    have nx : ∀ s2, J s2 → mW G l d kL_law 1299 (lwL i) [] s2 lwQ := fun s2 j2 => by
      refine m_iinc (v := nI (i + 6)) (ls1 := [(3, _), (2, _), (1, _), (0, _)]) dL_law_1299 0 rfl (nadd (b := 6) rfl) (by decide) rfl ?_
      refine m_goto dL_law_1302 18 (by decide) ?_
      exact ih (i + 6) s2 (by omega) (by omega) j2
    refine m_aload_n dL_law_27 3 rfl ?_
    refine m_iload_n dL_law_28 0 rfl ?_
    refine m_sald dL_law_29 rfl (by omega) hN ?_
    refine m_bipush (v := 63) dL_law_30 (by decide) ?_
    refine m_iand dL_law_32 ?_
    obtain ⟨c, hc, ec⟩ := pk_andE (G.2.2.2.2.2 i) (m := 63) 6 (by decide)
    refine mW.top ec ?_
    by_cases h37 : 36 < c
    · refine m_tableOut dL_law_33 (Or.inr ?_) 1299 (by decide) ?_
      · rw [nI_toInt (by omega)]; omega
      · exact nx σ h
    rcases (show c = 0 ∨ c = 1 ∨ c = 2 ∨ c = 3 ∨ c = 4 ∨ c = 5 ∨ c = 6 ∨ c = 7 ∨ c = 8 ∨ c = 9 ∨ c = 10 ∨ c = 11 ∨ c = 12 ∨ c = 13 ∨ c = 14 ∨ c = 15 ∨ c = 16 ∨ c = 17 ∨ c = 18 ∨ c = 19 ∨ c = 20 ∨ c = 21 ∨ c = 22 ∨ c = 23 ∨ c = 24 ∨ c = 25 ∨ c = 26 ∨ c = 27 ∨ c = 28 ∨ c = 29 ∨ c = 30 ∨ c = 31 ∨ c = 32 ∨ c = 33 ∨ c = 34 ∨ c = 35 ∨ c = 36 by omega) with rfl | rfl | rfl | rfl | rfl | rfl | rfl | rfl | rfl | rfl | rfl | rfl | rfl | rfl | rfl | rfl | rfl | rfl | rfl | rfl | rfl | rfl | rfl | rfl | rfl | rfl | rfl | rfl | rfl | rfl | rfl | rfl | rfl | rfl | rfl | rfl | rfl
    · refine m_tableIn dL_law_33 (by decide) (by decide) (off := 163) (by decide) 196 (by decide) ?_
      exact lwc_type hd i hi6 hN h nx
    · refine m_tableIn dL_law_33 (by decide) (by decide) (off := 196) (by decide) 229 (by decide) ?_
      exact lwc_wipe hd i hi6 hN h nx
    · refine m_tableIn dL_law_33 (by decide) (by decide) (off := 219) (by decide) 252 (by decide) ?_
      exact lwc_undo hd i hi6 hN h nx
    · refine m_tableIn dL_law_33 (by decide) (by decide) (off := 242) (by decide) 275 (by decide) ?_
      exact lwc_fault hd i hi6 hN h nx
    · refine m_tableIn dL_law_33 (by decide) (by decide) (off := 265) (by decide) 298 (by decide) ?_
      exact lwc_car hd i hi6 hN h nx
    · refine m_tableIn dL_law_33 (by decide) (by decide) (off := 298) (by decide) 331 (by decide) ?_
      exact lwc_steer hd i hi6 hN h nx
    · refine m_tableIn dL_law_33 (by decide) (by decide) (off := 331) (by decide) 364 (by decide) ?_
      exact lwc_event hd i hi6 hN h nx
    · refine m_tableIn dL_law_33 (by decide) (by decide) (off := 374) (by decide) 407 (by decide) ?_
      exact lwc_back hd i hi6 hN h nx
    · refine m_tableIn dL_law_33 (by decide) (by decide) (off := 387) (by decide) 420 (by decide) ?_
      exact lwc_read hd i hi6 hN h nx
    · refine m_tableIn dL_law_33 (by decide) (by decide) (off := 410) (by decide) 443 (by decide) ?_
      exact lwc_at hd i hi6 hN h nx
    · refine m_tableIn dL_law_33 (by decide) (by decide) (off := 453) (by decide) 486 (by decide) ?_
      exact lwc_who hd i hi6 hN h nx
    · refine m_tableIn dL_law_33 (by decide) (by decide) (off := 496) (by decide) 529 (by decide) ?_
      exact lwc_house hd i hi6 hN h nx
    · refine m_tableIn dL_law_33 (by decide) (by decide) (off := 529) (by decide) 562 (by decide) ?_
      exact lwc_strikes hd i hi6 hN h nx
    · refine m_tableIn dL_law_33 (by decide) (by decide) (off := 542) (by decide) 575 (by decide) ?_
      exact lwc_first hd i hi6 hN h nx
    · refine m_tableIn dL_law_33 (by decide) (by decide) (off := 565) (by decide) 598 (by decide) ?_
      exact lwc_best hd i hi6 hN h nx
    · refine m_tableIn dL_law_33 (by decide) (by decide) (off := 578) (by decide) 611 (by decide) ?_
      exact lwc_meek hd i hi6 hN h nx
    · refine m_tableIn dL_law_33 (by decide) (by decide) (off := 591) (by decide) 624 (by decide) ?_
      exact lwc_jam hd i hi6 hN h nx
    · refine m_tableIn dL_law_33 (by decide) (by decide) (off := 614) (by decide) 647 (by decide) ?_
      exact lwc_carried hd i hi6 hN h nx
    · refine m_tableIn dL_law_33 (by decide) (by decide) (off := 627) (by decide) 660 (by decide) ?_
      exact lwc_stand hd i hi6 hN h nx
    · refine m_tableIn dL_law_33 (by decide) (by decide) (off := 660) (by decide) 693 (by decide) ?_
      exact lwc_better hd i hi6 hN h nx
    · refine m_tableIn dL_law_33 (by decide) (by decide) (off := 703) (by decide) 736 (by decide) ?_
      exact lwc_ring hd i hi6 hN h nx
    · refine m_tableIn dL_law_33 (by decide) (by decide) (off := 726) (by decide) 759 (by decide) ?_
      exact lwc_spare hd i hi6 hN h nx
    · refine m_tableIn dL_law_33 (by decide) (by decide) (off := 749) (by decide) 782 (by decide) ?_
      exact lwc_seen hd i hi6 hN h nx
    · refine m_tableIn dL_law_33 (by decide) (by decide) (off := 802) (by decide) 835 (by decide) ?_
      exact lwc_forget hd i hi6 hN h nx
    · refine m_tableIn dL_law_33 (by decide) (by decide) (off := 815) (by decide) 848 (by decide) ?_
      exact lwc_never hd i hi6 hN h nx
    · refine m_tableIn dL_law_33 (by decide) (by decide) (off := 828) (by decide) 861 (by decide) ?_
      exact lwc_was hd i hi6 hN h nx
    · refine m_tableIn dL_law_33 (by decide) (by decide) (off := 861) (by decide) 894 (by decide) ?_
      exact lwc_ask hd i hi6 hN h nx
    · refine m_tableIn dL_law_33 (by decide) (by decide) (off := 884) (by decide) 917 (by decide) ?_
      exact lwc_chance hd i hi6 hN h nx
    · refine m_tableIn dL_law_33 (by decide) (by decide) (off := 928) (by decide) 961 (by decide) ?_
      exact lwc_ages hd i hi6 hN h nx
    · refine m_tableIn dL_law_33 (by decide) (by decide) (off := 971) (by decide) 1004 (by decide) ?_
      exact lwc_sheet hd i hi6 hN h nx
    · refine m_tableIn dL_law_33 (by decide) (by decide) (off := 1014) (by decide) 1047 (by decide) ?_
      exact lwc_lose hd i hi6 hN h nx
    · refine m_tableIn dL_law_33 (by decide) (by decide) (off := 1037) (by decide) 1070 (by decide) ?_
      exact lwc_put hd i hi6 hN h nx
    · refine m_tableIn dL_law_33 (by decide) (by decide) (off := 1090) (by decide) 1123 (by decide) ?_
      exact lwc_get hd i hi6 hN h nx
    · refine m_tableIn dL_law_33 (by decide) (by decide) (off := 1133) (by decide) 1166 (by decide) ?_
      exact lwc_copy hd i hi6 hN h nx
    · refine m_tableIn dL_law_33 (by decide) (by decide) (off := 1196) (by decide) 1229 (by decide) ?_
      exact lwc_write hd i hi6 hN h nx
    · refine m_tableIn dL_law_33 (by decide) (by decide) (off := 1229) (by decide) 1262 (by decide) ?_
      exact lwc_count hd i hi6 hN h nx
    · refine m_tableIn dL_law_33 (by decide) (by decide) (off := 1252) (by decide) 1285 (by decide) ?_
      exact lwc_digest hd i hi6 hN h nx
end LW

