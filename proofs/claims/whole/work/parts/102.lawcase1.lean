set_option maxHeartbeats 4000000 in
set_option maxRecDepth 100000 in
theorem law_case_1 {p : Program} {l : Launch} {e : Env} {s : State} {m : MethodId} {below : List Frame} {meth : Method} {c : Code} {b L : Nat} {xs : Nat → Int32} {D : va_G} {a : AD} {σ : SB} {μ : SM} (C : LawAt p l s m meth c b L xs) (hK : va_K D classes (TYL a) s) (ha : AOK a) {H : Heap} {locs : List Loc} {cells slots j : Nat} {ls : Array Slot} (hl : lv_has ls 7 [(4, .int (nI j)), (3, .ref a.oa), (2, .ref a.mo), (1, .ref a.bk), (0, .ref b)]) (hI : Inv s D a σ μ H locs) (R : RelL σ μ) (hj : j + 8 ≤ L) (hc : cells + 1 ≤ 601024) (hs : slots + 6 ≤ 7293034)
    (kk : ∀ (σ' : SB) (μ' : SM) (H : Heap) (locs : List Loc) (ls : Array Slot), lv_has ls 7 [(4, .int (nI j)), (3, .ref a.oa), (2, .ref a.mo), (1, .ref a.bk), (0, .ref b)] → Inv s D a σ' μ' H locs → RelL σ' μ' → W p l e room_1 s m #[Value.ref b] below meth c H locs (cells + 1) (slots + 6) (lw_Z below #[Value.ref b] s) (F0 m 766 ls [])) : W p l e room_1 s m #[Value.ref b] below meth c H locs cells slots (lw_Z below #[Value.ref b] s) (F0 m 236 ls []) := by
  have hx := C.hx
  have hb := C.hb
  obtain ⟨R1, R2, R3, R4, R5, R6, R7⟩ := id R
  refine lv_aload_n hx hb d_law_236 rfl (lv_at hl 3 rfl) ?_
  refine ga1 C hI.2.2 (lv_at hl 4 rfl) (lv_at hl 0 rfl) hj 1 (by decide) (n := 1) (by decide) d_law_237 d_law_238 d_law_240 d_law_241 d_law_242 ?_
  refine gl1 C hI.2.2 (lv_at hl 4 rfl) (lv_at hl 0 rfl) hj 2 (by decide) (n := 2) (n' := 3) (by decide) (by decide) d_law_243 d_law_244 d_law_246 d_law_247 d_law_248 d_law_249 d_law_250 d_law_252 d_law_253 d_law_254 d_law_256 d_law_257 d_law_258 d_law_259 d_law_260 d_law_263 d_law_264 ?_
  refine gl1 C hI.2.2 (lv_at hl 4 rfl) (lv_at hl 0 rfl) hj 4 (by decide) (n := 4) (n' := 5) (by decide) (by decide) d_law_265 d_law_266 d_law_268 d_law_269 d_law_270 d_law_271 d_law_272 d_law_274 d_law_275 d_law_276 d_law_278 d_law_279 d_law_280 d_law_281 d_law_282 d_law_285 d_law_286 ?_
  refine lv_aload_n hx hb d_law_287 rfl (lv_at hl 1 rfl) ?_
  refine hu_canonical C hK ha hl.1 hI (xs (j + 1)) (LV xs (j + 2)) (LV xs (j + 4)) hc hs d_law_288 (fun σ' r H locs hI hpost => ?_)
  rcases hpost with ⟨hbad, hr, hσ⟩ | ⟨k, hk, hf, hr, hp⟩
  · subst hr
    rw [hσ] at hI
    refine lv_istore (lv' := [(5, .int 1), (4, .int (nI j)), (3, .ref a.oa), (2, .ref a.mo), (1, .ref a.bk), (0, .ref b)]) hx hb d_law_291 hl (by decide) rfl (fun ls hl => ?_)
    refine lv_aload_n hx hb d_law_293 rfl (lv_at hl 3 rfl) ?_
    refine ga1 C hI.2.2 (lv_at hl 5 rfl) (lv_at hl 1 rfl) hj 1 (by decide) (n := 1) (by decide) d_law_294 d_law_295 d_law_297 d_law_298 d_law_299 ?_
    refine gl1 C hI.2.2 (lv_at hl 5 rfl) (lv_at hl 1 rfl) hj 2 (by decide) (n := 2) (n' := 3) (by decide) (by decide) d_law_300 d_law_301 d_law_303 d_law_304 d_law_305 d_law_306 d_law_307 d_law_309 d_law_310 d_law_311 d_law_313 d_law_314 d_law_315 d_law_316 d_law_317 d_law_320 d_law_321 ?_
    refine gl1 C hI.2.2 (lv_at hl 5 rfl) (lv_at hl 1 rfl) hj 4 (by decide) (n := 4) (n' := 5) (by decide) (by decide) d_law_322 d_law_323 d_law_325 d_law_326 d_law_327 d_law_328 d_law_329 d_law_331 d_law_332 d_law_333 d_law_335 d_law_336 d_law_337 d_law_338 d_law_339 d_law_342 d_law_343 ?_
    refine lo_M_canonical C hK hl.1 hI (xs (j + 1)) (LV xs (j + 2)) (LV xs (j + 4)) (ok_canonical_no hbad _ _ _ _) (by omega) (by omega) d_law_344 (fun u H locs hu hI => ?_)
    obtain ⟨z, ez⟩ := canonical_no hbad (LV xs (j + 2)) (LV xs (j + 4)) μ.lh μ.ll μ.w μ.sp μ.md
    rw [ez] at hu
    subst hu
    refine lv_istore (lv' := [(6, .int (bI z)), (5, .int 1), (4, .int (nI j)), (3, .ref a.oa), (2, .ref a.mo), (1, .ref a.bk), (0, .ref b)]) hx hb d_law_347 hl (by decide) rfl (fun ls hl => ?_)
    refine lv_aload_n hx hb d_law_349 rfl (lv_at hl 4 rfl) ?_
    refine lo_M_thrown C hK hl.1 hI (by omega) (by omega) d_law_350 (fun v H locs hv hI => ?_)
    have hv : v = 1 := hv
    subst hv
    refine lv_iload hx hb d_law_353 (lv_at hl 1 rfl) ?_
    refine lv_icmp_eq (tgt := 360) hx hb d_law_355 (by decide) (fun _ => ?_) (fun h => absurd rfl h)
    refine lv_iload hx hb d_law_360 (lv_at hl 1 rfl) ?_
    refine lv_if_ne (tgt := 384) hx hb d_law_362 (by decide) (fun _ => ?_) (fun h => absurd h (by decide))
    refine lv_goto (tgt := 766) hx hb d_law_384 (by decide) ?_
    refine W.widen (k := cells + 1) (n := slots + 6) (by omega) (by omega) ?_
    exact kk σ _ H locs ls (lv_sub hl [2, 3, 4, 5, 6] rfl) hI R
  · subst hr
    have M := mods R6 R7 k hk
    refine lv_istore (lv' := [(5, .int 0), (4, .int (nI j)), (3, .ref a.oa), (2, .ref a.mo), (1, .ref a.bk), (0, .ref b)]) hx hb d_law_291 hl (by decide) rfl (fun ls hl => ?_)
    refine lv_aload_n hx hb d_law_293 rfl (lv_at hl 3 rfl) ?_
    refine ga1 C hI.2.2 (lv_at hl 5 rfl) (lv_at hl 1 rfl) hj 1 (by decide) (n := 1) (by decide) d_law_294 d_law_295 d_law_297 d_law_298 d_law_299 ?_
    refine gl1 C hI.2.2 (lv_at hl 5 rfl) (lv_at hl 1 rfl) hj 2 (by decide) (n := 2) (n' := 3) (by decide) (by decide) d_law_300 d_law_301 d_law_303 d_law_304 d_law_305 d_law_306 d_law_307 d_law_309 d_law_310 d_law_311 d_law_313 d_law_314 d_law_315 d_law_316 d_law_317 d_law_320 d_law_321 ?_
    refine gl1 C hI.2.2 (lv_at hl 5 rfl) (lv_at hl 1 rfl) hj 4 (by decide) (n := 4) (n' := 5) (by decide) (by decide) d_law_322 d_law_323 d_law_325 d_law_326 d_law_327 d_law_328 d_law_329 d_law_331 d_law_332 d_law_333 d_law_335 d_law_336 d_law_337 d_law_338 d_law_339 d_law_342 d_law_343 ?_
    refine lo_M_canonical C hK hl.1 hI (xs (j + 1)) (LV xs (j + 2)) (LV xs (j + 4)) (by rw [hf]; exact M.ok_canonical _ _) (by omega) (by omega) d_law_344 (fun u H locs hu hI => ?_)
    obtain ⟨lh2, ll2, W2, e1, e2, e3⟩ := M.canonical (LV xs (j + 2)) (LV xs (j + 4)) μ.lh μ.ll R3.ok
    obtain ⟨zb, hz⟩ : ∃ zb, cn (FF k) (VN (LV xs (j + 2)) (LV xs (j + 4)) % 2 ^ ((FF k).q + 1)) = zb := ⟨_, rfl⟩
    obtain ⟨⟨s1, s2, s3, s4, s5⟩, t1, t2, t3⟩ := hp
    rw [hz] at e1 t3
    rw [hf, e1] at hu
    subst hu
    refine lv_istore (lv' := [(6, .int (bI zb)), (5, .int 0), (4, .int (nI j)), (3, .ref a.oa), (2, .ref a.mo), (1, .ref a.bk), (0, .ref b)]) hx hb d_law_347 hl (by decide) rfl (fun ls hl => ?_)
    refine lv_aload_n hx hb d_law_349 rfl (lv_at hl 4 rfl) ?_
    refine lo_M_thrown C hK hl.1 hI (by omega) (by omega) d_law_350 (fun v H locs hv hI => ?_)
    have hv : v = 0 := hv
    subst hv
    refine lv_iload hx hb d_law_353 (lv_at hl 1 rfl) ?_
    refine lv_icmp_eq (tgt := 360) hx hb d_law_355 (by decide) (fun _ => ?_) (fun h => absurd rfl h)
    refine lv_iload hx hb d_law_360 (lv_at hl 1 rfl) ?_
    refine lv_if_ne (tgt := 384) hx hb d_law_362 (by decide) (fun h => absurd rfl h) (fun _ => ?_)
    refine lv_aload_n hx hb d_law_365 rfl (lv_at hl 3 rfl) ?_
    refine lv_iconst (v := 0) hx hb d_law_366 (by decide) ?_
    refine va_lald (cA := a.cO) (n := 1) (f := σ'.ot) hx hb hK hI.1 38 4 rfl rfl (idx_in rfl) d_law_367 ?_
    refine W.eq (g2 := F0 m 368 ls [.long (σ'.ot 0)]) rfl ?_
    cases zb with
    | false =>
      refine lv_iload hx hb d_law_368 (lv_at hl 0 rfl) ?_
      refine lv_if_eq (tgt := 377) hx hb d_law_370 (by decide) (fun _ => ?_) (fun h => absurd rfl h)
      refine lv_lconst (v := 0) hx hb d_law_377 (by decide) ?_
      refine W.lcmp hx hb d_law_378 ?_
      refine lv_if_eq (tgt := 384) hx hb d_law_379 (by decide) (fun _ => ?_) (fun h => absurd ((lg0 _ _).mpr t3) h)
      refine lv_goto (tgt := 766) hx hb d_law_384 (by decide) ?_
      refine W.widen (k := cells + 1) (n := slots + 6) (by omega) (by omega) ?_
      exact kk σ' _ H locs ls (lv_sub hl [2, 3, 4, 5, 6] rfl) hI ⟨s1.trans R1, s3.trans R2, ⟨by rw [s2]; exact R3.sg, e2, by rw [s4, s5]; exact e3.trans R3.eq, by rw [s1, s4, s5]; exact R3.od⟩, t1.trans R4, t2.trans R5, R6, R7⟩
    | true =>
      refine lv_iload hx hb d_law_368 (lv_at hl 0 rfl) ?_
      refine lv_if_eq (tgt := 377) hx hb d_law_370 (by decide) (fun h => absurd h (by decide)) (fun _ => ?_)
      refine lv_lconst (v := 1) hx hb d_law_373 (by decide) ?_
      refine lv_goto (tgt := 378) hx hb d_law_374 (by decide) ?_
      refine W.lcmp hx hb d_law_378 ?_
      refine lv_if_eq (tgt := 384) hx hb d_law_379 (by decide) (fun _ => ?_) (fun h => absurd ((lg0 _ _).mpr t3) h)
      refine lv_goto (tgt := 766) hx hb d_law_384 (by decide) ?_
      refine W.widen (k := cells + 1) (n := slots + 6) (by omega) (by omega) ?_
      exact kk σ' _ H locs ls (lv_sub hl [2, 3, 4, 5, 6] rfl) hI ⟨s1.trans R1, s3.trans R2, ⟨by rw [s2]; exact R3.sg, e2, by rw [s4, s5]; exact e3.trans R3.eq, by rw [s1, s4, s5]; exact R3.od⟩, t1.trans R4, t2.trans R5, R6, R7⟩
