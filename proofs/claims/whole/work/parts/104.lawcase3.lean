set_option maxHeartbeats 4000000 in
set_option maxRecDepth 100000 in
theorem law_case_3 {p : Program} {l : Launch} {e : Env} {s : State} {m : MethodId} {below : List Frame} {meth : Method} {c : Code} {b L : Nat} {xs : Nat → Int32} {D : va_G} {a : AD} {σ : SB} {μ : SM} (C : LawAt p l s m meth c b L xs) (hK : va_K D classes (TYL a) s) (ha : AOK a) {H : Heap} {locs : List Loc} {cells slots j : Nat} {ls : Array Slot} (hl : lv_has ls 7 [(4, .int (nI j)), (3, .ref a.oa), (2, .ref a.mo), (1, .ref a.bk), (0, .ref b)]) (hI : Inv s D a σ μ H locs) (R : RelL σ μ) (hj : j + 8 ≤ L) (hc : cells + 1 ≤ 601024) (hs : slots + 6 ≤ 7293034)
    (kk : ∀ (σ' : SB) (μ' : SM) (H : Heap) (locs : List Loc) (ls : Array Slot), lv_has ls 7 [(4, .int (nI j)), (3, .ref a.oa), (2, .ref a.mo), (1, .ref a.bk), (0, .ref b)] → Inv s D a σ' μ' H locs → RelL σ' μ' → W p l e room_1 s m #[Value.ref b] below meth c H locs (cells + 1) (slots + 6) (lw_Z below #[Value.ref b] s) (F0 m 766 ls [])) : W p l e room_1 s m #[Value.ref b] below meth c H locs cells slots (lw_Z below #[Value.ref b] s) (F0 m 544 ls []) := by
  have hx := C.hx
  have hb := C.hb
  obtain ⟨R1, R2, R3, R4, R5, R6, R7⟩ := id R
  refine lv_aload_n hx hb d_law_544 rfl (lv_at hl 3 rfl) ?_
  refine ga1 C hI.2.2 (lv_at hl 4 rfl) (lv_at hl 0 rfl) hj 1 (by decide) (n := 1) (by decide) d_law_545 d_law_546 d_law_548 d_law_549 d_law_550 ?_
  refine lv_aload_n hx hb d_law_551 rfl (lv_at hl 1 rfl) ?_
  refine hu_pack C hK ha hl.1 hI R3.od (xs (j + 1)) hc hs d_law_552 (fun σ' r H locs hI hpost => ?_)
  rcases hpost with ⟨hbad, hr, hσ⟩ | ⟨k, hk, hf, hr, hp⟩
  · subst hr
    rw [hσ] at hI
    refine lv_istore (lv' := [(5, .int 1), (4, .int (nI j)), (3, .ref a.oa), (2, .ref a.mo), (1, .ref a.bk), (0, .ref b)]) hx hb d_law_555 hl (by decide) rfl (fun ls hl => ?_)
    refine lv_aload_n hx hb d_law_557 rfl (lv_at hl 3 rfl) ?_
    refine ga1 C hI.2.2 (lv_at hl 5 rfl) (lv_at hl 1 rfl) hj 1 (by decide) (n := 1) (by decide) d_law_558 d_law_559 d_law_561 d_law_562 d_law_563 ?_
    refine lo_M_pack C hK hl.1 hI (xs (j + 1)) (ok_pack_no hbad _ _ _) (by omega) (by omega) d_law_564 (fun u H locs hu hI => ?_)
    obtain ⟨z, ez⟩ := pack_no hbad μ.kd μ.sg μ.ex μ.hi μ.lo μ.lh μ.ll μ.w μ.md
    rw [ez] at hu
    subst hu
    refine lv_istore (lv' := [(6, .int (bI z)), (5, .int 1), (4, .int (nI j)), (3, .ref a.oa), (2, .ref a.mo), (1, .ref a.bk), (0, .ref b)]) hx hb d_law_567 hl (by decide) rfl (fun ls hl => ?_)
    refine lv_aload_n hx hb d_law_569 rfl (lv_at hl 4 rfl) ?_
    refine lo_M_thrown C hK hl.1 hI (by omega) (by omega) d_law_570 (fun v H locs hv hI => ?_)
    have hv : v = 1 := hv
    subst hv
    refine lv_iload hx hb d_law_573 (lv_at hl 1 rfl) ?_
    refine lv_icmp_eq (tgt := 580) hx hb d_law_575 (by decide) (fun _ => ?_) (fun h => absurd rfl h)
    refine lv_iload hx hb d_law_580 (lv_at hl 1 rfl) ?_
    refine lv_if_ne (tgt := 604) hx hb d_law_582 (by decide) (fun _ => ?_) (fun h => absurd h (by decide))
    refine lv_goto (tgt := 766) hx hb d_law_604 (by decide) ?_
    refine W.widen (k := cells + 1) (n := slots + 6) (by omega) (by omega) ?_
    exact kk σ _ H locs ls (lv_sub hl [2, 3, 4, 5, 6] rfl) hI R
  · subst hr
    have M := mods R6 R7 k hk
    refine lv_istore (lv' := [(5, .int 0), (4, .int (nI j)), (3, .ref a.oa), (2, .ref a.mo), (1, .ref a.bk), (0, .ref b)]) hx hb d_law_555 hl (by decide) rfl (fun ls hl => ?_)
    refine lv_aload_n hx hb d_law_557 rfl (lv_at hl 3 rfl) ?_
    refine ga1 C hI.2.2 (lv_at hl 5 rfl) (lv_at hl 1 rfl) hj 1 (by decide) (n := 1) (by decide) d_law_558 d_law_559 d_law_561 d_law_562 d_law_563 ?_
    refine lo_M_pack C hK hl.1 hI (xs (j + 1)) (by rw [hf]; exact M.ok_pack μ.kd μ.ex R3.ok) (by omega) (by omega) d_law_564 (fun u H locs hu hI => ?_)
    obtain ⟨hi2, lo2, lh2, ll2, W2, e1, e2, e3, e4, e5⟩ := M.pack μ.kd μ.ex σ.ng μ.hi μ.lo μ.lh μ.ll R3.ok (by rw [← R1, R3.eq]; exact R3.od)
    obtain ⟨⟨s1, s2, s3, s4, s5⟩, t3, t4, t5⟩ := hp
    rw [R1, R2, ← R3.eq] at t3 t4 t5
    obtain ⟨zb, hz⟩ : ∃ zb, (FF k).h μ.kd μ.ex (WN μ.w 0) = zb := ⟨_, rfl⟩
    rw [hz] at e1 e4 e5 t3 t4 t5
    have hm : σ'.mkh = hi2 ∧ σ'.mkl = lo2 := by
      cases zb with
      | false => exact ⟨(t5 rfl).1.trans (R4.trans (e5 rfl).1.symm), (t5 rfl).2.trans (R5.trans (e5 rfl).2.symm)⟩
      | true => exact VN_inj ((t4 rfl).trans (e4 rfl).symm)
    rw [hf, R3.sg, e1] at hu
    subst hu
    refine lv_istore (lv' := [(6, .int (bI zb)), (5, .int 0), (4, .int (nI j)), (3, .ref a.oa), (2, .ref a.mo), (1, .ref a.bk), (0, .ref b)]) hx hb d_law_567 hl (by decide) rfl (fun ls hl => ?_)
    refine lv_aload_n hx hb d_law_569 rfl (lv_at hl 4 rfl) ?_
    refine lo_M_thrown C hK hl.1 hI (by omega) (by omega) d_law_570 (fun v H locs hv hI => ?_)
    have hv : v = 0 := hv
    subst hv
    refine lv_iload hx hb d_law_573 (lv_at hl 1 rfl) ?_
    refine lv_icmp_eq (tgt := 580) hx hb d_law_575 (by decide) (fun _ => ?_) (fun h => absurd rfl h)
    refine lv_iload hx hb d_law_580 (lv_at hl 1 rfl) ?_
    refine lv_if_ne (tgt := 604) hx hb d_law_582 (by decide) (fun h => absurd rfl h) (fun _ => ?_)
    refine lv_aload_n hx hb d_law_585 rfl (lv_at hl 3 rfl) ?_
    refine lv_iconst (v := 0) hx hb d_law_586 (by decide) ?_
    refine va_lald (cA := a.cO) (n := 1) (f := σ'.ot) hx hb hK hI.1 38 4 rfl rfl (idx_in rfl) d_law_587 ?_
    refine W.eq (g2 := F0 m 588 ls [.long (σ'.ot 0)]) rfl ?_
    cases zb with
    | false =>
      refine lv_iload hx hb d_law_588 (lv_at hl 0 rfl) ?_
      refine lv_if_eq (tgt := 597) hx hb d_law_590 (by decide) (fun _ => ?_) (fun h => absurd rfl h)
      refine lv_lconst (v := 0) hx hb d_law_597 (by decide) ?_
      refine W.lcmp hx hb d_law_598 ?_
      refine lv_if_eq (tgt := 604) hx hb d_law_599 (by decide) (fun _ => ?_) (fun h => absurd ((lg0 _ _).mpr t3) h)
      refine lv_goto (tgt := 766) hx hb d_law_604 (by decide) ?_
      refine W.widen (k := cells + 1) (n := slots + 6) (by omega) (by omega) ?_
      exact kk σ' _ H locs ls (lv_sub hl [2, 3, 4, 5, 6] rfl) hI ⟨s1.trans R1, s3.trans R2, ⟨by rw [s2]; exact R3.sg, e2, by rw [s4, s5]; exact e3.trans R3.eq, by rw [s1, s4, s5]; exact R3.od⟩, hm.1, hm.2, R6, R7⟩
    | true =>
      refine lv_iload hx hb d_law_588 (lv_at hl 0 rfl) ?_
      refine lv_if_eq (tgt := 597) hx hb d_law_590 (by decide) (fun h => absurd h (by decide)) (fun _ => ?_)
      refine lv_lconst (v := 1) hx hb d_law_593 (by decide) ?_
      refine lv_goto (tgt := 598) hx hb d_law_594 (by decide) ?_
      refine W.lcmp hx hb d_law_598 ?_
      refine lv_if_eq (tgt := 604) hx hb d_law_599 (by decide) (fun _ => ?_) (fun h => absurd ((lg0 _ _).mpr t3) h)
      refine lv_goto (tgt := 766) hx hb d_law_604 (by decide) ?_
      refine W.widen (k := cells + 1) (n := slots + 6) (by omega) (by omega) ?_
      exact kk σ' _ H locs ls (lv_sub hl [2, 3, 4, 5, 6] rfl) hI ⟨s1.trans R1, s3.trans R2, ⟨by rw [s2]; exact R3.sg, e2, by rw [s4, s5]; exact e3.trans R3.eq, by rw [s1, s4, s5]; exact R3.od⟩, hm.1, hm.2, R6, R7⟩
