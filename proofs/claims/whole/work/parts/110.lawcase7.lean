set_option maxHeartbeats 4000000 in
set_option maxRecDepth 100000 in
theorem law_case_7 {p : Program} {l : Launch} {e : Env} {s : State} {m : MethodId} {below : List Frame} {meth : Method} {c : Code} {b L : Nat} {xs : Nat → Int32} {D : va_G} {a : AD} {σ : SB} {μ : SM} (C : LawAt p l s m meth c b L xs) (hK : va_K D classes (TYL a) s) (ha : AOK a) {H : Heap} {locs : List Loc} {cells slots j : Nat} {ls : Array Slot} (hl : lv_has ls 7 [(4, .int (nI j)), (3, .ref a.oa), (2, .ref a.mo), (1, .ref a.bk), (0, .ref b)]) (hI : Inv s D a σ μ H locs) (R : RelL σ μ) (hj : j + 8 ≤ L) (hc : cells + 1 ≤ 601024) (hs : slots + 6 ≤ 7293034)
    (kk : ∀ (σ' : SB) (μ' : SM) (H : Heap) (locs : List Loc) (ls : Array Slot), lv_has ls 7 [(4, .int (nI j)), (3, .ref a.oa), (2, .ref a.mo), (1, .ref a.bk), (0, .ref b)] → Inv s D a σ' μ' H locs → RelL σ' μ' → W p l e room_1 s m #[Value.ref b] below meth c H locs (cells + 1) (slots + 6) (lw_Z below #[Value.ref b] s) (F0 m 766 ls [])) : W p l e room_1 s m #[Value.ref b] below meth c H locs cells slots (lw_Z below #[Value.ref b] s) (F0 m 716 ls []) := by
  have hx := C.hx
  have hb := C.hb
  obtain ⟨R1, R2, R3, R4, R5, R6, R7⟩ := id R
  refine lv_aload_n hx hb d_law_716 rfl (lv_at hl 3 rfl) ?_
  refine ga1 C hI.2.2 (lv_at hl 4 rfl) (lv_at hl 0 rfl) hj 1 (by decide) (n := 1) (by decide) d_law_717 d_law_718 d_law_720 d_law_721 d_law_722 ?_
  refine lo_K_digits C hK hl.1 hI (xs (j + 1)) (by omega) (by omega) d_law_723 (fun u H locs hu hI => ?_)
  refine lv_aload_n hx hb d_law_726 rfl (lv_at hl 2 rfl) ?_
  refine ga1 C hI.2.2 (lv_at hl 4 rfl) (lv_at hl 0 rfl) hj 1 (by decide) (n := 1) (by decide) d_law_727 d_law_728 d_law_730 d_law_731 d_law_732 ?_
  refine lo_M_digits C hK hl.1 hI u (xs (j + 1)) (digits_eq R6 (xs (j + 1))).2 (by omega) (by omega) d_law_733 (fun u2 H locs hu2 hI => ?_)
  rw [(digits_eq R6 (xs (j + 1))).1, ← hu] at hu2
  subst hu2
  refine lv_icmp_eq (tgt := 766) hx hb d_law_736 (by decide) (fun _ => ?_) (fun h => absurd rfl h)
  refine W.widen (k := cells + 1) (n := slots + 6) (by omega) (by omega) ?_
  exact kk σ _ H locs ls hl hI R
