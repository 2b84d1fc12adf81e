theorem cmp8 {L j : Nat} (hL : L ≤ 4096) (hj : j ≤ L) : (Int32.ofNat L - 8 < nI j) ↔ L < j + 8 := by
  have e1 : (Int32.ofNat L).toInt = (L : Int) := nI_toInt (n := L) (by omega)
  have e : (Int32.ofNat L - 8).toInt = (L : Int) - 8 := by
    rw [Int32.toInt_sub, e1, show (8:Int32).toInt = 8 from by decide]
    apply Int.bmod_eq_of_le <;> omega
  rw [Int32.lt_iff_toInt_lt, e, nI_toInt (by omega)]
  omega
set_option maxHeartbeats 4000000 in
set_option maxRecDepth 100000 in
theorem law_loop {p : Program} {l : Launch} {e : Env} {s : State} {m : MethodId} {below : List Frame} {meth : Method} {c : Code} {b L : Nat} {xs : Nat → Int32} {D : va_G} {a : AD} (C : LawAt p l s m meth c b L xs) (hK : va_K D classes (TYL a) s) (ha : AOK a) : ∀ (n j cells slots : Nat) (σ : SB) (μ : SM) (H : Heap) (locs : List Loc) (ls : Array Slot), j ≤ L → L < j + 8 * n → cells + n ≤ 601024 → slots + 6 * n ≤ 7293034 → lv_has ls 7 [(4, .int (nI j)), (3, .ref a.oa), (2, .ref a.mo), (1, .ref a.bk), (0, .ref b)] → Inv s D a σ μ H locs → RelL σ μ → W p l e room_1 s m #[Value.ref b] below meth c H locs cells slots (lw_Z below #[Value.ref b] s) (F0 m 23 ls []) := by
  have hx := C.hx
  have hb := C.hb
  have hL := C.hL
  have hbA : ¬ (fun q : Nat => s.heap.size ≤ q) b := Nat.not_le.mpr C.hbl
  intro n
  induction n with
  | zero => intro j cells slots σ μ H locs ls h1 h2; omega
  | succ n ih =>
    intro j cells slots σ μ H locs ls h1 h2 h3 h4 hl hI R
    have tail : ∀ (σ' : SB) (μ' : SM) (H : Heap) (locs : List Loc) (ls : Array Slot), j + 8 ≤ L → lv_has ls 7 [(4, .int (nI j)), (3, .ref a.oa), (2, .ref a.mo), (1, .ref a.bk), (0, .ref b)] → Inv s D a σ' μ' H locs → RelL σ' μ' → W p l e room_1 s m #[Value.ref b] below meth c H locs (cells + 1) (slots + 6) (lw_Z below #[Value.ref b] s) (F0 m 766 ls []) := by
      intro σ' μ' H locs ls hj hl hI R
      refine lv_iinc (v := nI (j + 8)) (lv' := [(4, .int (nI (j + 8))), (3, .ref a.oa), (2, .ref a.mo), (1, .ref a.bk), (0, .ref b)]) hx hb d_law_766 hl (k := 0) rfl (by rw [show Int32.ofInt 8 = nI 8 from by decide]; exact nI_add j 8) (by decide) rfl (fun ls hl => ?_)
      refine lv_goto (tgt := 23) hx hb d_law_769 (by decide) ?_
      exact ih (j + 8) (cells + 1) (slots + 6) σ' μ' H locs ls hj (by omega) (by omega) (by omega) hl hI R
    refine lv_iload hx hb d_law_23 (lv_at hl 0 rfl) ?_
    refine lv_aload_n hx hb d_law_25 rfl (lv_at hl 4 rfl) ?_
    refine va_slen hx hb C.hX C.hbl hbA hI.2.2 d_law_26 ?_
    refine lv_bipush (v := 8) hx hb d_law_27 (by decide) ?_
    refine lv_isub hx hb d_law_29 ?_
    refine lv_icmp_gt (tgt := 772) hx hb d_law_30 (by decide) (fun q => ?_) (fun q => ?_)
    · refine lv_iconst (v := 1) hx hb d_law_772 (by decide) ?_
      refine va_forget (fun q hq => hI.2.2.2.2 q hq) ?_
      refine W.widen (k := 601024) (n := 7293034) (by omega) (by omega) ?_
      exact lw_ret hx hb C.hr C.hlocks d_law_773
    · have hj : j + 8 ≤ L := Nat.not_lt.mp (fun z => q ((cmp8 hL h1).mpr z))
      refine lv_aload_n hx hb d_law_33 rfl (lv_at hl 4 rfl) ?_
      refine lv_iload hx hb d_law_34 (lv_at hl 0 rfl) ?_
      refine va_sld hx hb C.hX C.hbl hbA hI.2.2 (vp_in_nI (by omega) (by omega)) d_law_36 ?_
      refine lv_bipush (v := 15) hx hb d_law_37 (by decide) ?_
      refine lv_iand hx hb d_law_39 ?_
      generalize xs (nI j).toNatClampNeg &&& 15 = v
      by_cases c0 : v = (0:Int32)
      · refine lv_tableIn (off := 52) (tgt := 92) hx hb d_law_40 (by rw [c0]; decide) (by rw [c0]; decide) (by rw [c0]; rfl) (by decide) ?_
        exact law_case_0 C hK ha hl hI R hj (by omega) (by omega) (fun σ' μ' H locs ls hl hI R => tail σ' μ' H locs ls hj hl hI R)
      by_cases c1 : v = (1:Int32)
      · refine lv_tableIn (off := 196) (tgt := 236) hx hb d_law_40 (by rw [c1]; decide) (by rw [c1]; decide) (by rw [c1]; rfl) (by decide) ?_
        exact law_case_1 C hK ha hl hI R hj (by omega) (by omega) (fun σ' μ' H locs ls hl hI R => tail σ' μ' H locs ls hj hl hI R)
      by_cases c2 : v = (2:Int32)
      · refine lv_tableIn (off := 347) (tgt := 387) hx hb d_law_40 (by rw [c2]; decide) (by rw [c2]; decide) (by rw [c2]; rfl) (by decide) ?_
        exact law_case_2 C hK ha hl hI R hj (by omega) (by omega) (fun σ' μ' H locs ls hl hI R => tail σ' μ' H locs ls hj hl hI R)
      by_cases c3 : v = (3:Int32)
      · refine lv_tableIn (off := 504) (tgt := 544) hx hb d_law_40 (by rw [c3]; decide) (by rw [c3]; decide) (by rw [c3]; rfl) (by decide) ?_
        exact law_case_3 C hK ha hl hI R hj (by omega) (by omega) (fun σ' μ' H locs ls hl hI R => tail σ' μ' H locs ls hj hl hI R)
      by_cases c4 : v = (4:Int32)
      · refine lv_tableIn (off := 567) (tgt := 607) hx hb d_law_40 (by rw [c4]; decide) (by rw [c4]; decide) (by rw [c4]; rfl) (by decide) ?_
        exact law_case_4 C hK ha hl hI R hj (by omega) (by omega) (fun σ' μ' H locs ls hl hI R => tail σ' μ' H locs ls hj hl hI R)
      by_cases c5 : v = (5:Int32)
      · refine lv_tableIn (off := 609) (tgt := 649) hx hb d_law_40 (by rw [c5]; decide) (by rw [c5]; decide) (by rw [c5]; rfl) (by decide) ?_
        exact law_case_5 C hK ha hl hI R hj (by omega) (by omega) (fun σ' μ' H locs ls hl hI R => tail σ' μ' H locs ls hj hl hI R)
      by_cases c6 : v = (6:Int32)
      · refine lv_tableIn (off := 634) (tgt := 674) hx hb d_law_40 (by rw [c6]; decide) (by rw [c6]; decide) (by rw [c6]; rfl) (by decide) ?_
        exact law_case_6 C hK ha hl hI R hj (by omega) (by omega) (fun σ' μ' H locs ls hl hI R => tail σ' μ' H locs ls hj hl hI R)
      by_cases c7 : v = (7:Int32)
      · refine lv_tableIn (off := 676) (tgt := 716) hx hb d_law_40 (by rw [c7]; decide) (by rw [c7]; decide) (by rw [c7]; rfl) (by decide) ?_
        exact law_case_7 C hK ha hl hI R hj (by omega) (by omega) (fun σ' μ' H locs ls hl hI R => tail σ' μ' H locs ls hj hl hI R)
      by_cases c8 : v = (8:Int32)
      · refine lv_tableIn (off := 701) (tgt := 741) hx hb d_law_40 (by rw [c8]; decide) (by rw [c8]; decide) (by rw [c8]; rfl) (by decide) ?_
        exact law_case_8 C hK ha hl hI R hj (by omega) (by omega) (fun σ' μ' H locs ls hl hI R => tail σ' μ' H locs ls hj hl hI R)
      refine lv_tableOut (tgt := 766) hx hb d_law_40 (by have z0 := lv_neT c0 (show (0:Int32).toInt = 0 by decide); have z1 := lv_neT c1 (show (1:Int32).toInt = 1 by decide); have z2 := lv_neT c2 (show (2:Int32).toInt = 2 by decide); have z3 := lv_neT c3 (show (3:Int32).toInt = 3 by decide); have z4 := lv_neT c4 (show (4:Int32).toInt = 4 by decide); have z5 := lv_neT c5 (show (5:Int32).toInt = 5 by decide); have z6 := lv_neT c6 (show (6:Int32).toInt = 6 by decide); have z7 := lv_neT c7 (show (7:Int32).toInt = 7 by decide); have z8 := lv_neT c8 (show (8:Int32).toInt = 8 by decide); omega) (by decide) ?_
      refine W.widen (k := cells + 1) (n := slots + 6) (by omega) (by omega) ?_
      exact tail σ μ H locs ls hj hl hI R
