set_option maxHeartbeats 4000000 in
set_option maxRecDepth 100000 in
/-- PatternBookModel.asks(I)Z -/
theorem c_M_asks (l : Launch) (D : va_G) (mo : Nat) (wa : Nat) (sa : Nat) (ma : Nat) (sz : Nat) (x : Int32) (co : Int32) (kd : Int32) (sg : Int32) (ex : Int32) (hi : Int64) (lo : Int64) (lh : Int64) (ll : Int64) : Met l y_PatternBookModel_asks (wsOf y_PatternBookModel_asks b_PatternBookModel_asks 2 (some .boolean)) ({ frames := 1, cells := 0, slots := 0, locals := 20 }) (uP D classes [(mo, .inr (6, [.int co, .int kd, .int sg, .int ex, .ref wa, .long hi, .long lo, .long lh, .long ll, .ref sa, .ref ma]))] [] sz [.ref mo, .int x]) (uQ D classes (fun u : Bool × Int32 => some (.int (bI u.1))) (fun u => u = (sl m_M_asks) x) (va_A [(mo, .inr (6, [.int co, .int kd, .int sg, .int ex, .ref wa, .long hi, .long lo, .long lh, .long ll, .ref sa, .ref ma]))] sz) (fun _ => []) (fun u => [(mo, .inr (6, [.int u.2, .int kd, .int sg, .int ex, .ref wa, .long hi, .long lo, .long lh, .long ll, .ref sa, .ref ma]))])) 0 0 (va_A [(mo, .inr (6, [.int co, .int kd, .int sg, .int ex, .ref wa, .long hi, .long lo, .long lh, .long ll, .ref sa, .ref ma]))] sz) := by
  rw [sl_eq m_M_asks]
  refine uBegin (by decide +kernel) (Nat.le_of_ble_eq_true rfl) ?_
  intro p e s m below meth c A ls H locs hx hb hr hts hown hlocks hml hin hA hP hK hD hN hS hl
  have hl : lv_has ls 2 [(0, .ref mo), (1, .int x)] := hl
  refine lv_aload_n hx hb d_PatternBookModel_asks_0 rfl (lv_at hl 0 rfl) ?_
  refine lv_iload_n hx hb d_PatternBookModel_asks_1 rfl (lv_at hl 1 rfl) ?_
  refine uCall (WR := [(mo, .inr (6, [.int co, .int kd, .int sg, .int ex, .ref wa, .long hi, .long lo, .long lh, .long ll, .ref sa, .ref ma]))]) (RT := []) (va_runS (As := [.int x]) (rest := [.ref mo]) ⟨hx, hb, hml, hown, hts⟩ (c_M_isFormat l D H.size x) ⟨uCB 1 hts k_368 k_257 k_369 (by decide +kernel) rfl rfl ⟨Nat.le_of_ble_eq_true rfl, Nat.le_of_ble_eq_true rfl⟩, hts _ k_370⟩ (uPreS hK hP hD hN [] rfl (by decide) [] rfl) rfl rfl hl.1 rfl (lv_room (Nat.le_of_ble_eq_true rfl)) d_PatternBookModel_asks_2 ⟨(Nat.le_of_ble_eq_true rfl), (Nat.le_of_ble_eq_true rfl)⟩) hK hP hD hS hA [] [0] rfl rfl (by decide) (by decide) [] rfl (fun u1 H locs hu1 hP hD hK hS => ?_)
  have hP : va_P D classes [(mo, .inr (6, [.int co, .int kd, .int sg, .int ex, .ref wa, .long hi, .long lo, .long lh, .long ll, .ref sa, .ref ma]))] H := hP
  have hD : va_D A [(mo, .inr (6, [.int co, .int kd, .int sg, .int ex, .ref wa, .long hi, .long lo, .long lh, .long ll, .ref sa, .ref ma]))] := hD
  have hK : va_K D classes [] s := hK
  refine W.eq (g2 := F0 m 5 ls [.int (bI u1), .ref mo]) rfl ?_
  refine lv_if_eq (tgt := 12) hx hb d_PatternBookModel_asks_5 (by decide) (fun c_2 => ?_) (fun c_2 => ?_)
  · refine lv_iconst (v := 1) hx hb d_PatternBookModel_asks_12 (by decide) ?_
    refine va_put (D := D) (ci := 6) (v := .int (1:Int32)) (ty := .int) (C := R_PatternBookModel) (T := F_PatternBookModel) (N := 11) hx hb hts i_PatternBookModel t_PatternBookModel t_PatternBookModel_ok n_PatternBookModel hown hK hP hD hS 0 rfl rfl 0 (by decide) (hts _ k_255) (fun _ h9 => h9) rfl (by decide +kernel) rfl rfl (Nat.le_of_ble_eq_true rfl) d_PatternBookModel_asks_13 (fun H locs hP hD hS => ?_)
    have hP : va_P D classes [(mo, .inr (6, [.int (1:Int32), .int kd, .int sg, .int ex, .ref wa, .long hi, .long lo, .long lh, .long ll, .ref sa, .ref ma]))] H := hP
    have hD : va_D A [(mo, .inr (6, [.int (1:Int32), .int kd, .int sg, .int ex, .ref wa, .long hi, .long lo, .long lh, .long ll, .ref sa, .ref ma]))] := hD
    refine lv_aload_n hx hb d_PatternBookModel_asks_16 rfl (lv_at hl 0 rfl) ?_
    refine va_get (D := D) (ci := 6) (v := .int (1:Int32)) (C := R_PatternBookModel) (T := F_PatternBookModel) (N := 11) hx hb hts i_PatternBookModel hown hK hP 0 rfl rfl 0 (by decide) (hts _ k_255) (fun _ h9 => h9) rfl d_PatternBookModel_asks_17 ?_
    refine lv_if_ne (tgt := 27) hx hb d_PatternBookModel_asks_20 (by decide) (fun c_3 => ?_) (fun c_3 => ?_)
    · refine lv_iconst (v := 0) hx hb d_PatternBookModel_asks_27 (by decide) ?_
      refine W.zret hx hb hr rfl ?_ hS.2.2 d_PatternBookModel_asks_28
      exact uEnd (false, (1:Int32)) (hP.sub [0] rfl) (hK.sub [] rfl) (hD.sub [0] (by decide) rfl) hS (by have eu1 := hu1.symm; subst eu1; exact ((if_pos c_2).trans (rfl)).symm) rfl
    · exact absurd c_3 (by decide)
  · refine lv_iconst (v := 0) hx hb d_PatternBookModel_asks_8 (by decide) ?_
    refine lv_goto (tgt := 13) hx hb d_PatternBookModel_asks_9 (by decide) ?_
    refine va_put (D := D) (ci := 6) (v := .int (0:Int32)) (ty := .int) (C := R_PatternBookModel) (T := F_PatternBookModel) (N := 11) hx hb hts i_PatternBookModel t_PatternBookModel t_PatternBookModel_ok n_PatternBookModel hown hK hP hD hS 0 rfl rfl 0 (by decide) (hts _ k_255) (fun _ h9 => h9) rfl (by decide +kernel) rfl rfl (Nat.le_of_ble_eq_true rfl) d_PatternBookModel_asks_13 (fun H locs hP hD hS => ?_)
    have hP : va_P D classes [(mo, .inr (6, [.int (0:Int32), .int kd, .int sg, .int ex, .ref wa, .long hi, .long lo, .long lh, .long ll, .ref sa, .ref ma]))] H := hP
    have hD : va_D A [(mo, .inr (6, [.int (0:Int32), .int kd, .int sg, .int ex, .ref wa, .long hi, .long lo, .long lh, .long ll, .ref sa, .ref ma]))] := hD
    refine lv_aload_n hx hb d_PatternBookModel_asks_16 rfl (lv_at hl 0 rfl) ?_
    refine va_get (D := D) (ci := 6) (v := .int (0:Int32)) (C := R_PatternBookModel) (T := F_PatternBookModel) (N := 11) hx hb hts i_PatternBookModel hown hK hP 0 rfl rfl 0 (by decide) (hts _ k_255) (fun _ h9 => h9) rfl d_PatternBookModel_asks_17 ?_
    refine lv_if_ne (tgt := 27) hx hb d_PatternBookModel_asks_20 (by decide) (fun c_4 => ?_) (fun c_4 => ?_)
    · exact absurd (by decide) c_4
    · refine lv_iconst (v := 1) hx hb d_PatternBookModel_asks_23 (by decide) ?_
      refine lv_goto (tgt := 28) hx hb d_PatternBookModel_asks_24 (by decide) ?_
      refine W.zret hx hb hr rfl ?_ hS.2.2 d_PatternBookModel_asks_28
      exact uEnd (true, (0:Int32)) (hP.sub [0] rfl) (hK.sub [] rfl) (hD.sub [0] (by decide) rfl) hS (by have eu1 := hu1.symm; subst eu1; exact ((if_neg c_2).trans (rfl)).symm) rfl
set_option maxHeartbeats 4000000 in
set_option maxRecDepth 100000 in
/-- PatternBookModel.unpack(IJJ)I -/
theorem c_M_unpack (l : Launch) (D : va_G) (mo : Nat) (wa : Nat) (sa : Nat) (ma : Nat) (cW : ClassId) (cS : ClassId) (sz : Nat) (x : Int32) (y : Int64) (z : Int64) (co : Int32) (kd : Int32) (sg : Int32) (ex : Int32) (hi : Int64) (lo : Int64) (lh : Int64) (ll : Int64) (w : Nat → Int64) (sp : Nat → Int32) (hk : mok_M_unpack x y z) : Met l y_PatternBookModel_unpack (wsOf y_PatternBookModel_unpack b_PatternBookModel_unpack 6 (some .int)) ({ frames := 5, cells := 0, slots := 0, locals := 127 }) (uP D classes [(mo, .inr (6, [.int co, .int kd, .int sg, .int ex, .ref wa, .long hi, .long lo, .long lh, .long ll, .ref sa, .ref ma])), (wa, .inl (cW, 12, .inr (.inl w))), (sa, .inl (cS, 1024, .inl sp))] [(cW, .long), (cS, .int)] sz [.ref mo, .int x, .long y, .long z]) (uQ D classes (fun u : Int32 × Int32 × Int32 × Int32 × Int32 × Int64 × Int64 × (Nat → Int64) => some (.int u.1)) (fun u => u = (sl m_M_unpack) x y z kd sg ex lh ll w sp) (va_A [(mo, .inr (6, [.int co, .int kd, .int sg, .int ex, .ref wa, .long hi, .long lo, .long lh, .long ll, .ref sa, .ref ma])), (wa, .inl (cW, 12, .inr (.inl w))), (sa, .inl (cS, 1024, .inl sp))] sz) (fun _ => [(cW, .long), (cS, .int)]) (fun u => [(mo, .inr (6, [.int u.2.1, .int u.2.2.1, .int u.2.2.2.1, .int u.2.2.2.2.1, .ref wa, .long hi, .long lo, .long u.2.2.2.2.2.1, .long u.2.2.2.2.2.2.1, .ref sa, .ref ma])), (wa, .inl (cW, 12, .inr (.inl u.2.2.2.2.2.2.2))), (sa, .inl (cS, 1024, .inl sp))])) 0 0 (va_A [(mo, .inr (6, [.int co, .int kd, .int sg, .int ex, .ref wa, .long hi, .long lo, .long lh, .long ll, .ref sa, .ref ma])), (wa, .inl (cW, 12, .inr (.inl w))), (sa, .inl (cS, 1024, .inl sp))] sz) := by
  rw [sl_eq m_M_unpack]
  refine uBegin (by decide +kernel) (Nat.le_of_ble_eq_true rfl) ?_
  intro p e s m below meth c A ls H locs hx hb hr hts hown hlocks hml hin hA hP hK hD hN hS hl
  have hl : lv_has ls 6 [(0, .ref mo), (1, .int x), (2, .long y), (4, .long z)] := hl
  unfold mok_M_unpack at hk
  refine lv_aload_n hx hb d_PatternBookModel_unpack_0 rfl (lv_at hl 0 rfl) ?_
  refine lv_iload_n hx hb d_PatternBookModel_unpack_1 rfl (lv_at hl 1 rfl) ?_
  refine uCall (WR := [(wa, .inl (cW, 12, .inr (.inl w))), (sa, .inl (cS, 1024, .inl sp))]) (RT := [(cW, .long), (cS, .int)]) (va_runV (As := [.int x]) (rest := []) ⟨hx, hb, hml, hown, hts⟩ (c_M_asks l D mo wa sa ma H.size x co kd sg ex hi lo lh ll) ⟨uCB 1 hts k_371 k_257 k_372 (by decide +kernel) rfl rfl ⟨Nat.le_of_ble_eq_true rfl, Nat.le_of_ble_eq_true rfl⟩, hts _ k_373, hts _ k_374⟩ (uPreV (ci := 6) (q0 := 0) hK hP hD hN [0] rfl (by decide) [] rfl rfl rfl) rfl rfl hl.1 rfl (lv_room (Nat.le_of_ble_eq_true rfl)) d_PatternBookModel_unpack_2 ⟨(Nat.le_of_ble_eq_true rfl), (Nat.le_of_ble_eq_true rfl)⟩) hK hP hD hS hA [0] [1, 2] rfl rfl (by decide) (by decide) [0, 1] rfl (fun u1 H locs hu1 hP hD hK hS => ?_)
  have hP : va_P D classes [(wa, .inl (cW, 12, .inr (.inl w))), (sa, .inl (cS, 1024, .inl sp)), (mo, .inr (6, [.int u1.2, .int kd, .int sg, .int ex, .ref wa, .long hi, .long lo, .long lh, .long ll, .ref sa, .ref ma]))] H := hP
  have hD : va_D A [(wa, .inl (cW, 12, .inr (.inl w))), (sa, .inl (cS, 1024, .inl sp)), (mo, .inr (6, [.int u1.2, .int kd, .int sg, .int ex, .ref wa, .long hi, .long lo, .long lh, .long ll, .ref sa, .ref ma]))] := hD
  have hK : va_K D classes [(cW, .long), (cS, .int)] s := hK
  refine W.eq (g2 := F0 m 5 ls [.int (bI u1.1)]) rfl ?_
  have hk := hk u1 hu1
  refine lv_if_ne (tgt := 10) hx hb d_PatternBookModel_unpack_5 (by decide) (fun c_2 => ?_) (fun c_2 => ?_)
  · have hk := hk.2 c_2
    refine lv_aload_n hx hb d_PatternBookModel_unpack_10 rfl (lv_at hl 0 rfl) ?_
    refine lv_lload_n hx hb d_PatternBookModel_unpack_11 rfl (lv_at hl 2 rfl) ?_
    refine va_put (D := D) (ci := 6) (v := .long y) (ty := .long) (C := R_PatternBookModel) (T := F_PatternBookModel) (N := 11) hx hb hts i_PatternBookModel t_PatternBookModel t_PatternBookModel_ok n_PatternBookModel hown hK hP hD hS 2 rfl rfl 7 (by decide) (hts _ k_273) (fun _ h9 => h9) rfl (by decide +kernel) rfl rfl (Nat.le_of_ble_eq_true rfl) d_PatternBookModel_unpack_12 (fun H locs hP hD hS => ?_)
    have hP : va_P D classes [(wa, .inl (cW, 12, .inr (.inl w))), (sa, .inl (cS, 1024, .inl sp)), (mo, .inr (6, [.int u1.2, .int kd, .int sg, .int ex, .ref wa, .long hi, .long lo, .long y, .long ll, .ref sa, .ref ma]))] H := hP
    have hD : va_D A [(wa, .inl (cW, 12, .inr (.inl w))), (sa, .inl (cS, 1024, .inl sp)), (mo, .inr (6, [.int u1.2, .int kd, .int sg, .int ex, .ref wa, .long hi, .long lo, .long y, .long ll, .ref sa, .ref ma]))] := hD
    refine lv_aload_n hx hb d_PatternBookModel_unpack_15 rfl (lv_at hl 0 rfl) ?_
    refine lv_lload hx hb d_PatternBookModel_unpack_16 (lv_at hl 3 rfl) ?_
    refine va_put (D := D) (ci := 6) (v := .long z) (ty := .long) (C := R_PatternBookModel) (T := F_PatternBookModel) (N := 11) hx hb hts i_PatternBookModel t_PatternBookModel t_PatternBookModel_ok n_PatternBookModel hown hK hP hD hS 2 rfl rfl 8 (by decide) (hts _ k_274) (fun _ h9 => h9) rfl (by decide +kernel) rfl rfl (Nat.le_of_ble_eq_true rfl) d_PatternBookModel_unpack_18 (fun H locs hP hD hS => ?_)
    have hP : va_P D classes [(wa, .inl (cW, 12, .inr (.inl w))), (sa, .inl (cS, 1024, .inl sp)), (mo, .inr (6, [.int u1.2, .int kd, .int sg, .int ex, .ref wa, .long hi, .long lo, .long y, .long z, .ref sa, .ref ma]))] H := hP
    have hD : va_D A [(wa, .inl (cW, 12, .inr (.inl w))), (sa, .inl (cS, 1024, .inl sp)), (mo, .inr (6, [.int u1.2, .int kd, .int sg, .int ex, .ref wa, .long hi, .long lo, .long y, .long z, .ref sa, .ref ma]))] := hD
    refine lv_aload_n hx hb d_PatternBookModel_unpack_21 rfl (lv_at hl 0 rfl) ?_
    refine lv_iload_n hx hb d_PatternBookModel_unpack_22 rfl (lv_at hl 1 rfl) ?_
    have ho3 := hk
    refine uCall (WR := []) (RT := []) (va_runV (As := [.int x]) (rest := []) ⟨hx, hb, hml, hown, hts⟩ (c_M_open l D mo wa sa ma cW cS H.size x u1.2 kd sg ex hi lo y z w sp ho3) ⟨uCB 1 hts k_375 k_257 k_376 (by decide +kernel) rfl rfl ⟨Nat.le_of_ble_eq_true rfl, Nat.le_of_ble_eq_true rfl⟩, hts _ k_377, hts _ k_378⟩ (uPreV (ci := 6) (q0 := 2) hK hP hD hN [2, 0, 1] rfl (by decide) [0, 1] rfl rfl rfl) rfl rfl hl.1 rfl (lv_room (Nat.le_of_ble_eq_true rfl)) d_PatternBookModel_unpack_23 ⟨(Nat.le_of_ble_eq_true rfl), (Nat.le_of_ble_eq_true rfl)⟩) hK hP hD hS hA [2, 0, 1] [] rfl rfl (by decide) (by decide) [] rfl (fun u3 H locs hu3 hP hD hK hS => ?_)
    have hP : va_P D classes [(mo, .inr (6, [.int u1.2, .int u3.1, .int u3.2.1, .int u3.2.2.1, .ref wa, .long hi, .long lo, .long u3.2.2.2.1, .long u3.2.2.2.2.1, .ref sa, .ref ma])), (wa, .inl (cW, 12, .inr (.inl u3.2.2.2.2.2))), (sa, .inl (cS, 1024, .inl sp))] H := hP
    have hD : va_D A [(mo, .inr (6, [.int u1.2, .int u3.1, .int u3.2.1, .int u3.2.2.1, .ref wa, .long hi, .long lo, .long u3.2.2.2.1, .long u3.2.2.2.2.1, .ref sa, .ref ma])), (wa, .inl (cW, 12, .inr (.inl u3.2.2.2.2.2))), (sa, .inl (cS, 1024, .inl sp))] := hD
    have hK : va_K D classes [(cW, .long), (cS, .int)] s := hK
    refine W.eq (g2 := F0 m 26 ls []) rfl ?_
    refine lv_aload_n hx hb d_PatternBookModel_unpack_26 rfl (lv_at hl 0 rfl) ?_
    refine va_get (D := D) (ci := 6) (v := .int u3.1) (C := R_PatternBookModel) (T := F_PatternBookModel) (N := 11) hx hb hts i_PatternBookModel hown hK hP 0 rfl rfl 1 (by decide) (hts _ k_318) (fun _ h9 => h9) rfl d_PatternBookModel_unpack_27 ?_
    refine W.iret hx hb hr ?_ hS.2.2 d_PatternBookModel_unpack_30
    exact uEnd (u3.1, u1.2, u3.1, u3.2.1, u3.2.2.1, u3.2.2.2.1, u3.2.2.2.2.1, u3.2.2.2.2.2) (hP.sub [0, 1, 2] rfl) (hK.sub [0, 1] rfl) (hD.sub [0, 1, 2] (by decide) rfl) hS (by have eu1 := hu1.symm; subst eu1; have eu3 := hu3.symm; subst eu3; exact ((if_neg c_2).trans (rfl)).symm) rfl
  · refine lv_iconst (v := 0) hx hb d_PatternBookModel_unpack_8 (by decide) ?_
    refine W.iret hx hb hr ?_ hS.2.2 d_PatternBookModel_unpack_9
    exact uEnd ((0:Int32), u1.2, kd, sg, ex, lh, ll, w) (hP.sub [2, 0, 1] rfl) (hK.sub [0, 1] rfl) (hD.sub [2, 0, 1] (by decide) rfl) hS (by have eu1 := hu1.symm; subst eu1; exact ((if_pos c_2).trans (rfl)).symm) rfl
set_option maxHeartbeats 4000000 in
set_option maxRecDepth 100000 in
/-- PatternBookModel.canonical(IJJ)Z -/
theorem c_M_canonical (l : Launch) (D : va_G) (mo : Nat) (wa : Nat) (sa : Nat) (ma : Nat) (cW : ClassId) (cS : ClassId) (cM : ClassId) (sz : Nat) (x : Int32) (y : Int64) (z : Int64) (co : Int32) (kd : Int32) (sg : Int32) (ex : Int32) (hi : Int64) (lo : Int64) (lh : Int64) (ll : Int64) (w : Nat → Int64) (sp : Nat → Int32) (md : Nat → Int32) (hk : mok_M_canonical x y z w sp) : Met l y_PatternBookModel_canonical (wsOf y_PatternBookModel_canonical b_PatternBookModel_canonical 22 (some .boolean)) ({ frames := 5, cells := 0, slots := 0, locals := 127 }) (uP D classes [(mo, .inr (6, [.int co, .int kd, .int sg, .int ex, .ref wa, .long hi, .long lo, .long lh, .long ll, .ref sa, .ref ma])), (wa, .inl (cW, 12, .inr (.inl w))), (sa, .inl (cS, 1024, .inl sp)), (ma, .inl (cM, 1000, .inl md))] [(cW, .long), (cS, .int), (cM, .int)] sz [.ref mo, .int x, .long y, .long z]) (uQ D classes (fun u : Bool × Int32 × Int64 × Int64 × (Nat → Int64) => some (.int (bI u.1))) (fun u => u = (sl m_M_canonical) x y z lh ll w sp md) (va_A [(mo, .inr (6, [.int co, .int kd, .int sg, .int ex, .ref wa, .long hi, .long lo, .long lh, .long ll, .ref sa, .ref ma])), (wa, .inl (cW, 12, .inr (.inl w))), (sa, .inl (cS, 1024, .inl sp)), (ma, .inl (cM, 1000, .inl md))] sz) (fun _ => [(cW, .long), (cS, .int), (cM, .int)]) (fun u => [(mo, .inr (6, [.int u.2.1, .int kd, .int sg, .int ex, .ref wa, .long hi, .long lo, .long u.2.2.1, .long u.2.2.2.1, .ref sa, .ref ma])), (wa, .inl (cW, 12, .inr (.inl u.2.2.2.2))), (sa, .inl (cS, 1024, .inl sp)), (ma, .inl (cM, 1000, .inl md))])) 0 0 (va_A [(mo, .inr (6, [.int co, .int kd, .int sg, .int ex, .ref wa, .long hi, .long lo, .long lh, .long ll, .ref sa, .ref ma])), (wa, .inl (cW, 12, .inr (.inl w))), (sa, .inl (cS, 1024, .inl sp)), (ma, .inl (cM, 1000, .inl md))] sz) := by
  rw [sl_eq m_M_canonical]
  refine uBegin (by decide +kernel) (Nat.le_of_ble_eq_true rfl) ?_
  intro p e s m below meth c A ls H locs hx hb hr hts hown hlocks hml hin hA hP hK hD hN hS hl
  have hl : lv_has ls 22 [(0, .ref mo), (1, .int x), (2, .long y), (4, .long z)] := hl
  unfold mok_M_canonical at hk
  refine lv_aload_n hx hb d_PatternBookModel_canonical_0 rfl (lv_at hl 0 rfl) ?_
  refine lv_iload_n hx hb d_PatternBookModel_canonical_1 rfl (lv_at hl 1 rfl) ?_
  refine uCall (WR := [(wa, .inl (cW, 12, .inr (.inl w))), (sa, .inl (cS, 1024, .inl sp)), (ma, .inl (cM, 1000, .inl md))]) (RT := [(cW, .long), (cS, .int), (cM, .int)]) (va_runV (As := [.int x]) (rest := []) ⟨hx, hb, hml, hown, hts⟩ (c_M_asks l D mo wa sa ma H.size x co kd sg ex hi lo lh ll) ⟨uCB 1 hts k_371 k_257 k_372 (by decide +kernel) rfl rfl ⟨Nat.le_of_ble_eq_true rfl, Nat.le_of_ble_eq_true rfl⟩, hts _ k_373, hts _ k_374⟩ (uPreV (ci := 6) (q0 := 0) hK hP hD hN [0] rfl (by decide) [] rfl rfl rfl) rfl rfl hl.1 rfl (lv_room (Nat.le_of_ble_eq_true rfl)) d_PatternBookModel_canonical_2 ⟨(Nat.le_of_ble_eq_true rfl), (Nat.le_of_ble_eq_true rfl)⟩) hK hP hD hS hA [0] [1, 2, 3] rfl rfl (by decide) (by decide) [0, 1, 2] rfl (fun u1 H locs hu1 hP hD hK hS => ?_)
  have hP : va_P D classes [(wa, .inl (cW, 12, .inr (.inl w))), (sa, .inl (cS, 1024, .inl sp)), (ma, .inl (cM, 1000, .inl md)), (mo, .inr (6, [.int u1.2, .int kd, .int sg, .int ex, .ref wa, .long hi, .long lo, .long lh, .long ll, .ref sa, .ref ma]))] H := hP
  have hD : va_D A [(wa, .inl (cW, 12, .inr (.inl w))), (sa, .inl (cS, 1024, .inl sp)), (ma, .inl (cM, 1000, .inl md)), (mo, .inr (6, [.int u1.2, .int kd, .int sg, .int ex, .ref wa, .long hi, .long lo, .long lh, .long ll, .ref sa, .ref ma]))] := hD
  have hK : va_K D classes [(cW, .long), (cS, .int), (cM, .int)] s := hK
  refine W.eq (g2 := F0 m 5 ls [.int (bI u1.1)]) rfl ?_
  have hk := hk u1 hu1
  refine lv_if_ne (tgt := 10) hx hb d_PatternBookModel_canonical_5 (by decide) (fun c_2 => ?_) (fun c_2 => ?_)
  · have hk := hk.2 c_2
    refine lv_aload_n hx hb d_PatternBookModel_canonical_10 rfl (lv_at hl 0 rfl) ?_
    refine va_get (D := D) (ci := 6) (v := .int kd) (C := R_PatternBookModel) (T := F_PatternBookModel) (N := 11) hx hb hts i_PatternBookModel hown hK hP 3 rfl rfl 1 (by decide) (hts _ k_318) (fun _ h9 => h9) rfl d_PatternBookModel_canonical_11 ?_
    refine lv_istore (lv' := [(6, .int kd), (0, .ref mo), (1, .int x), (2, .long y), (4, .long z)]) hx hb d_PatternBookModel_canonical_14 hl (by decide) rfl (fun ls hl => ?_)
    refine lv_aload_n hx hb d_PatternBookModel_canonical_16 rfl (lv_at hl 1 rfl) ?_
    refine va_get (D := D) (ci := 6) (v := .int sg) (C := R_PatternBookModel) (T := F_PatternBookModel) (N := 11) hx hb hts i_PatternBookModel hown hK hP 3 rfl rfl 2 (by decide) (hts _ k_331) (fun _ h9 => h9) rfl d_PatternBookModel_canonical_17 ?_
    refine lv_istore (lv' := [(7, .int sg), (6, .int kd), (0, .ref mo), (1, .int x), (2, .long y), (4, .long z)]) hx hb d_PatternBookModel_canonical_20 hl (by decide) rfl (fun ls hl => ?_)
    refine lv_aload_n hx hb d_PatternBookModel_canonical_22 rfl (lv_at hl 2 rfl) ?_
    refine va_get (D := D) (ci := 6) (v := .int ex) (C := R_PatternBookModel) (T := F_PatternBookModel) (N := 11) hx hb hts i_PatternBookModel hown hK hP 3 rfl rfl 3 (by decide) (hts _ k_313) (fun _ h9 => h9) rfl d_PatternBookModel_canonical_23 ?_
    refine lv_istore (lv' := [(8, .int ex), (7, .int sg), (6, .int kd), (0, .ref mo), (1, .int x), (2, .long y), (4, .long z)]) hx hb d_PatternBookModel_canonical_26 hl (by decide) rfl (fun ls hl => ?_)
    refine lv_aload_n hx hb d_PatternBookModel_canonical_28 rfl (lv_at hl 3 rfl) ?_
    refine va_get (D := D) (ci := 6) (v := .ref wa) (C := R_PatternBookModel) (T := F_PatternBookModel) (N := 11) hx hb hts i_PatternBookModel hown hK hP 3 rfl rfl 4 (by decide) (hts _ k_263) (fun _ h9 => h9) rfl d_PatternBookModel_canonical_29 ?_
    refine lv_iconst (v := 0) hx hb d_PatternBookModel_canonical_32 (by decide) ?_
    refine va_lald hx hb hK hP 0 0 rfl rfl (idx_in rfl) d_PatternBookModel_canonical_33 ?_
    refine W.eq (g2 := F0 m 34 ls [.long (w 0)]) rfl ?_
    refine lv_lstore (lv' := [(9, .long (w 0)), (8, .int ex), (7, .int sg), (6, .int kd), (0, .ref mo), (1, .int x), (2, .long y), (4, .long z)]) hx hb d_PatternBookModel_canonical_34 hl (by decide) rfl (fun ls hl => ?_)
    refine lv_aload_n hx hb d_PatternBookModel_canonical_36 rfl (lv_at hl 4 rfl) ?_
    refine va_get (D := D) (ci := 6) (v := .ref wa) (C := R_PatternBookModel) (T := F_PatternBookModel) (N := 11) hx hb hts i_PatternBookModel hown hK hP 3 rfl rfl 4 (by decide) (hts _ k_263) (fun _ h9 => h9) rfl d_PatternBookModel_canonical_37 ?_
    refine lv_iconst (v := 1) hx hb d_PatternBookModel_canonical_40 (by decide) ?_
    refine va_lald hx hb hK hP 0 0 rfl rfl (idx_in rfl) d_PatternBookModel_canonical_41 ?_
    refine W.eq (g2 := F0 m 42 ls [.long (w 1)]) rfl ?_
    refine lv_lstore (lv' := [(11, .long (w 1)), (9, .long (w 0)), (8, .int ex), (7, .int sg), (6, .int kd), (0, .ref mo), (1, .int x), (2, .long y), (4, .long z)]) hx hb d_PatternBookModel_canonical_42 hl (by decide) rfl (fun ls hl => ?_)
    refine lv_aload_n hx hb d_PatternBookModel_canonical_44 rfl (lv_at hl 5 rfl) ?_
    refine va_get (D := D) (ci := 6) (v := .ref wa) (C := R_PatternBookModel) (T := F_PatternBookModel) (N := 11) hx hb hts i_PatternBookModel hown hK hP 3 rfl rfl 4 (by decide) (hts _ k_263) (fun _ h9 => h9) rfl d_PatternBookModel_canonical_45 ?_
    refine lv_iconst (v := 2) hx hb d_PatternBookModel_canonical_48 (by decide) ?_
    refine va_lald hx hb hK hP 0 0 rfl rfl (idx_in rfl) d_PatternBookModel_canonical_49 ?_
    refine W.eq (g2 := F0 m 50 ls [.long (w 2)]) rfl ?_
    refine lv_lstore (lv' := [(13, .long (w 2)), (11, .long (w 1)), (9, .long (w 0)), (8, .int ex), (7, .int sg), (6, .int kd), (0, .ref mo), (1, .int x), (2, .long y), (4, .long z)]) hx hb d_PatternBookModel_canonical_50 hl (by decide) rfl (fun ls hl => ?_)
    refine lv_aload_n hx hb d_PatternBookModel_canonical_52 rfl (lv_at hl 6 rfl) ?_
    refine va_get (D := D) (ci := 6) (v := .ref wa) (C := R_PatternBookModel) (T := F_PatternBookModel) (N := 11) hx hb hts i_PatternBookModel hown hK hP 3 rfl rfl 4 (by decide) (hts _ k_263) (fun _ h9 => h9) rfl d_PatternBookModel_canonical_53 ?_
    refine lv_iconst (v := 3) hx hb d_PatternBookModel_canonical_56 (by decide) ?_
    refine va_lald hx hb hK hP 0 0 rfl rfl (idx_in rfl) d_PatternBookModel_canonical_57 ?_
    refine W.eq (g2 := F0 m 58 ls [.long (w 3)]) rfl ?_
    refine lv_lstore (lv' := [(15, .long (w 3)), (13, .long (w 2)), (11, .long (w 1)), (9, .long (w 0)), (8, .int ex), (7, .int sg), (6, .int kd), (0, .ref mo), (1, .int x), (2, .long y), (4, .long z)]) hx hb d_PatternBookModel_canonical_58 hl (by decide) rfl (fun ls hl => ?_)
    refine lv_aload_n hx hb d_PatternBookModel_canonical_60 rfl (lv_at hl 7 rfl) ?_
    refine lv_lload_n hx hb d_PatternBookModel_canonical_61 rfl (lv_at hl 9 rfl) ?_
    refine va_put (D := D) (ci := 6) (v := .long y) (ty := .long) (C := R_PatternBookModel) (T := F_PatternBookModel) (N := 11) hx hb hts i_PatternBookModel t_PatternBookModel t_PatternBookModel_ok n_PatternBookModel hown hK hP hD hS 3 rfl rfl 7 (by decide) (hts _ k_273) (fun _ h9 => h9) rfl (by decide +kernel) rfl rfl (Nat.le_of_ble_eq_true rfl) d_PatternBookModel_canonical_62 (fun H locs hP hD hS => ?_)
    have hP : va_P D classes [(wa, .inl (cW, 12, .inr (.inl w))), (sa, .inl (cS, 1024, .inl sp)), (ma, .inl (cM, 1000, .inl md)), (mo, .inr (6, [.int u1.2, .int kd, .int sg, .int ex, .ref wa, .long hi, .long lo, .long y, .long ll, .ref sa, .ref ma]))] H := hP
    have hD : va_D A [(wa, .inl (cW, 12, .inr (.inl w))), (sa, .inl (cS, 1024, .inl sp)), (ma, .inl (cM, 1000, .inl md)), (mo, .inr (6, [.int u1.2, .int kd, .int sg, .int ex, .ref wa, .long hi, .long lo, .long y, .long ll, .ref sa, .ref ma]))] := hD
    refine lv_aload_n hx hb d_PatternBookModel_canonical_65 rfl (lv_at hl 7 rfl) ?_
    refine lv_lload hx hb d_PatternBookModel_canonical_66 (lv_at hl 10 rfl) ?_
    refine va_put (D := D) (ci := 6) (v := .long z) (ty := .long) (C := R_PatternBookModel) (T := F_PatternBookModel) (N := 11) hx hb hts i_PatternBookModel t_PatternBookModel t_PatternBookModel_ok n_PatternBookModel hown hK hP hD hS 3 rfl rfl 8 (by decide) (hts _ k_274) (fun _ h9 => h9) rfl (by decide +kernel) rfl rfl (Nat.le_of_ble_eq_true rfl) d_PatternBookModel_canonical_68 (fun H locs hP hD hS => ?_)
    have hP : va_P D classes [(wa, .inl (cW, 12, .inr (.inl w))), (sa, .inl (cS, 1024, .inl sp)), (ma, .inl (cM, 1000, .inl md)), (mo, .inr (6, [.int u1.2, .int kd, .int sg, .int ex, .ref wa, .long hi, .long lo, .long y, .long z, .ref sa, .ref ma]))] H := hP
    have hD : va_D A [(wa, .inl (cW, 12, .inr (.inl w))), (sa, .inl (cS, 1024, .inl sp)), (ma, .inl (cM, 1000, .inl md)), (mo, .inr (6, [.int u1.2, .int kd, .int sg, .int ex, .ref wa, .long hi, .long lo, .long y, .long z, .ref sa, .ref ma]))] := hD
    refine lv_aload_n hx hb d_PatternBookModel_canonical_71 rfl (lv_at hl 7 rfl) ?_
    refine lv_iload_n hx hb d_PatternBookModel_canonical_72 rfl (lv_at hl 8 rfl) ?_
    refine uCall (WR := [(wa, .inl (cW, 12, .inr (.inl w))), (sa, .inl (cS, 1024, .inl sp)), (ma, .inl (cM, 1000, .inl md))]) (RT := [(cW, .long), (cS, .int), (cM, .int)]) (va_runV (As := [.int x]) (rest := []) ⟨hx, hb, hml, hown, hts⟩ (c_M_mask l D mo wa sa ma H.size x u1.2 kd sg ex hi lo y z) ⟨uCB 1 hts k_327 k_257 k_328 (by decide +kernel) rfl rfl ⟨Nat.le_of_ble_eq_true rfl, Nat.le_of_ble_eq_true rfl⟩, hts _ k_329, hts _ k_330⟩ (uPreV (ci := 6) (q0 := 3) hK hP hD hN [3] rfl (by decide) [] rfl rfl rfl) rfl rfl hl.1 rfl (lv_room (Nat.le_of_ble_eq_true rfl)) d_PatternBookModel_canonical_73 ⟨(Nat.le_of_ble_eq_true rfl), (Nat.le_of_ble_eq_true rfl)⟩) hK hP hD hS hA [3] [0, 1, 2] rfl rfl (by decide) (by decide) [0, 1, 2] rfl (fun u3 H locs hu3 hP hD hK hS => ?_)
    have hP : va_P D classes [(wa, .inl (cW, 12, .inr (.inl w))), (sa, .inl (cS, 1024, .inl sp)), (ma, .inl (cM, 1000, .inl md)), (mo, .inr (6, [.int u1.2, .int kd, .int sg, .int ex, .ref wa, .long hi, .long lo, .long u3.1, .long u3.2, .ref sa, .ref ma]))] H := hP
    have hD : va_D A [(wa, .inl (cW, 12, .inr (.inl w))), (sa, .inl (cS, 1024, .inl sp)), (ma, .inl (cM, 1000, .inl md)), (mo, .inr (6, [.int u1.2, .int kd, .int sg, .int ex, .ref wa, .long hi, .long lo, .long u3.1, .long u3.2, .ref sa, .ref ma]))] := hD
    have hK : va_K D classes [(cW, .long), (cS, .int), (cM, .int)] s := hK
    refine W.eq (g2 := F0 m 76 ls []) rfl ?_
    have hk := hk u3 hu3
    refine lv_aload_n hx hb d_PatternBookModel_canonical_76 rfl (lv_at hl 7 rfl) ?_
    refine va_get (D := D) (ci := 6) (v := .long u3.1) (C := R_PatternBookModel) (T := F_PatternBookModel) (N := 11) hx hb hts i_PatternBookModel hown hK hP 3 rfl rfl 7 (by decide) (hts _ k_273) (fun _ h9 => h9) rfl d_PatternBookModel_canonical_77 ?_
    refine lv_lstore (lv' := [(17, .long u3.1), (15, .long (w 3)), (13, .long (w 2)), (11, .long (w 1)), (9, .long (w 0)), (8, .int ex), (7, .int sg), (6, .int kd), (0, .ref mo), (1, .int x), (2, .long y), (4, .long z)]) hx hb d_PatternBookModel_canonical_80 hl (by decide) rfl (fun ls hl => ?_)
    refine lv_aload_n hx hb d_PatternBookModel_canonical_82 rfl (lv_at hl 8 rfl) ?_
    refine va_get (D := D) (ci := 6) (v := .long u3.2) (C := R_PatternBookModel) (T := F_PatternBookModel) (N := 11) hx hb hts i_PatternBookModel hown hK hP 3 rfl rfl 8 (by decide) (hts _ k_274) (fun _ h9 => h9) rfl d_PatternBookModel_canonical_83 ?_
    refine lv_lstore (lv' := [(19, .long u3.2), (17, .long u3.1), (15, .long (w 3)), (13, .long (w 2)), (11, .long (w 1)), (9, .long (w 0)), (8, .int ex), (7, .int sg), (6, .int kd), (0, .ref mo), (1, .int x), (2, .long y), (4, .long z)]) hx hb d_PatternBookModel_canonical_86 hl (by decide) rfl (fun ls hl => ?_)
    refine lv_aload_n hx hb d_PatternBookModel_canonical_88 rfl (lv_at hl 9 rfl) ?_
    refine lv_iload_n hx hb d_PatternBookModel_canonical_89 rfl (lv_at hl 10 rfl) ?_
    have ho4 := hk.1
    have hk := hk.2
    refine uCall (WR := [(ma, .inl (cM, 1000, .inl md))]) (RT := [(cM, .int)]) (va_runV (As := [.int x]) (rest := []) ⟨hx, hb, hml, hown, hts⟩ (c_M_open l D mo wa sa ma cW cS H.size x u1.2 kd sg ex hi lo u3.1 u3.2 w sp ho4) ⟨uCB 1 hts k_375 k_257 k_376 (by decide +kernel) rfl rfl ⟨Nat.le_of_ble_eq_true rfl, Nat.le_of_ble_eq_true rfl⟩, hts _ k_377, hts _ k_378⟩ (uPreV (ci := 6) (q0 := 3) hK hP hD hN [3, 0, 1] rfl (by decide) [0, 1] rfl rfl rfl) rfl rfl hl.1 rfl (lv_room (Nat.le_of_ble_eq_true rfl)) d_PatternBookModel_canonical_90 ⟨(Nat.le_of_ble_eq_true rfl), (Nat.le_of_ble_eq_true rfl)⟩) hK hP hD hS hA [3, 0, 1] [2] rfl rfl (by decide) (by decide) [2] rfl (fun u4 H locs hu4 hP hD hK hS => ?_)
    have hP : va_P D classes [(ma, .inl (cM, 1000, .inl md)), (mo, .inr (6, [.int u1.2, .int u4.1, .int u4.2.1, .int u4.2.2.1, .ref wa, .long hi, .long lo, .long u4.2.2.2.1, .long u4.2.2.2.2.1, .ref sa, .ref ma])), (wa, .inl (cW, 12, .inr (.inl u4.2.2.2.2.2))), (sa, .inl (cS, 1024, .inl sp))] H := hP
    have hD : va_D A [(ma, .inl (cM, 1000, .inl md)), (mo, .inr (6, [.int u1.2, .int u4.1, .int u4.2.1, .int u4.2.2.1, .ref wa, .long hi, .long lo, .long u4.2.2.2.1, .long u4.2.2.2.2.1, .ref sa, .ref ma])), (wa, .inl (cW, 12, .inr (.inl u4.2.2.2.2.2))), (sa, .inl (cS, 1024, .inl sp))] := hD
    have hK : va_K D classes [(cM, .int), (cW, .long), (cS, .int)] s := hK
    refine W.eq (g2 := F0 m 93 ls []) rfl ?_
    have hk := hk u4 hu4
    refine lv_aload_n hx hb d_PatternBookModel_canonical_93 rfl (lv_at hl 9 rfl) ?_
    refine lv_iload_n hx hb d_PatternBookModel_canonical_94 rfl (lv_at hl 10 rfl) ?_
    have ho5 := hk
    refine uCall (WR := [(sa, .inl (cS, 1024, .inl sp))]) (RT := [(cS, .int)]) (va_runV (As := [.int x]) (rest := []) ⟨hx, hb, hml, hown, hts⟩ (c_M_close l D mo wa sa ma cW cM H.size x u1.2 u4.1 u4.2.1 u4.2.2.1 hi lo u4.2.2.2.1 u4.2.2.2.2.1 u4.2.2.2.2.2 md ho5) ⟨uCB 1 hts k_379 k_257 k_380 (by decide +kernel) rfl rfl ⟨Nat.le_of_ble_eq_true rfl, Nat.le_of_ble_eq_true rfl⟩, hts _ k_381, hts _ k_382⟩ (uPreV (ci := 6) (q0 := 1) hK hP hD hN [1, 2, 0] rfl (by decide) [1, 0] rfl rfl rfl) rfl rfl hl.1 rfl (lv_room (Nat.le_of_ble_eq_true rfl)) d_PatternBookModel_canonical_95 ⟨(Nat.le_of_ble_eq_true rfl), (Nat.le_of_ble_eq_true rfl)⟩) hK hP hD hS hA [1, 2, 0] [3] rfl rfl (by decide) (by decide) [2] rfl (fun u5 H locs hu5 hP hD hK hS => ?_)
    have hP : va_P D classes [(sa, .inl (cS, 1024, .inl sp)), (mo, .inr (6, [.int u1.2, .int u4.1, .int u4.2.1, .int u4.2.2.1, .ref wa, .long hi, .long lo, .long u5.1, .long u5.2.1, .ref sa, .ref ma])), (wa, .inl (cW, 12, .inr (.inl u5.2.2))), (ma, .inl (cM, 1000, .inl md))] H := hP
    have hD : va_D A [(sa, .inl (cS, 1024, .inl sp)), (mo, .inr (6, [.int u1.2, .int u4.1, .int u4.2.1, .int u4.2.2.1, .ref wa, .long hi, .long lo, .long u5.1, .long u5.2.1, .ref sa, .ref ma])), (wa, .inl (cW, 12, .inr (.inl u5.2.2))), (ma, .inl (cM, 1000, .inl md))] := hD
    have hK : va_K D classes [(cS, .int), (cW, .long), (cM, .int)] s := hK
    refine W.eq (g2 := F0 m 98 ls []) rfl ?_
    refine lv_aload_n hx hb d_PatternBookModel_canonical_98 rfl (lv_at hl 9 rfl) ?_
    refine va_get (D := D) (ci := 6) (v := .long u5.1) (C := R_PatternBookModel) (T := F_PatternBookModel) (N := 11) hx hb hts i_PatternBookModel hown hK hP 1 rfl rfl 7 (by decide) (hts _ k_273) (fun _ h9 => h9) rfl d_PatternBookModel_canonical_99 ?_
    refine lv_lload hx hb d_PatternBookModel_canonical_102 (lv_at hl 1 rfl) ?_
    refine W.lcmp hx hb d_PatternBookModel_canonical_104 ?_
    refine lv_if_ne (tgt := 122) hx hb d_PatternBookModel_canonical_105 (by decide) (fun c_6 => ?_) (fun c_6 => ?_)
    · refine lv_iconst (v := 0) hx hb d_PatternBookModel_canonical_122 (by decide) ?_
      refine lv_istore (lv' := [(21, .int (0:Int32)), (19, .long u3.2), (17, .long u3.1), (15, .long (w 3)), (13, .long (w 2)), (11, .long (w 1)), (9, .long (w 0)), (8, .int ex), (7, .int sg), (6, .int kd), (0, .ref mo), (1, .int x), (2, .long y), (4, .long z)]) hx hb d_PatternBookModel_canonical_123 hl (by decide) rfl (fun ls hl => ?_)
      refine lv_aload_n hx hb d_PatternBookModel_canonical_125 rfl (lv_at hl 10 rfl) ?_
      refine lv_iload hx hb d_PatternBookModel_canonical_126 (lv_at hl 9 rfl) ?_
      refine va_put (D := D) (ci := 6) (v := .int kd) (ty := .int) (C := R_PatternBookModel) (T := F_PatternBookModel) (N := 11) hx hb hts i_PatternBookModel t_PatternBookModel t_PatternBookModel_ok n_PatternBookModel hown hK hP hD hS 1 rfl rfl 1 (by decide) (hts _ k_318) (fun _ h9 => h9) rfl (by decide +kernel) rfl rfl (Nat.le_of_ble_eq_true rfl) d_PatternBookModel_canonical_128 (fun H locs hP hD hS => ?_)
      have hP : va_P D classes [(sa, .inl (cS, 1024, .inl sp)), (mo, .inr (6, [.int u1.2, .int kd, .int u4.2.1, .int u4.2.2.1, .ref wa, .long hi, .long lo, .long u5.1, .long u5.2.1, .ref sa, .ref ma])), (wa, .inl (cW, 12, .inr (.inl u5.2.2))), (ma, .inl (cM, 1000, .inl md))] H := hP
      have hD : va_D A [(sa, .inl (cS, 1024, .inl sp)), (mo, .inr (6, [.int u1.2, .int kd, .int u4.2.1, .int u4.2.2.1, .ref wa, .long hi, .long lo, .long u5.1, .long u5.2.1, .ref sa, .ref ma])), (wa, .inl (cW, 12, .inr (.inl u5.2.2))), (ma, .inl (cM, 1000, .inl md))] := hD
      refine lv_aload_n hx hb d_PatternBookModel_canonical_131 rfl (lv_at hl 10 rfl) ?_
      refine lv_iload hx hb d_PatternBookModel_canonical_132 (lv_at hl 8 rfl) ?_
      refine va_put (D := D) (ci := 6) (v := .int sg) (ty := .int) (C := R_PatternBookModel) (T := F_PatternBookModel) (N := 11) hx hb hts i_PatternBookModel t_PatternBookModel t_PatternBookModel_ok n_PatternBookModel hown hK hP hD hS 1 rfl rfl 2 (by decide) (hts _ k_331) (fun _ h9 => h9) rfl (by decide +kernel) rfl rfl (Nat.le_of_ble_eq_true rfl) d_PatternBookModel_canonical_134 (fun H locs hP hD hS => ?_)
      have hP : va_P D classes [(sa, .inl (cS, 1024, .inl sp)), (mo, .inr (6, [.int u1.2, .int kd, .int sg, .int u4.2.2.1, .ref wa, .long hi, .long lo, .long u5.1, .long u5.2.1, .ref sa, .ref ma])), (wa, .inl (cW, 12, .inr (.inl u5.2.2))), (ma, .inl (cM, 1000, .inl md))] H := hP
      have hD : va_D A [(sa, .inl (cS, 1024, .inl sp)), (mo, .inr (6, [.int u1.2, .int kd, .int sg, .int u4.2.2.1, .ref wa, .long hi, .long lo, .long u5.1, .long u5.2.1, .ref sa, .ref ma])), (wa, .inl (cW, 12, .inr (.inl u5.2.2))), (ma, .inl (cM, 1000, .inl md))] := hD
      refine lv_aload_n hx hb d_PatternBookModel_canonical_137 rfl (lv_at hl 10 rfl) ?_
      refine lv_iload hx hb d_PatternBookModel_canonical_138 (lv_at hl 7 rfl) ?_
      refine va_put (D := D) (ci := 6) (v := .int ex) (ty := .int) (C := R_PatternBookModel) (T := F_PatternBookModel) (N := 11) hx hb hts i_PatternBookModel t_PatternBookModel t_PatternBookModel_ok n_PatternBookModel hown hK hP hD hS 1 rfl rfl 3 (by decide) (hts _ k_313) (fun _ h9 => h9) rfl (by decide +kernel) rfl rfl (Nat.le_of_ble_eq_true rfl) d_PatternBookModel_canonical_140 (fun H locs hP hD hS => ?_)
      have hP : va_P D classes [(sa, .inl (cS, 1024, .inl sp)), (mo, .inr (6, [.int u1.2, .int kd, .int sg, .int ex, .ref wa, .long hi, .long lo, .long u5.1, .long u5.2.1, .ref sa, .ref ma])), (wa, .inl (cW, 12, .inr (.inl u5.2.2))), (ma, .inl (cM, 1000, .inl md))] H := hP
      have hD : va_D A [(sa, .inl (cS, 1024, .inl sp)), (mo, .inr (6, [.int u1.2, .int kd, .int sg, .int ex, .ref wa, .long hi, .long lo, .long u5.1, .long u5.2.1, .ref sa, .ref ma])), (wa, .inl (cW, 12, .inr (.inl u5.2.2))), (ma, .inl (cM, 1000, .inl md))] := hD
      refine lv_aload_n hx hb d_PatternBookModel_canonical_143 rfl (lv_at hl 10 rfl) ?_
      refine va_get (D := D) (ci := 6) (v := .ref wa) (C := R_PatternBookModel) (T := F_PatternBookModel) (N := 11) hx hb hts i_PatternBookModel hown hK hP 1 rfl rfl 4 (by decide) (hts _ k_263) (fun _ h9 => h9) rfl d_PatternBookModel_canonical_144 ?_
      refine lv_iconst (v := 0) hx hb d_PatternBookModel_canonical_147 (by decide) ?_
      refine lv_lload hx hb d_PatternBookModel_canonical_148 (lv_at hl 6 rfl) ?_
      refine va_last hx hb hK hP hD hS 2 1 rfl rfl (idx_in rfl) d_PatternBookModel_canonical_150 (fun H locs hP hD hS => ?_)
      have hP : va_P D classes [(sa, .inl (cS, 1024, .inl sp)), (mo, .inr (6, [.int u1.2, .int kd, .int sg, .int ex, .ref wa, .long hi, .long lo, .long u5.1, .long u5.2.1, .ref sa, .ref ma])), (wa, .inl (cW, 12, .inr (.inl (vp_updL u5.2.2 0 (w 0))))), (ma, .inl (cM, 1000, .inl md))] H := hP
      have hD : va_D A [(sa, .inl (cS, 1024, .inl sp)), (mo, .inr (6, [.int u1.2, .int kd, .int sg, .int ex, .ref wa, .long hi, .long lo, .long u5.1, .long u5.2.1, .ref sa, .ref ma])), (wa, .inl (cW, 12, .inr (.inl (vp_updL u5.2.2 0 (w 0))))), (ma, .inl (cM, 1000, .inl md))] := hD
      refine lv_aload_n hx hb d_PatternBookModel_canonical_151 rfl (lv_at hl 10 rfl) ?_
      refine va_get (D := D) (ci := 6) (v := .ref wa) (C := R_PatternBookModel) (T := F_PatternBookModel) (N := 11) hx hb hts i_PatternBookModel hown hK hP 1 rfl rfl 4 (by decide) (hts _ k_263) (fun _ h9 => h9) rfl d_PatternBookModel_canonical_152 ?_
      refine lv_iconst (v := 1) hx hb d_PatternBookModel_canonical_155 (by decide) ?_
      refine lv_lload hx hb d_PatternBookModel_canonical_156 (lv_at hl 5 rfl) ?_
      refine va_last hx hb hK hP hD hS 2 1 rfl rfl (idx_in rfl) d_PatternBookModel_canonical_158 (fun H locs hP hD hS => ?_)
      have hP : va_P D classes [(sa, .inl (cS, 1024, .inl sp)), (mo, .inr (6, [.int u1.2, .int kd, .int sg, .int ex, .ref wa, .long hi, .long lo, .long u5.1, .long u5.2.1, .ref sa, .ref ma])), (wa, .inl (cW, 12, .inr (.inl (vp_updL (vp_updL u5.2.2 0 (w 0)) 1 (w 1))))), (ma, .inl (cM, 1000, .inl md))] H := hP
      have hD : va_D A [(sa, .inl (cS, 1024, .inl sp)), (mo, .inr (6, [.int u1.2, .int kd, .int sg, .int ex, .ref wa, .long hi, .long lo, .long u5.1, .long u5.2.1, .ref sa, .ref ma])), (wa, .inl (cW, 12, .inr (.inl (vp_updL (vp_updL u5.2.2 0 (w 0)) 1 (w 1))))), (ma, .inl (cM, 1000, .inl md))] := hD
      refine lv_aload_n hx hb d_PatternBookModel_canonical_159 rfl (lv_at hl 10 rfl) ?_
      refine va_get (D := D) (ci := 6) (v := .ref wa) (C := R_PatternBookModel) (T := F_PatternBookModel) (N := 11) hx hb hts i_PatternBookModel hown hK hP 1 rfl rfl 4 (by decide) (hts _ k_263) (fun _ h9 => h9) rfl d_PatternBookModel_canonical_160 ?_
      refine lv_iconst (v := 2) hx hb d_PatternBookModel_canonical_163 (by decide) ?_
      refine lv_lload hx hb d_PatternBookModel_canonical_164 (lv_at hl 4 rfl) ?_
      refine va_last hx hb hK hP hD hS 2 1 rfl rfl (idx_in rfl) d_PatternBookModel_canonical_166 (fun H locs hP hD hS => ?_)
      have hP : va_P D classes [(sa, .inl (cS, 1024, .inl sp)), (mo, .inr (6, [.int u1.2, .int kd, .int sg, .int ex, .ref wa, .long hi, .long lo, .long u5.1, .long u5.2.1, .ref sa, .ref ma])), (wa, .inl (cW, 12, .inr (.inl (vp_updL (vp_updL (vp_updL u5.2.2 0 (w 0)) 1 (w 1)) 2 (w 2))))), (ma, .inl (cM, 1000, .inl md))] H := hP
      have hD : va_D A [(sa, .inl (cS, 1024, .inl sp)), (mo, .inr (6, [.int u1.2, .int kd, .int sg, .int ex, .ref wa, .long hi, .long lo, .long u5.1, .long u5.2.1, .ref sa, .ref ma])), (wa, .inl (cW, 12, .inr (.inl (vp_updL (vp_updL (vp_updL u5.2.2 0 (w 0)) 1 (w 1)) 2 (w 2))))), (ma, .inl (cM, 1000, .inl md))] := hD
      refine lv_aload_n hx hb d_PatternBookModel_canonical_167 rfl (lv_at hl 10 rfl) ?_
      refine va_get (D := D) (ci := 6) (v := .ref wa) (C := R_PatternBookModel) (T := F_PatternBookModel) (N := 11) hx hb hts i_PatternBookModel hown hK hP 1 rfl rfl 4 (by decide) (hts _ k_263) (fun _ h9 => h9) rfl d_PatternBookModel_canonical_168 ?_
      refine lv_iconst (v := 3) hx hb d_PatternBookModel_canonical_171 (by decide) ?_
      refine lv_lload hx hb d_PatternBookModel_canonical_172 (lv_at hl 3 rfl) ?_
      refine va_last hx hb hK hP hD hS 2 1 rfl rfl (idx_in rfl) d_PatternBookModel_canonical_174 (fun H locs hP hD hS => ?_)
      have hP : va_P D classes [(sa, .inl (cS, 1024, .inl sp)), (mo, .inr (6, [.int u1.2, .int kd, .int sg, .int ex, .ref wa, .long hi, .long lo, .long u5.1, .long u5.2.1, .ref sa, .ref ma])), (wa, .inl (cW, 12, .inr (.inl (vp_updL (vp_updL (vp_updL (vp_updL u5.2.2 0 (w 0)) 1 (w 1)) 2 (w 2)) 3 (w 3))))), (ma, .inl (cM, 1000, .inl md))] H := hP
      have hD : va_D A [(sa, .inl (cS, 1024, .inl sp)), (mo, .inr (6, [.int u1.2, .int kd, .int sg, .int ex, .ref wa, .long hi, .long lo, .long u5.1, .long u5.2.1, .ref sa, .ref ma])), (wa, .inl (cW, 12, .inr (.inl (vp_updL (vp_updL (vp_updL (vp_updL u5.2.2 0 (w 0)) 1 (w 1)) 2 (w 2)) 3 (w 3))))), (ma, .inl (cM, 1000, .inl md))] := hD
      refine lv_iload hx hb d_PatternBookModel_canonical_175 (lv_at hl 0 rfl) ?_
      refine W.zret hx hb hr rfl ?_ hS.2.2 d_PatternBookModel_canonical_177
      exact uEnd (false, u1.2, u5.1, u5.2.1, (vp_updL (vp_updL (vp_updL (vp_updL u5.2.2 0 (w 0)) 1 (w 1)) 2 (w 2)) 3 (w 3))) (hP.sub [1, 2, 0, 3] rfl) (hK.sub [1, 0, 2] rfl) (hD.sub [1, 2, 0, 3] (by decide) rfl) hS (by have eu1 := hu1.symm; subst eu1; have eu3 := hu3.symm; subst eu3; have eu4 := hu4.symm; subst eu4; have eu5 := hu5.symm; subst eu5; exact ((if_neg c_2).trans ((if_neg c_6).trans (rfl))).symm) rfl
    · refine lv_aload_n hx hb d_PatternBookModel_canonical_108 rfl (lv_at hl 9 rfl) ?_
      refine va_get (D := D) (ci := 6) (v := .long u5.2.1) (C := R_PatternBookModel) (T := F_PatternBookModel) (N := 11) hx hb hts i_PatternBookModel hown hK hP 1 rfl rfl 8 (by decide) (hts _ k_274) (fun _ h9 => h9) rfl d_PatternBookModel_canonical_109 ?_
      refine lv_lload hx hb d_PatternBookModel_canonical_112 (lv_at hl 0 rfl) ?_
      refine W.lcmp hx hb d_PatternBookModel_canonical_114 ?_
      refine lv_if_ne (tgt := 122) hx hb d_PatternBookModel_canonical_115 (by decide) (fun c_7 => ?_) (fun c_7 => ?_)
      · refine lv_iconst (v := 0) hx hb d_PatternBookModel_canonical_122 (by decide) ?_
        refine lv_istore (lv' := [(21, .int (0:Int32)), (19, .long u3.2), (17, .long u3.1), (15, .long (w 3)), (13, .long (w 2)), (11, .long (w 1)), (9, .long (w 0)), (8, .int ex), (7, .int sg), (6, .int kd), (0, .ref mo), (1, .int x), (2, .long y), (4, .long z)]) hx hb d_PatternBookModel_canonical_123 hl (by decide) rfl (fun ls hl => ?_)
        refine lv_aload_n hx hb d_PatternBookModel_canonical_125 rfl (lv_at hl 10 rfl) ?_
        refine lv_iload hx hb d_PatternBookModel_canonical_126 (lv_at hl 9 rfl) ?_
        refine va_put (D := D) (ci := 6) (v := .int kd) (ty := .int) (C := R_PatternBookModel) (T := F_PatternBookModel) (N := 11) hx hb hts i_PatternBookModel t_PatternBookModel t_PatternBookModel_ok n_PatternBookModel hown hK hP hD hS 1 rfl rfl 1 (by decide) (hts _ k_318) (fun _ h9 => h9) rfl (by decide +kernel) rfl rfl (Nat.le_of_ble_eq_true rfl) d_PatternBookModel_canonical_128 (fun H locs hP hD hS => ?_)
        have hP : va_P D classes [(sa, .inl (cS, 1024, .inl sp)), (mo, .inr (6, [.int u1.2, .int kd, .int u4.2.1, .int u4.2.2.1, .ref wa, .long hi, .long lo, .long u5.1, .long u5.2.1, .ref sa, .ref ma])), (wa, .inl (cW, 12, .inr (.inl u5.2.2))), (ma, .inl (cM, 1000, .inl md))] H := hP
        have hD : va_D A [(sa, .inl (cS, 1024, .inl sp)), (mo, .inr (6, [.int u1.2, .int kd, .int u4.2.1, .int u4.2.2.1, .ref wa, .long hi, .long lo, .long u5.1, .long u5.2.1, .ref sa, .ref ma])), (wa, .inl (cW, 12, .inr (.inl u5.2.2))), (ma, .inl (cM, 1000, .inl md))] := hD
        refine lv_aload_n hx hb d_PatternBookModel_canonical_131 rfl (lv_at hl 10 rfl) ?_
        refine lv_iload hx hb d_PatternBookModel_canonical_132 (lv_at hl 8 rfl) ?_
        refine va_put (D := D) (ci := 6) (v := .int sg) (ty := .int) (C := R_PatternBookModel) (T := F_PatternBookModel) (N := 11) hx hb hts i_PatternBookModel t_PatternBookModel t_PatternBookModel_ok n_PatternBookModel hown hK hP hD hS 1 rfl rfl 2 (by decide) (hts _ k_331) (fun _ h9 => h9) rfl (by decide +kernel) rfl rfl (Nat.le_of_ble_eq_true rfl) d_PatternBookModel_canonical_134 (fun H locs hP hD hS => ?_)
        have hP : va_P D classes [(sa, .inl (cS, 1024, .inl sp)), (mo, .inr (6, [.int u1.2, .int kd, .int sg, .int u4.2.2.1, .ref wa, .long hi, .long lo, .long u5.1, .long u5.2.1, .ref sa, .ref ma])), (wa, .inl (cW, 12, .inr (.inl u5.2.2))), (ma, .inl (cM, 1000, .inl md))] H := hP
        have hD : va_D A [(sa, .inl (cS, 1024, .inl sp)), (mo, .inr (6, [.int u1.2, .int kd, .int sg, .int u4.2.2.1, .ref wa, .long hi, .long lo, .long u5.1, .long u5.2.1, .ref sa, .ref ma])), (wa, .inl (cW, 12, .inr (.inl u5.2.2))), (ma, .inl (cM, 1000, .inl md))] := hD
        refine lv_aload_n hx hb d_PatternBookModel_canonical_137 rfl (lv_at hl 10 rfl) ?_
        refine lv_iload hx hb d_PatternBookModel_canonical_138 (lv_at hl 7 rfl) ?_
        refine va_put (D := D) (ci := 6) (v := .int ex) (ty := .int) (C := R_PatternBookModel) (T := F_PatternBookModel) (N := 11) hx hb hts i_PatternBookModel t_PatternBookModel t_PatternBookModel_ok n_PatternBookModel hown hK hP hD hS 1 rfl rfl 3 (by decide) (hts _ k_313) (fun _ h9 => h9) rfl (by decide +kernel) rfl rfl (Nat.le_of_ble_eq_true rfl) d_PatternBookModel_canonical_140 (fun H locs hP hD hS => ?_)
        have hP : va_P D classes [(sa, .inl (cS, 1024, .inl sp)), (mo, .inr (6, [.int u1.2, .int kd, .int sg, .int ex, .ref wa, .long hi, .long lo, .long u5.1, .long u5.2.1, .ref sa, .ref ma])), (wa, .inl (cW, 12, .inr (.inl u5.2.2))), (ma, .inl (cM, 1000, .inl md))] H := hP
        have hD : va_D A [(sa, .inl (cS, 1024, .inl sp)), (mo, .inr (6, [.int u1.2, .int kd, .int sg, .int ex, .ref wa, .long hi, .long lo, .long u5.1, .long u5.2.1, .ref sa, .ref ma])), (wa, .inl (cW, 12, .inr (.inl u5.2.2))), (ma, .inl (cM, 1000, .inl md))] := hD
        refine lv_aload_n hx hb d_PatternBookModel_canonical_143 rfl (lv_at hl 10 rfl) ?_
        refine va_get (D := D) (ci := 6) (v := .ref wa) (C := R_PatternBookModel) (T := F_PatternBookModel) (N := 11) hx hb hts i_PatternBookModel hown hK hP 1 rfl rfl 4 (by decide) (hts _ k_263) (fun _ h9 => h9) rfl d_PatternBookModel_canonical_144 ?_
        refine lv_iconst (v := 0) hx hb d_PatternBookModel_canonical_147 (by decide) ?_
        refine lv_lload hx hb d_PatternBookModel_canonical_148 (lv_at hl 6 rfl) ?_
        refine va_last hx hb hK hP hD hS 2 1 rfl rfl (idx_in rfl) d_PatternBookModel_canonical_150 (fun H locs hP hD hS => ?_)
        have hP : va_P D classes [(sa, .inl (cS, 1024, .inl sp)), (mo, .inr (6, [.int u1.2, .int kd, .int sg, .int ex, .ref wa, .long hi, .long lo, .long u5.1, .long u5.2.1, .ref sa, .ref ma])), (wa, .inl (cW, 12, .inr (.inl (vp_updL u5.2.2 0 (w 0))))), (ma, .inl (cM, 1000, .inl md))] H := hP
        have hD : va_D A [(sa, .inl (cS, 1024, .inl sp)), (mo, .inr (6, [.int u1.2, .int kd, .int sg, .int ex, .ref wa, .long hi, .long lo, .long u5.1, .long u5.2.1, .ref sa, .ref ma])), (wa, .inl (cW, 12, .inr (.inl (vp_updL u5.2.2 0 (w 0))))), (ma, .inl (cM, 1000, .inl md))] := hD
        refine lv_aload_n hx hb d_PatternBookModel_canonical_151 rfl (lv_at hl 10 rfl) ?_
        refine va_get (D := D) (ci := 6) (v := .ref wa) (C := R_PatternBookModel) (T := F_PatternBookModel) (N := 11) hx hb hts i_PatternBookModel hown hK hP 1 rfl rfl 4 (by decide) (hts _ k_263) (fun _ h9 => h9) rfl d_PatternBookModel_canonical_152 ?_
        refine lv_iconst (v := 1) hx hb d_PatternBookModel_canonical_155 (by decide) ?_
        refine lv_lload hx hb d_PatternBookModel_canonical_156 (lv_at hl 5 rfl) ?_
        refine va_last hx hb hK hP hD hS 2 1 rfl rfl (idx_in rfl) d_PatternBookModel_canonical_158 (fun H locs hP hD hS => ?_)
        have hP : va_P D classes [(sa, .inl (cS, 1024, .inl sp)), (mo, .inr (6, [.int u1.2, .int kd, .int sg, .int ex, .ref wa, .long hi, .long lo, .long u5.1, .long u5.2.1, .ref sa, .ref ma])), (wa, .inl (cW, 12, .inr (.inl (vp_updL (vp_updL u5.2.2 0 (w 0)) 1 (w 1))))), (ma, .inl (cM, 1000, .inl md))] H := hP
        have hD : va_D A [(sa, .inl (cS, 1024, .inl sp)), (mo, .inr (6, [.int u1.2, .int kd, .int sg, .int ex, .ref wa, .long hi, .long lo, .long u5.1, .long u5.2.1, .ref sa, .ref ma])), (wa, .inl (cW, 12, .inr (.inl (vp_updL (vp_updL u5.2.2 0 (w 0)) 1 (w 1))))), (ma, .inl (cM, 1000, .inl md))] := hD
        refine lv_aload_n hx hb d_PatternBookModel_canonical_159 rfl (lv_at hl 10 rfl) ?_
        refine va_get (D := D) (ci := 6) (v := .ref wa) (C := R_PatternBookModel) (T := F_PatternBookModel) (N := 11) hx hb hts i_PatternBookModel hown hK hP 1 rfl rfl 4 (by decide) (hts _ k_263) (fun _ h9 => h9) rfl d_PatternBookModel_canonical_160 ?_
        refine lv_iconst (v := 2) hx hb d_PatternBookModel_canonical_163 (by decide) ?_
        refine lv_lload hx hb d_PatternBookModel_canonical_164 (lv_at hl 4 rfl) ?_
        refine va_last hx hb hK hP hD hS 2 1 rfl rfl (idx_in rfl) d_PatternBookModel_canonical_166 (fun H locs hP hD hS => ?_)
        have hP : va_P D classes [(sa, .inl (cS, 1024, .inl sp)), (mo, .inr (6, [.int u1.2, .int kd, .int sg, .int ex, .ref wa, .long hi, .long lo, .long u5.1, .long u5.2.1, .ref sa, .ref ma])), (wa, .inl (cW, 12, .inr (.inl (vp_updL (vp_updL (vp_updL u5.2.2 0 (w 0)) 1 (w 1)) 2 (w 2))))), (ma, .inl (cM, 1000, .inl md))] H := hP
        have hD : va_D A [(sa, .inl (cS, 1024, .inl sp)), (mo, .inr (6, [.int u1.2, .int kd, .int sg, .int ex, .ref wa, .long hi, .long lo, .long u5.1, .long u5.2.1, .ref sa, .ref ma])), (wa, .inl (cW, 12, .inr (.inl (vp_updL (vp_updL (vp_updL u5.2.2 0 (w 0)) 1 (w 1)) 2 (w 2))))), (ma, .inl (cM, 1000, .inl md))] := hD
        refine lv_aload_n hx hb d_PatternBookModel_canonical_167 rfl (lv_at hl 10 rfl) ?_
        refine va_get (D := D) (ci := 6) (v := .ref wa) (C := R_PatternBookModel) (T := F_PatternBookModel) (N := 11) hx hb hts i_PatternBookModel hown hK hP 1 rfl rfl 4 (by decide) (hts _ k_263) (fun _ h9 => h9) rfl d_PatternBookModel_canonical_168 ?_
        refine lv_iconst (v := 3) hx hb d_PatternBookModel_canonical_171 (by decide) ?_
        refine lv_lload hx hb d_PatternBookModel_canonical_172 (lv_at hl 3 rfl) ?_
        refine va_last hx hb hK hP hD hS 2 1 rfl rfl (idx_in rfl) d_PatternBookModel_canonical_174 (fun H locs hP hD hS => ?_)
        have hP : va_P D classes [(sa, .inl (cS, 1024, .inl sp)), (mo, .inr (6, [.int u1.2, .int kd, .int sg, .int ex, .ref wa, .long hi, .long lo, .long u5.1, .long u5.2.1, .ref sa, .ref ma])), (wa, .inl (cW, 12, .inr (.inl (vp_updL (vp_updL (vp_updL (vp_updL u5.2.2 0 (w 0)) 1 (w 1)) 2 (w 2)) 3 (w 3))))), (ma, .inl (cM, 1000, .inl md))] H := hP
        have hD : va_D A [(sa, .inl (cS, 1024, .inl sp)), (mo, .inr (6, [.int u1.2, .int kd, .int sg, .int ex, .ref wa, .long hi, .long lo, .long u5.1, .long u5.2.1, .ref sa, .ref ma])), (wa, .inl (cW, 12, .inr (.inl (vp_updL (vp_updL (vp_updL (vp_updL u5.2.2 0 (w 0)) 1 (w 1)) 2 (w 2)) 3 (w 3))))), (ma, .inl (cM, 1000, .inl md))] := hD
        refine lv_iload hx hb d_PatternBookModel_canonical_175 (lv_at hl 0 rfl) ?_
        refine W.zret hx hb hr rfl ?_ hS.2.2 d_PatternBookModel_canonical_177
        exact uEnd (false, u1.2, u5.1, u5.2.1, (vp_updL (vp_updL (vp_updL (vp_updL u5.2.2 0 (w 0)) 1 (w 1)) 2 (w 2)) 3 (w 3))) (hP.sub [1, 2, 0, 3] rfl) (hK.sub [1, 0, 2] rfl) (hD.sub [1, 2, 0, 3] (by decide) rfl) hS (by have eu1 := hu1.symm; subst eu1; have eu3 := hu3.symm; subst eu3; have eu4 := hu4.symm; subst eu4; have eu5 := hu5.symm; subst eu5; exact ((if_neg c_2).trans ((if_pos c_6).trans ((if_neg c_7).trans (rfl)))).symm) rfl
      · refine lv_iconst (v := 1) hx hb d_PatternBookModel_canonical_118 (by decide) ?_
        refine lv_goto (tgt := 123) hx hb d_PatternBookModel_canonical_119 (by decide) ?_
        refine lv_istore (lv' := [(21, .int (1:Int32)), (19, .long u3.2), (17, .long u3.1), (15, .long (w 3)), (13, .long (w 2)), (11, .long (w 1)), (9, .long (w 0)), (8, .int ex), (7, .int sg), (6, .int kd), (0, .ref mo), (1, .int x), (2, .long y), (4, .long z)]) hx hb d_PatternBookModel_canonical_123 hl (by decide) rfl (fun ls hl => ?_)
        refine lv_aload_n hx hb d_PatternBookModel_canonical_125 rfl (lv_at hl 10 rfl) ?_
        refine lv_iload hx hb d_PatternBookModel_canonical_126 (lv_at hl 9 rfl) ?_
        refine va_put (D := D) (ci := 6) (v := .int kd) (ty := .int) (C := R_PatternBookModel) (T := F_PatternBookModel) (N := 11) hx hb hts i_PatternBookModel t_PatternBookModel t_PatternBookModel_ok n_PatternBookModel hown hK hP hD hS 1 rfl rfl 1 (by decide) (hts _ k_318) (fun _ h9 => h9) rfl (by decide +kernel) rfl rfl (Nat.le_of_ble_eq_true rfl) d_PatternBookModel_canonical_128 (fun H locs hP hD hS => ?_)
        have hP : va_P D classes [(sa, .inl (cS, 1024, .inl sp)), (mo, .inr (6, [.int u1.2, .int kd, .int u4.2.1, .int u4.2.2.1, .ref wa, .long hi, .long lo, .long u5.1, .long u5.2.1, .ref sa, .ref ma])), (wa, .inl (cW, 12, .inr (.inl u5.2.2))), (ma, .inl (cM, 1000, .inl md))] H := hP
        have hD : va_D A [(sa, .inl (cS, 1024, .inl sp)), (mo, .inr (6, [.int u1.2, .int kd, .int u4.2.1, .int u4.2.2.1, .ref wa, .long hi, .long lo, .long u5.1, .long u5.2.1, .ref sa, .ref ma])), (wa, .inl (cW, 12, .inr (.inl u5.2.2))), (ma, .inl (cM, 1000, .inl md))] := hD
        refine lv_aload_n hx hb d_PatternBookModel_canonical_131 rfl (lv_at hl 10 rfl) ?_
        refine lv_iload hx hb d_PatternBookModel_canonical_132 (lv_at hl 8 rfl) ?_
        refine va_put (D := D) (ci := 6) (v := .int sg) (ty := .int) (C := R_PatternBookModel) (T := F_PatternBookModel) (N := 11) hx hb hts i_PatternBookModel t_PatternBookModel t_PatternBookModel_ok n_PatternBookModel hown hK hP hD hS 1 rfl rfl 2 (by decide) (hts _ k_331) (fun _ h9 => h9) rfl (by decide +kernel) rfl rfl (Nat.le_of_ble_eq_true rfl) d_PatternBookModel_canonical_134 (fun H locs hP hD hS => ?_)
        have hP : va_P D classes [(sa, .inl (cS, 1024, .inl sp)), (mo, .inr (6, [.int u1.2, .int kd, .int sg, .int u4.2.2.1, .ref wa, .long hi, .long lo, .long u5.1, .long u5.2.1, .ref sa, .ref ma])), (wa, .inl (cW, 12, .inr (.inl u5.2.2))), (ma, .inl (cM, 1000, .inl md))] H := hP
        have hD : va_D A [(sa, .inl (cS, 1024, .inl sp)), (mo, .inr (6, [.int u1.2, .int kd, .int sg, .int u4.2.2.1, .ref wa, .long hi, .long lo, .long u5.1, .long u5.2.1, .ref sa, .ref ma])), (wa, .inl (cW, 12, .inr (.inl u5.2.2))), (ma, .inl (cM, 1000, .inl md))] := hD
        refine lv_aload_n hx hb d_PatternBookModel_canonical_137 rfl (lv_at hl 10 rfl) ?_
        refine lv_iload hx hb d_PatternBookModel_canonical_138 (lv_at hl 7 rfl) ?_
        refine va_put (D := D) (ci := 6) (v := .int ex) (ty := .int) (C := R_PatternBookModel) (T := F_PatternBookModel) (N := 11) hx hb hts i_PatternBookModel t_PatternBookModel t_PatternBookModel_ok n_PatternBookModel hown hK hP hD hS 1 rfl rfl 3 (by decide) (hts _ k_313) (fun _ h9 => h9) rfl (by decide +kernel) rfl rfl (Nat.le_of_ble_eq_true rfl) d_PatternBookModel_canonical_140 (fun H locs hP hD hS => ?_)
        have hP : va_P D classes [(sa, .inl (cS, 1024, .inl sp)), (mo, .inr (6, [.int u1.2, .int kd, .int sg, .int ex, .ref wa, .long hi, .long lo, .long u5.1, .long u5.2.1, .ref sa, .ref ma])), (wa, .inl (cW, 12, .inr (.inl u5.2.2))), (ma, .inl (cM, 1000, .inl md))] H := hP
        have hD : va_D A [(sa, .inl (cS, 1024, .inl sp)), (mo, .inr (6, [.int u1.2, .int kd, .int sg, .int ex, .ref wa, .long hi, .long lo, .long u5.1, .long u5.2.1, .ref sa, .ref ma])), (wa, .inl (cW, 12, .inr (.inl u5.2.2))), (ma, .inl (cM, 1000, .inl md))] := hD
        refine lv_aload_n hx hb d_PatternBookModel_canonical_143 rfl (lv_at hl 10 rfl) ?_
        refine va_get (D := D) (ci := 6) (v := .ref wa) (C := R_PatternBookModel) (T := F_PatternBookModel) (N := 11) hx hb hts i_PatternBookModel hown hK hP 1 rfl rfl 4 (by decide) (hts _ k_263) (fun _ h9 => h9) rfl d_PatternBookModel_canonical_144 ?_
        refine lv_iconst (v := 0) hx hb d_PatternBookModel_canonical_147 (by decide) ?_
        refine lv_lload hx hb d_PatternBookModel_canonical_148 (lv_at hl 6 rfl) ?_
        refine va_last hx hb hK hP hD hS 2 1 rfl rfl (idx_in rfl) d_PatternBookModel_canonical_150 (fun H locs hP hD hS => ?_)
        have hP : va_P D classes [(sa, .inl (cS, 1024, .inl sp)), (mo, .inr (6, [.int u1.2, .int kd, .int sg, .int ex, .ref wa, .long hi, .long lo, .long u5.1, .long u5.2.1, .ref sa, .ref ma])), (wa, .inl (cW, 12, .inr (.inl (vp_updL u5.2.2 0 (w 0))))), (ma, .inl (cM, 1000, .inl md))] H := hP
        have hD : va_D A [(sa, .inl (cS, 1024, .inl sp)), (mo, .inr (6, [.int u1.2, .int kd, .int sg, .int ex, .ref wa, .long hi, .long lo, .long u5.1, .long u5.2.1, .ref sa, .ref ma])), (wa, .inl (cW, 12, .inr (.inl (vp_updL u5.2.2 0 (w 0))))), (ma, .inl (cM, 1000, .inl md))] := hD
        refine lv_aload_n hx hb d_PatternBookModel_canonical_151 rfl (lv_at hl 10 rfl) ?_
        refine va_get (D := D) (ci := 6) (v := .ref wa) (C := R_PatternBookModel) (T := F_PatternBookModel) (N := 11) hx hb hts i_PatternBookModel hown hK hP 1 rfl rfl 4 (by decide) (hts _ k_263) (fun _ h9 => h9) rfl d_PatternBookModel_canonical_152 ?_
        refine lv_iconst (v := 1) hx hb d_PatternBookModel_canonical_155 (by decide) ?_
        refine lv_lload hx hb d_PatternBookModel_canonical_156 (lv_at hl 5 rfl) ?_
        refine va_last hx hb hK hP hD hS 2 1 rfl rfl (idx_in rfl) d_PatternBookModel_canonical_158 (fun H locs hP hD hS => ?_)
        have hP : va_P D classes [(sa, .inl (cS, 1024, .inl sp)), (mo, .inr (6, [.int u1.2, .int kd, .int sg, .int ex, .ref wa, .long hi, .long lo, .long u5.1, .long u5.2.1, .ref sa, .ref ma])), (wa, .inl (cW, 12, .inr (.inl (vp_updL (vp_updL u5.2.2 0 (w 0)) 1 (w 1))))), (ma, .inl (cM, 1000, .inl md))] H := hP
        have hD : va_D A [(sa, .inl (cS, 1024, .inl sp)), (mo, .inr (6, [.int u1.2, .int kd, .int sg, .int ex, .ref wa, .long hi, .long lo, .long u5.1, .long u5.2.1, .ref sa, .ref ma])), (wa, .inl (cW, 12, .inr (.inl (vp_updL (vp_updL u5.2.2 0 (w 0)) 1 (w 1))))), (ma, .inl (cM, 1000, .inl md))] := hD
        refine lv_aload_n hx hb d_PatternBookModel_canonical_159 rfl (lv_at hl 10 rfl) ?_
        refine va_get (D := D) (ci := 6) (v := .ref wa) (C := R_PatternBookModel) (T := F_PatternBookModel) (N := 11) hx hb hts i_PatternBookModel hown hK hP 1 rfl rfl 4 (by decide) (hts _ k_263) (fun _ h9 => h9) rfl d_PatternBookModel_canonical_160 ?_
        refine lv_iconst (v := 2) hx hb d_PatternBookModel_canonical_163 (by decide) ?_
        refine lv_lload hx hb d_PatternBookModel_canonical_164 (lv_at hl 4 rfl) ?_
        refine va_last hx hb hK hP hD hS 2 1 rfl rfl (idx_in rfl) d_PatternBookModel_canonical_166 (fun H locs hP hD hS => ?_)
        have hP : va_P D classes [(sa, .inl (cS, 1024, .inl sp)), (mo, .inr (6, [.int u1.2, .int kd, .int sg, .int ex, .ref wa, .long hi, .long lo, .long u5.1, .long u5.2.1, .ref sa, .ref ma])), (wa, .inl (cW, 12, .inr (.inl (vp_updL (vp_updL (vp_updL u5.2.2 0 (w 0)) 1 (w 1)) 2 (w 2))))), (ma, .inl (cM, 1000, .inl md))] H := hP
        have hD : va_D A [(sa, .inl (cS, 1024, .inl sp)), (mo, .inr (6, [.int u1.2, .int kd, .int sg, .int ex, .ref wa, .long hi, .long lo, .long u5.1, .long u5.2.1, .ref sa, .ref ma])), (wa, .inl (cW, 12, .inr (.inl (vp_updL (vp_updL (vp_updL u5.2.2 0 (w 0)) 1 (w 1)) 2 (w 2))))), (ma, .inl (cM, 1000, .inl md))] := hD
        refine lv_aload_n hx hb d_PatternBookModel_canonical_167 rfl (lv_at hl 10 rfl) ?_
        refine va_get (D := D) (ci := 6) (v := .ref wa) (C := R_PatternBookModel) (T := F_PatternBookModel) (N := 11) hx hb hts i_PatternBookModel hown hK hP 1 rfl rfl 4 (by decide) (hts _ k_263) (fun _ h9 => h9) rfl d_PatternBookModel_canonical_168 ?_
        refine lv_iconst (v := 3) hx hb d_PatternBookModel_canonical_171 (by decide) ?_
        refine lv_lload hx hb d_PatternBookModel_canonical_172 (lv_at hl 3 rfl) ?_
        refine va_last hx hb hK hP hD hS 2 1 rfl rfl (idx_in rfl) d_PatternBookModel_canonical_174 (fun H locs hP hD hS => ?_)
        have hP : va_P D classes [(sa, .inl (cS, 1024, .inl sp)), (mo, .inr (6, [.int u1.2, .int kd, .int sg, .int ex, .ref wa, .long hi, .long lo, .long u5.1, .long u5.2.1, .ref sa, .ref ma])), (wa, .inl (cW, 12, .inr (.inl (vp_updL (vp_updL (vp_updL (vp_updL u5.2.2 0 (w 0)) 1 (w 1)) 2 (w 2)) 3 (w 3))))), (ma, .inl (cM, 1000, .inl md))] H := hP
        have hD : va_D A [(sa, .inl (cS, 1024, .inl sp)), (mo, .inr (6, [.int u1.2, .int kd, .int sg, .int ex, .ref wa, .long hi, .long lo, .long u5.1, .long u5.2.1, .ref sa, .ref ma])), (wa, .inl (cW, 12, .inr (.inl (vp_updL (vp_updL (vp_updL (vp_updL u5.2.2 0 (w 0)) 1 (w 1)) 2 (w 2)) 3 (w 3))))), (ma, .inl (cM, 1000, .inl md))] := hD
        refine lv_iload hx hb d_PatternBookModel_canonical_175 (lv_at hl 0 rfl) ?_
        refine W.zret hx hb hr rfl ?_ hS.2.2 d_PatternBookModel_canonical_177
        exact uEnd (true, u1.2, u5.1, u5.2.1, (vp_updL (vp_updL (vp_updL (vp_updL u5.2.2 0 (w 0)) 1 (w 1)) 2 (w 2)) 3 (w 3))) (hP.sub [1, 2, 0, 3] rfl) (hK.sub [1, 0, 2] rfl) (hD.sub [1, 2, 0, 3] (by decide) rfl) hS (by have eu1 := hu1.symm; subst eu1; have eu3 := hu3.symm; subst eu3; have eu4 := hu4.symm; subst eu4; have eu5 := hu5.symm; subst eu5; exact ((if_neg c_2).trans ((if_pos c_6).trans ((if_pos c_7).trans (rfl)))).symm) rfl
  · refine lv_iconst (v := 0) hx hb d_PatternBookModel_canonical_8 (by decide) ?_
    refine W.zret hx hb hr rfl ?_ hS.2.2 d_PatternBookModel_canonical_9
    exact uEnd (false, u1.2, lh, ll, w) (hP.sub [3, 0, 1, 2] rfl) (hK.sub [0, 1, 2] rfl) (hD.sub [3, 0, 1, 2] (by decide) rfl) hS (by have eu1 := hu1.symm; subst eu1; exact ((if_pos c_2).trans (rfl)).symm) rfl
set_option maxHeartbeats 4000000 in
set_option maxRecDepth 100000 in
/-- PatternBookModel.put(IZIJJ)Z -/
theorem c_M_put (l : Launch) (D : va_G) (mo : Nat) (wa : Nat) (sa : Nat) (ma : Nat) (cW : ClassId) (sz : Nat) (x : Int32) (y : Bool) (z : Int32) (v : Int64) (t : Int64) (co : Int32) (kd : Int32) (sg : Int32) (ex : Int32) (hi : Int64) (lo : Int64) (lh : Int64) (ll : Int64) (w : Nat → Int64) : Met l y_PatternBookModel_put (wsOf y_PatternBookModel_put b_PatternBookModel_put 8 (some .boolean)) ({ frames := 1, cells := 0, slots := 0, locals := 23 }) (uP D classes [(mo, .inr (6, [.int co, .int kd, .int sg, .int ex, .ref wa, .long hi, .long lo, .long lh, .long ll, .ref sa, .ref ma])), (wa, .inl (cW, 12, .inr (.inl w)))] [(cW, .long)] sz [.ref mo, .int x, .int (bI y), .int z, .long v, .long t]) (uQ D classes (fun u : Bool × Int32 × Int32 × Int32 × Int32 × (Nat → Int64) => some (.int (bI u.1))) (fun u => u = (sl m_M_put) x y z v t kd sg ex w) (va_A [(mo, .inr (6, [.int co, .int kd, .int sg, .int ex, .ref wa, .long hi, .long lo, .long lh, .long ll, .ref sa, .ref ma])), (wa, .inl (cW, 12, .inr (.inl w)))] sz) (fun _ => [(cW, .long)]) (fun u => [(mo, .inr (6, [.int u.2.1, .int u.2.2.1, .int u.2.2.2.1, .int u.2.2.2.2.1, .ref wa, .long hi, .long lo, .long lh, .long ll, .ref sa, .ref ma])), (wa, .inl (cW, 12, .inr (.inl u.2.2.2.2.2)))])) 0 0 (va_A [(mo, .inr (6, [.int co, .int kd, .int sg, .int ex, .ref wa, .long hi, .long lo, .long lh, .long ll, .ref sa, .ref ma])), (wa, .inl (cW, 12, .inr (.inl w)))] sz) := by
  rw [sl_eq m_M_put]
  refine uBegin (by decide +kernel) (Nat.le_of_ble_eq_true rfl) ?_
  intro p e s m below meth c A ls H locs hx hb hr hts hown hlocks hml hin hA hP hK hD hN hS hl
  have hl : lv_has ls 8 [(0, .ref mo), (1, .int x), (2, .int (bI y)), (3, .int z), (4, .long v), (6, .long t)] := hl
  refine lv_aload_n hx hb d_PatternBookModel_put_0 rfl (lv_at hl 0 rfl) ?_
  refine lv_iconst (v := 0) hx hb d_PatternBookModel_put_1 (by decide) ?_
  refine va_put (D := D) (ci := 6) (v := .int (0:Int32)) (ty := .int) (C := R_PatternBookModel) (T := F_PatternBookModel) (N := 11) hx hb hts i_PatternBookModel t_PatternBookModel t_PatternBookModel_ok n_PatternBookModel hown hK hP hD hS 0 rfl rfl 0 (by decide) (hts _ k_255) (fun _ h9 => h9) rfl (by decide +kernel) rfl rfl (Nat.le_of_ble_eq_true rfl) d_PatternBookModel_put_2 (fun H locs hP hD hS => ?_)
  have hP : va_P D classes [(mo, .inr (6, [.int (0:Int32), .int kd, .int sg, .int ex, .ref wa, .long hi, .long lo, .long lh, .long ll, .ref sa, .ref ma])), (wa, .inl (cW, 12, .inr (.inl w)))] H := hP
  have hD : va_D A [(mo, .inr (6, [.int (0:Int32), .int kd, .int sg, .int ex, .ref wa, .long hi, .long lo, .long lh, .long ll, .ref sa, .ref ma])), (wa, .inl (cW, 12, .inr (.inl w)))] := hD
  refine lv_iload_n hx hb d_PatternBookModel_put_5 rfl (lv_at hl 1 rfl) ?_
  refine lv_if_lt (tgt := 14) hx hb d_PatternBookModel_put_6 (by decide) (fun c_1 => ?_) (fun c_1 => ?_)
  · refine lv_iconst (v := 0) hx hb d_PatternBookModel_put_14 (by decide) ?_
    refine W.zret hx hb hr rfl ?_ hS.2.2 d_PatternBookModel_put_15
    exact uEnd (false, (0:Int32), kd, sg, ex, w) (hP.sub [0, 1] rfl) (hK.sub [0] rfl) (hD.sub [0, 1] (by decide) rfl) hS (by  exact ((if_pos c_1).trans (rfl)).symm) rfl
  · refine lv_iload_n hx hb d_PatternBookModel_put_9 rfl (lv_at hl 1 rfl) ?_
    refine lv_iconst (v := 3) hx hb d_PatternBookModel_put_10 (by decide) ?_
    refine lv_icmp_le (tgt := 16) hx hb d_PatternBookModel_put_11 (by decide) (fun c_2 => ?_) (fun c_2 => ?_)
    · refine lv_aload_n hx hb d_PatternBookModel_put_16 rfl (lv_at hl 0 rfl) ?_
      refine lv_iload_n hx hb d_PatternBookModel_put_17 rfl (lv_at hl 1 rfl) ?_
      refine va_put (D := D) (ci := 6) (v := .int x) (ty := .int) (C := R_PatternBookModel) (T := F_PatternBookModel) (N := 11) hx hb hts i_PatternBookModel t_PatternBookModel t_PatternBookModel_ok n_PatternBookModel hown hK hP hD hS 0 rfl rfl 1 (by decide) (hts _ k_318) (fun _ h9 => h9) rfl (by decide +kernel) rfl rfl (Nat.le_of_ble_eq_true rfl) d_PatternBookModel_put_18 (fun H locs hP hD hS => ?_)
      have hP : va_P D classes [(mo, .inr (6, [.int (0:Int32), .int x, .int sg, .int ex, .ref wa, .long hi, .long lo, .long lh, .long ll, .ref sa, .ref ma])), (wa, .inl (cW, 12, .inr (.inl w)))] H := hP
      have hD : va_D A [(mo, .inr (6, [.int (0:Int32), .int x, .int sg, .int ex, .ref wa, .long hi, .long lo, .long lh, .long ll, .ref sa, .ref ma])), (wa, .inl (cW, 12, .inr (.inl w)))] := hD
      refine lv_aload_n hx hb d_PatternBookModel_put_21 rfl (lv_at hl 0 rfl) ?_
      refine lv_iload_n hx hb d_PatternBookModel_put_22 rfl (lv_at hl 2 rfl) ?_
      refine lv_if_eq (tgt := 30) hx hb d_PatternBookModel_put_23 (by decide) (fun c_3 => ?_) (fun c_3 => ?_)
      · refine lv_iconst (v := 0) hx hb d_PatternBookModel_put_30 (by decide) ?_
        refine va_put (D := D) (ci := 6) (v := .int (0:Int32)) (ty := .int) (C := R_PatternBookModel) (T := F_PatternBookModel) (N := 11) hx hb hts i_PatternBookModel t_PatternBookModel t_PatternBookModel_ok n_PatternBookModel hown hK hP hD hS 0 rfl rfl 2 (by decide) (hts _ k_331) (fun _ h9 => h9) rfl (by decide +kernel) rfl rfl (Nat.le_of_ble_eq_true rfl) d_PatternBookModel_put_31 (fun H locs hP hD hS => ?_)
        have hP : va_P D classes [(mo, .inr (6, [.int (0:Int32), .int x, .int (0:Int32), .int ex, .ref wa, .long hi, .long lo, .long lh, .long ll, .ref sa, .ref ma])), (wa, .inl (cW, 12, .inr (.inl w)))] H := hP
        have hD : va_D A [(mo, .inr (6, [.int (0:Int32), .int x, .int (0:Int32), .int ex, .ref wa, .long hi, .long lo, .long lh, .long ll, .ref sa, .ref ma])), (wa, .inl (cW, 12, .inr (.inl w)))] := hD
        refine lv_aload_n hx hb d_PatternBookModel_put_34 rfl (lv_at hl 0 rfl) ?_
        refine lv_iload_n hx hb d_PatternBookModel_put_35 rfl (lv_at hl 1 rfl) ?_
        refine lv_if_ne (tgt := 43) hx hb d_PatternBookModel_put_36 (by decide) (fun c_4 => ?_) (fun c_4 => ?_)
        · refine lv_iconst (v := 0) hx hb d_PatternBookModel_put_43 (by decide) ?_
          refine va_put (D := D) (ci := 6) (v := .int (0:Int32)) (ty := .int) (C := R_PatternBookModel) (T := F_PatternBookModel) (N := 11) hx hb hts i_PatternBookModel t_PatternBookModel t_PatternBookModel_ok n_PatternBookModel hown hK hP hD hS 0 rfl rfl 3 (by decide) (hts _ k_313) (fun _ h9 => h9) rfl (by decide +kernel) rfl rfl (Nat.le_of_ble_eq_true rfl) d_PatternBookModel_put_44 (fun H locs hP hD hS => ?_)
          have hP : va_P D classes [(mo, .inr (6, [.int (0:Int32), .int x, .int (0:Int32), .int (0:Int32), .ref wa, .long hi, .long lo, .long lh, .long ll, .ref sa, .ref ma])), (wa, .inl (cW, 12, .inr (.inl w)))] H := hP
          have hD : va_D A [(mo, .inr (6, [.int (0:Int32), .int x, .int (0:Int32), .int (0:Int32), .ref wa, .long hi, .long lo, .long lh, .long ll, .ref sa, .ref ma])), (wa, .inl (cW, 12, .inr (.inl w)))] := hD
          refine lv_aload_n hx hb d_PatternBookModel_put_47 rfl (lv_at hl 0 rfl) ?_
          refine lv_iconst (v := 0) hx hb d_PatternBookModel_put_48 (by decide) ?_
          refine lv_iload_n hx hb d_PatternBookModel_put_49 rfl (lv_at hl 1 rfl) ?_
          refine lv_iconst (v := 1) hx hb d_PatternBookModel_put_50 (by decide) ?_
          refine lv_icmp_ne (tgt := 58) hx hb d_PatternBookModel_put_51 (by decide) (fun c_5 => ?_) (fun c_5 => ?_)
          · refine lv_lload hx hb d_PatternBookModel_put_58 (lv_at hl 5 rfl) ?_
            refine uCall (WR := []) (RT := []) (va_runV (As := [.int (0:Int32), .long t]) (rest := []) ⟨hx, hb, hml, hown, hts⟩ (c_M_be0 l D mo wa sa ma cW H.size t (0:Int32) x (0:Int32) (0:Int32) hi lo lh ll w) ⟨uCB 2 hts k_265 k_257 k_266 (by decide +kernel) rfl rfl ⟨Nat.le_of_ble_eq_true rfl, Nat.le_of_ble_eq_true rfl⟩, hts _ k_267, hts _ k_268⟩ (uPreV (ci := 6) (q0 := 0) hK hP hD hN [0, 1] rfl (by decide) [0] rfl rfl rfl) rfl rfl hl.1 rfl (lv_room (Nat.le_of_ble_eq_true rfl)) d_PatternBookModel_put_60 ⟨(Nat.le_of_ble_eq_true rfl), (Nat.le_of_ble_eq_true rfl)⟩) hK hP hD hS hA [0, 1] [] rfl rfl (by decide) (by decide) [] rfl (fun u6 H locs hu6 hP hD hK hS => ?_)
            have hP : va_P D classes [(mo, .inr (6, [.int (0:Int32), .int x, .int (0:Int32), .int (0:Int32), .ref wa, .long hi, .long lo, .long lh, .long ll, .ref sa, .ref ma])), (wa, .inl (cW, 12, .inr (.inl u6)))] H := hP
            have hD : va_D A [(mo, .inr (6, [.int (0:Int32), .int x, .int (0:Int32), .int (0:Int32), .ref wa, .long hi, .long lo, .long lh, .long ll, .ref sa, .ref ma])), (wa, .inl (cW, 12, .inr (.inl u6)))] := hD
            have hK : va_K D classes [(cW, .long)] s := hK
            refine W.eq (g2 := F0 m 63 ls []) rfl ?_
            refine lv_aload_n hx hb d_PatternBookModel_put_63 rfl (lv_at hl 0 rfl) ?_
            refine va_get (D := D) (ci := 6) (v := .ref wa) (C := R_PatternBookModel) (T := F_PatternBookModel) (N := 11) hx hb hts i_PatternBookModel hown hK hP 0 rfl rfl 4 (by decide) (hts _ k_263) (fun _ h9 => h9) rfl d_PatternBookModel_put_64 ?_
            refine lv_iconst (v := 2) hx hb d_PatternBookModel_put_67 (by decide) ?_
            refine lv_iload_n hx hb d_PatternBookModel_put_68 rfl (lv_at hl 1 rfl) ?_
            refine lv_iconst (v := 1) hx hb d_PatternBookModel_put_69 (by decide) ?_
            refine lv_icmp_ne (tgt := 77) hx hb d_PatternBookModel_put_70 (by decide) (fun c_7 => ?_) (fun c_7 => ?_)
            · refine lv_lload hx hb d_PatternBookModel_put_77 (lv_at hl 4 rfl) ?_
              refine lv_ldc2 (v := 4294967295) hx hb hown (hts _ k_264) d_PatternBookModel_put_79 ?_
              refine lv_land hx hb d_PatternBookModel_put_82 ?_
              refine va_last hx hb hK hP hD hS 1 0 rfl rfl (idx_in rfl) d_PatternBookModel_put_83 (fun H locs hP hD hS => ?_)
              have hP : va_P D classes [(mo, .inr (6, [.int (0:Int32), .int x, .int (0:Int32), .int (0:Int32), .ref wa, .long hi, .long lo, .long lh, .long ll, .ref sa, .ref ma])), (wa, .inl (cW, 12, .inr (.inl (vp_updL u6 2 (v &&& (4294967295:Int64))))))] H := hP
              have hD : va_D A [(mo, .inr (6, [.int (0:Int32), .int x, .int (0:Int32), .int (0:Int32), .ref wa, .long hi, .long lo, .long lh, .long ll, .ref sa, .ref ma])), (wa, .inl (cW, 12, .inr (.inl (vp_updL u6 2 (v &&& (4294967295:Int64))))))] := hD
              refine lv_aload_n hx hb d_PatternBookModel_put_84 rfl (lv_at hl 0 rfl) ?_
              refine va_get (D := D) (ci := 6) (v := .ref wa) (C := R_PatternBookModel) (T := F_PatternBookModel) (N := 11) hx hb hts i_PatternBookModel hown hK hP 0 rfl rfl 4 (by decide) (hts _ k_263) (fun _ h9 => h9) rfl d_PatternBookModel_put_85 ?_
              refine lv_iconst (v := 3) hx hb d_PatternBookModel_put_88 (by decide) ?_
              refine lv_iload_n hx hb d_PatternBookModel_put_89 rfl (lv_at hl 1 rfl) ?_
              refine lv_iconst (v := 1) hx hb d_PatternBookModel_put_90 (by decide) ?_
              refine lv_icmp_ne (tgt := 98) hx hb d_PatternBookModel_put_91 (by decide) (fun c_8 => ?_) (fun c_8 => ?_)
              · refine lv_lload hx hb d_PatternBookModel_put_98 (lv_at hl 4 rfl) ?_
                refine lv_bipush (v := 32) hx hb d_PatternBookModel_put_100 (by decide) ?_
                refine lv_lushr (v := lushr_ v (32:Int32)) hx hb d_PatternBookModel_put_102 rfl ?_
                refine va_last hx hb hK hP hD hS 1 0 rfl rfl (idx_in rfl) d_PatternBookModel_put_103 (fun H locs hP hD hS => ?_)
                have hP : va_P D classes [(mo, .inr (6, [.int (0:Int32), .int x, .int (0:Int32), .int (0:Int32), .ref wa, .long hi, .long lo, .long lh, .long ll, .ref sa, .ref ma])), (wa, .inl (cW, 12, .inr (.inl (vp_updL (vp_updL u6 2 (v &&& (4294967295:Int64))) 3 (lushr_ v (32:Int32))))))] H := hP
                have hD : va_D A [(mo, .inr (6, [.int (0:Int32), .int x, .int (0:Int32), .int (0:Int32), .ref wa, .long hi, .long lo, .long lh, .long ll, .ref sa, .ref ma])), (wa, .inl (cW, 12, .inr (.inl (vp_updL (vp_updL u6 2 (v &&& (4294967295:Int64))) 3 (lushr_ v (32:Int32))))))] := hD
                refine lv_iconst (v := 1) hx hb d_PatternBookModel_put_104 (by decide) ?_
                refine W.zret hx hb hr rfl ?_ hS.2.2 d_PatternBookModel_put_105
                exact uEnd (true, (0:Int32), x, (0:Int32), (0:Int32), (vp_updL (vp_updL u6 2 (v &&& (4294967295:Int64))) 3 (lushr_ v (32:Int32)))) (hP.sub [0, 1] rfl) (hK.sub [0] rfl) (hD.sub [0, 1] (by decide) rfl) hS (by have eu6 := hu6.symm; subst eu6; exact ((if_neg c_1).trans ((if_pos c_2).trans ((if_pos c_3).trans ((if_neg c_4).trans ((if_neg c_5).trans ((if_neg c_7).trans ((if_neg c_8).trans (rfl)))))))).symm) rfl
              · refine lv_lconst (v := 0) hx hb d_PatternBookModel_put_94 (by decide) ?_
                refine lv_goto (tgt := 103) hx hb d_PatternBookModel_put_95 (by decide) ?_
                refine va_last hx hb hK hP hD hS 1 0 rfl rfl (idx_in rfl) d_PatternBookModel_put_103 (fun H locs hP hD hS => ?_)
                have hP : va_P D classes [(mo, .inr (6, [.int (0:Int32), .int x, .int (0:Int32), .int (0:Int32), .ref wa, .long hi, .long lo, .long lh, .long ll, .ref sa, .ref ma])), (wa, .inl (cW, 12, .inr (.inl (vp_updL (vp_updL u6 2 (v &&& (4294967295:Int64))) 3 (0:Int64)))))] H := hP
                have hD : va_D A [(mo, .inr (6, [.int (0:Int32), .int x, .int (0:Int32), .int (0:Int32), .ref wa, .long hi, .long lo, .long lh, .long ll, .ref sa, .ref ma])), (wa, .inl (cW, 12, .inr (.inl (vp_updL (vp_updL u6 2 (v &&& (4294967295:Int64))) 3 (0:Int64)))))] := hD
                refine lv_iconst (v := 1) hx hb d_PatternBookModel_put_104 (by decide) ?_
                refine W.zret hx hb hr rfl ?_ hS.2.2 d_PatternBookModel_put_105
                exact uEnd (true, (0:Int32), x, (0:Int32), (0:Int32), (vp_updL (vp_updL u6 2 (v &&& (4294967295:Int64))) 3 (0:Int64))) (hP.sub [0, 1] rfl) (hK.sub [0] rfl) (hD.sub [0, 1] (by decide) rfl) hS (by have eu6 := hu6.symm; subst eu6; exact ((if_neg c_1).trans ((if_pos c_2).trans ((if_pos c_3).trans ((if_neg c_4).trans ((if_neg c_5).trans ((if_neg c_7).trans ((if_pos c_8).trans (rfl)))))))).symm) rfl
            · refine lv_lconst (v := 0) hx hb d_PatternBookModel_put_73 (by decide) ?_
              refine lv_goto (tgt := 83) hx hb d_PatternBookModel_put_74 (by decide) ?_
              refine va_last hx hb hK hP hD hS 1 0 rfl rfl (idx_in rfl) d_PatternBookModel_put_83 (fun H locs hP hD hS => ?_)
              have hP : va_P D classes [(mo, .inr (6, [.int (0:Int32), .int x, .int (0:Int32), .int (0:Int32), .ref wa, .long hi, .long lo, .long lh, .long ll, .ref sa, .ref ma])), (wa, .inl (cW, 12, .inr (.inl (vp_updL u6 2 (0:Int64)))))] H := hP
              have hD : va_D A [(mo, .inr (6, [.int (0:Int32), .int x, .int (0:Int32), .int (0:Int32), .ref wa, .long hi, .long lo, .long lh, .long ll, .ref sa, .ref ma])), (wa, .inl (cW, 12, .inr (.inl (vp_updL u6 2 (0:Int64)))))] := hD
              refine lv_aload_n hx hb d_PatternBookModel_put_84 rfl (lv_at hl 0 rfl) ?_
              refine va_get (D := D) (ci := 6) (v := .ref wa) (C := R_PatternBookModel) (T := F_PatternBookModel) (N := 11) hx hb hts i_PatternBookModel hown hK hP 0 rfl rfl 4 (by decide) (hts _ k_263) (fun _ h9 => h9) rfl d_PatternBookModel_put_85 ?_
              refine lv_iconst (v := 3) hx hb d_PatternBookModel_put_88 (by decide) ?_
              refine lv_iload_n hx hb d_PatternBookModel_put_89 rfl (lv_at hl 1 rfl) ?_
              refine lv_iconst (v := 1) hx hb d_PatternBookModel_put_90 (by decide) ?_
              refine lv_icmp_ne (tgt := 98) hx hb d_PatternBookModel_put_91 (by decide) (fun c_9 => ?_) (fun c_9 => ?_)
              · refine lv_lload hx hb d_PatternBookModel_put_98 (lv_at hl 4 rfl) ?_
                refine lv_bipush (v := 32) hx hb d_PatternBookModel_put_100 (by decide) ?_
                refine lv_lushr (v := lushr_ v (32:Int32)) hx hb d_PatternBookModel_put_102 rfl ?_
                refine va_last hx hb hK hP hD hS 1 0 rfl rfl (idx_in rfl) d_PatternBookModel_put_103 (fun H locs hP hD hS => ?_)
                have hP : va_P D classes [(mo, .inr (6, [.int (0:Int32), .int x, .int (0:Int32), .int (0:Int32), .ref wa, .long hi, .long lo, .long lh, .long ll, .ref sa, .ref ma])), (wa, .inl (cW, 12, .inr (.inl (vp_updL (vp_updL u6 2 (0:Int64)) 3 (lushr_ v (32:Int32))))))] H := hP
                have hD : va_D A [(mo, .inr (6, [.int (0:Int32), .int x, .int (0:Int32), .int (0:Int32), .ref wa, .long hi, .long lo, .long lh, .long ll, .ref sa, .ref ma])), (wa, .inl (cW, 12, .inr (.inl (vp_updL (vp_updL u6 2 (0:Int64)) 3 (lushr_ v (32:Int32))))))] := hD
                refine lv_iconst (v := 1) hx hb d_PatternBookModel_put_104 (by decide) ?_
                refine W.zret hx hb hr rfl ?_ hS.2.2 d_PatternBookModel_put_105
                exact uEnd (true, (0:Int32), x, (0:Int32), (0:Int32), (vp_updL (vp_updL u6 2 (0:Int64)) 3 (lushr_ v (32:Int32)))) (hP.sub [0, 1] rfl) (hK.sub [0] rfl) (hD.sub [0, 1] (by decide) rfl) hS (by have eu6 := hu6.symm; subst eu6; exact ((if_neg c_1).trans ((if_pos c_2).trans ((if_pos c_3).trans ((if_neg c_4).trans ((if_neg c_5).trans ((if_pos c_7).trans ((if_neg c_9).trans (rfl)))))))).symm) rfl
              · refine lv_lconst (v := 0) hx hb d_PatternBookModel_put_94 (by decide) ?_
                refine lv_goto (tgt := 103) hx hb d_PatternBookModel_put_95 (by decide) ?_
                refine va_last hx hb hK hP hD hS 1 0 rfl rfl (idx_in rfl) d_PatternBookModel_put_103 (fun H locs hP hD hS => ?_)
                have hP : va_P D classes [(mo, .inr (6, [.int (0:Int32), .int x, .int (0:Int32), .int (0:Int32), .ref wa, .long hi, .long lo, .long lh, .long ll, .ref sa, .ref ma])), (wa, .inl (cW, 12, .inr (.inl (vp_updL (vp_updL u6 2 (0:Int64)) 3 (0:Int64)))))] H := hP
                have hD : va_D A [(mo, .inr (6, [.int (0:Int32), .int x, .int (0:Int32), .int (0:Int32), .ref wa, .long hi, .long lo, .long lh, .long ll, .ref sa, .ref ma])), (wa, .inl (cW, 12, .inr (.inl (vp_updL (vp_updL u6 2 (0:Int64)) 3 (0:Int64)))))] := hD
                refine lv_iconst (v := 1) hx hb d_PatternBookModel_put_104 (by decide) ?_
                refine W.zret hx hb hr rfl ?_ hS.2.2 d_PatternBookModel_put_105
                exact uEnd (true, (0:Int32), x, (0:Int32), (0:Int32), (vp_updL (vp_updL u6 2 (0:Int64)) 3 (0:Int64))) (hP.sub [0, 1] rfl) (hK.sub [0] rfl) (hD.sub [0, 1] (by decide) rfl) hS (by have eu6 := hu6.symm; subst eu6; exact ((if_neg c_1).trans ((if_pos c_2).trans ((if_pos c_3).trans ((if_neg c_4).trans ((if_neg c_5).trans ((if_pos c_7).trans ((if_pos c_9).trans (rfl)))))))).symm) rfl
          · refine lv_lconst (v := 0) hx hb d_PatternBookModel_put_54 (by decide) ?_
            refine lv_goto (tgt := 60) hx hb d_PatternBookModel_put_55 (by decide) ?_
            refine uCall (WR := []) (RT := []) (va_runV (As := [.int (0:Int32), .long (0:Int64)]) (rest := []) ⟨hx, hb, hml, hown, hts⟩ (c_M_be0 l D mo wa sa ma cW H.size (0:Int64) (0:Int32) x (0:Int32) (0:Int32) hi lo lh ll w) ⟨uCB 2 hts k_265 k_257 k_266 (by decide +kernel) rfl rfl ⟨Nat.le_of_ble_eq_true rfl, Nat.le_of_ble_eq_true rfl⟩, hts _ k_267, hts _ k_268⟩ (uPreV (ci := 6) (q0 := 0) hK hP hD hN [0, 1] rfl (by decide) [0] rfl rfl rfl) rfl rfl hl.1 rfl (lv_room (Nat.le_of_ble_eq_true rfl)) d_PatternBookModel_put_60 ⟨(Nat.le_of_ble_eq_true rfl), (Nat.le_of_ble_eq_true rfl)⟩) hK hP hD hS hA [0, 1] [] rfl rfl (by decide) (by decide) [] rfl (fun u10 H locs hu10 hP hD hK hS => ?_)
            have hP : va_P D classes [(mo, .inr (6, [.int (0:Int32), .int x, .int (0:Int32), .int (0:Int32), .ref wa, .long hi, .long lo, .long lh, .long ll, .ref sa, .ref ma])), (wa, .inl (cW, 12, .inr (.inl u10)))] H := hP
            have hD : va_D A [(mo, .inr (6, [.int (0:Int32), .int x, .int (0:Int32), .int (0:Int32), .ref wa, .long hi, .long lo, .long lh, .long ll, .ref sa, .ref ma])), (wa, .inl (cW, 12, .inr (.inl u10)))] := hD
            have hK : va_K D classes [(cW, .long)] s := hK
            refine W.eq (g2 := F0 m 63 ls []) rfl ?_
            refine lv_aload_n hx hb d_PatternBookModel_put_63 rfl (lv_at hl 0 rfl) ?_
            refine va_get (D := D) (ci := 6) (v := .ref wa) (C := R_PatternBookModel) (T := F_PatternBookModel) (N := 11) hx hb hts i_PatternBookModel hown hK hP 0 rfl rfl 4 (by decide) (hts _ k_263) (fun _ h9 => h9) rfl d_PatternBookModel_put_64 ?_
            refine lv_iconst (v := 2) hx hb d_PatternBookModel_put_67 (by decide) ?_
            refine lv_iload_n hx hb d_PatternBookModel_put_68 rfl (lv_at hl 1 rfl) ?_
            refine lv_iconst (v := 1) hx hb d_PatternBookModel_put_69 (by decide) ?_
            refine lv_icmp_ne (tgt := 77) hx hb d_PatternBookModel_put_70 (by decide) (fun c_11 => ?_) (fun c_11 => ?_)
            · refine lv_lload hx hb d_PatternBookModel_put_77 (lv_at hl 4 rfl) ?_
              refine lv_ldc2 (v := 4294967295) hx hb hown (hts _ k_264) d_PatternBookModel_put_79 ?_
              refine lv_land hx hb d_PatternBookModel_put_82 ?_
              refine va_last hx hb hK hP hD hS 1 0 rfl rfl (idx_in rfl) d_PatternBookModel_put_83 (fun H locs hP hD hS => ?_)
              have hP : va_P D classes [(mo, .inr (6, [.int (0:Int32), .int x, .int (0:Int32), .int (0:Int32), .ref wa, .long hi, .long lo, .long lh, .long ll, .ref sa, .ref ma])), (wa, .inl (cW, 12, .inr (.inl (vp_updL u10 2 (v &&& (4294967295:Int64))))))] H := hP
              have hD : va_D A [(mo, .inr (6, [.int (0:Int32), .int x, .int (0:Int32), .int (0:Int32), .ref wa, .long hi, .long lo, .long lh, .long ll, .ref sa, .ref ma])), (wa, .inl (cW, 12, .inr (.inl (vp_updL u10 2 (v &&& (4294967295:Int64))))))] := hD
              refine lv_aload_n hx hb d_PatternBookModel_put_84 rfl (lv_at hl 0 rfl) ?_
              refine va_get (D := D) (ci := 6) (v := .ref wa) (C := R_PatternBookModel) (T := F_PatternBookModel) (N := 11) hx hb hts i_PatternBookModel hown hK hP 0 rfl rfl 4 (by decide) (hts _ k_263) (fun _ h9 => h9) rfl d_PatternBookModel_put_85 ?_
              refine lv_iconst (v := 3) hx hb d_PatternBookModel_put_88 (by decide) ?_
              refine lv_iload_n hx hb d_PatternBookModel_put_89 rfl (lv_at hl 1 rfl) ?_
              refine lv_iconst (v := 1) hx hb d_PatternBookModel_put_90 (by decide) ?_
              refine lv_icmp_ne (tgt := 98) hx hb d_PatternBookModel_put_91 (by decide) (fun c_12 => ?_) (fun c_12 => ?_)
              · refine lv_lload hx hb d_PatternBookModel_put_98 (lv_at hl 4 rfl) ?_
                refine lv_bipush (v := 32) hx hb d_PatternBookModel_put_100 (by decide) ?_
                refine lv_lushr (v := lushr_ v (32:Int32)) hx hb d_PatternBookModel_put_102 rfl ?_
                refine va_last hx hb hK hP hD hS 1 0 rfl rfl (idx_in rfl) d_PatternBookModel_put_103 (fun H locs hP hD hS => ?_)
                have hP : va_P D classes [(mo, .inr (6, [.int (0:Int32), .int x, .int (0:Int32), .int (0:Int32), .ref wa, .long hi, .long lo, .long lh, .long ll, .ref sa, .ref ma])), (wa, .inl (cW, 12, .inr (.inl (vp_updL (vp_updL u10 2 (v &&& (4294967295:Int64))) 3 (lushr_ v (32:Int32))))))] H := hP
                have hD : va_D A [(mo, .inr (6, [.int (0:Int32), .int x, .int (0:Int32), .int (0:Int32), .ref wa, .long hi, .long lo, .long lh, .long ll, .ref sa, .ref ma])), (wa, .inl (cW, 12, .inr (.inl (vp_updL (vp_updL u10 2 (v &&& (4294967295:Int64))) 3 (lushr_ v (32:Int32))))))] := hD
                refine lv_iconst (v := 1) hx hb d_PatternBookModel_put_104 (by decide) ?_
                refine W.zret hx hb hr rfl ?_ hS.2.2 d_PatternBookModel_put_105
                exact uEnd (true, (0:Int32), x, (0:Int32), (0:Int32), (vp_updL (vp_updL u10 2 (v &&& (4294967295:Int64))) 3 (lushr_ v (32:Int32)))) (hP.sub [0, 1] rfl) (hK.sub [0] rfl) (hD.sub [0, 1] (by decide) rfl) hS (by have eu10 := hu10.symm; subst eu10; exact ((if_neg c_1).trans ((if_pos c_2).trans ((if_pos c_3).trans ((if_neg c_4).trans ((if_pos c_5).trans ((if_neg c_11).trans ((if_neg c_12).trans (rfl)))))))).symm) rfl
              · refine lv_lconst (v := 0) hx hb d_PatternBookModel_put_94 (by decide) ?_
                refine lv_goto (tgt := 103) hx hb d_PatternBookModel_put_95 (by decide) ?_
                refine va_last hx hb hK hP hD hS 1 0 rfl rfl (idx_in rfl) d_PatternBookModel_put_103 (fun H locs hP hD hS => ?_)
                have hP : va_P D classes [(mo, .inr (6, [.int (0:Int32), .int x, .int (0:Int32), .int (0:Int32), .ref wa, .long hi, .long lo, .long lh, .long ll, .ref sa, .ref ma])), (wa, .inl (cW, 12, .inr (.inl (vp_updL (vp_updL u10 2 (v &&& (4294967295:Int64))) 3 (0:Int64)))))] H := hP
                have hD : va_D A [(mo, .inr (6, [.int (0:Int32), .int x, .int (0:Int32), .int (0:Int32), .ref wa, .long hi, .long lo, .long lh, .long ll, .ref sa, .ref ma])), (wa, .inl (cW, 12, .inr (.inl (vp_updL (vp_updL u10 2 (v &&& (4294967295:Int64))) 3 (0:Int64)))))] := hD
                refine lv_iconst (v := 1) hx hb d_PatternBookModel_put_104 (by decide) ?_
                refine W.zret hx hb hr rfl ?_ hS.2.2 d_PatternBookModel_put_105
                exact uEnd (true, (0:Int32), x, (0:Int32), (0:Int32), (vp_updL (vp_updL u10 2 (v &&& (4294967295:Int64))) 3 (0:Int64))) (hP.sub [0, 1] rfl) (hK.sub [0] rfl) (hD.sub [0, 1] (by decide) rfl) hS (by have eu10 := hu10.symm; subst eu10; exact ((if_neg c_1).trans ((if_pos c_2).trans ((if_pos c_3).trans ((if_neg c_4).trans ((if_pos c_5).trans ((if_neg c_11).trans ((if_pos c_12).trans (rfl)))))))).symm) rfl
            · refine lv_lconst (v := 0) hx hb d_PatternBookModel_put_73 (by decide) ?_
              refine lv_goto (tgt := 83) hx hb d_PatternBookModel_put_74 (by decide) ?_
              refine va_last hx hb hK hP hD hS 1 0 rfl rfl (idx_in rfl) d_PatternBookModel_put_83 (fun H locs hP hD hS => ?_)
              have hP : va_P D classes [(mo, .inr (6, [.int (0:Int32), .int x, .int (0:Int32), .int (0:Int32), .ref wa, .long hi, .long lo, .long lh, .long ll, .ref sa, .ref ma])), (wa, .inl (cW, 12, .inr (.inl (vp_updL u10 2 (0:Int64)))))] H := hP
              have hD : va_D A [(mo, .inr (6, [.int (0:Int32), .int x, .int (0:Int32), .int (0:Int32), .ref wa, .long hi, .long lo, .long lh, .long ll, .ref sa, .ref ma])), (wa, .inl (cW, 12, .inr (.inl (vp_updL u10 2 (0:Int64)))))] := hD
              refine lv_aload_n hx hb d_PatternBookModel_put_84 rfl (lv_at hl 0 rfl) ?_
              refine va_get (D := D) (ci := 6) (v := .ref wa) (C := R_PatternBookModel) (T := F_PatternBookModel) (N := 11) hx hb hts i_PatternBookModel hown hK hP 0 rfl rfl 4 (by decide) (hts _ k_263) (fun _ h9 => h9) rfl d_PatternBookModel_put_85 ?_
              refine lv_iconst (v := 3) hx hb d_PatternBookModel_put_88 (by decide) ?_
              refine lv_iload_n hx hb d_PatternBookModel_put_89 rfl (lv_at hl 1 rfl) ?_
              refine lv_iconst (v := 1) hx hb d_PatternBookModel_put_90 (by decide) ?_
              refine lv_icmp_ne (tgt := 98) hx hb d_PatternBookModel_put_91 (by decide) (fun c_13 => ?_) (fun c_13 => ?_)
              · refine lv_lload hx hb d_PatternBookModel_put_98 (lv_at hl 4 rfl) ?_
                refine lv_bipush (v := 32) hx hb d_PatternBookModel_put_100 (by decide) ?_
                refine lv_lushr (v := lushr_ v (32:Int32)) hx hb d_PatternBookModel_put_102 rfl ?_
                refine va_last hx hb hK hP hD hS 1 0 rfl rfl (idx_in rfl) d_PatternBookModel_put_103 (fun H locs hP hD hS => ?_)
                have hP : va_P D classes [(mo, .inr (6, [.int (0:Int32), .int x, .int (0:Int32), .int (0:Int32), .ref wa, .long hi, .long lo, .long lh, .long ll, .ref sa, .ref ma])), (wa, .inl (cW, 12, .inr (.inl (vp_updL (vp_updL u10 2 (0:Int64)) 3 (lushr_ v (32:Int32))))))] H := hP
                have hD : va_D A [(mo, .inr (6, [.int (0:Int32), .int x, .int (0:Int32), .int (0:Int32), .ref wa, .long hi, .long lo, .long lh, .long ll, .ref sa, .ref ma])), (wa, .inl (cW, 12, .inr (.inl (vp_updL (vp_updL u10 2 (0:Int64)) 3 (lushr_ v (32:Int32))))))] := hD
                refine lv_iconst (v := 1) hx hb d_PatternBookModel_put_104 (by decide) ?_
                refine W.zret hx hb hr rfl ?_ hS.2.2 d_PatternBookModel_put_105
                exact uEnd (true, (0:Int32), x, (0:Int32), (0:Int32), (vp_updL (vp_updL u10 2 (0:Int64)) 3 (lushr_ v (32:Int32)))) (hP.sub [0, 1] rfl) (hK.sub [0] rfl) (hD.sub [0, 1] (by decide) rfl) hS (by have eu10 := hu10.symm; subst eu10; exact ((if_neg c_1).trans ((if_pos c_2).trans ((if_pos c_3).trans ((if_neg c_4).trans ((if_pos c_5).trans ((if_pos c_11).trans ((if_neg c_13).trans (rfl)))))))).symm) rfl
              · refine lv_lconst (v := 0) hx hb d_PatternBookModel_put_94 (by decide) ?_
                refine lv_goto (tgt := 103) hx hb d_PatternBookModel_put_95 (by decide) ?_
                refine va_last hx hb hK hP hD hS 1 0 rfl rfl (idx_in rfl) d_PatternBookModel_put_103 (fun H locs hP hD hS => ?_)
                have hP : va_P D classes [(mo, .inr (6, [.int (0:Int32), .int x, .int (0:Int32), .int (0:Int32), .ref wa, .long hi, .long lo, .long lh, .long ll, .ref sa, .ref ma])), (wa, .inl (cW, 12, .inr (.inl (vp_updL (vp_updL u10 2 (0:Int64)) 3 (0:Int64)))))] H := hP
                have hD : va_D A [(mo, .inr (6, [.int (0:Int32), .int x, .int (0:Int32), .int (0:Int32), .ref wa, .long hi, .long lo, .long lh, .long ll, .ref sa, .ref ma])), (wa, .inl (cW, 12, .inr (.inl (vp_updL (vp_updL u10 2 (0:Int64)) 3 (0:Int64)))))] := hD
                refine lv_iconst (v := 1) hx hb d_PatternBookModel_put_104 (by decide) ?_
                refine W.zret hx hb hr rfl ?_ hS.2.2 d_PatternBookModel_put_105
                exact uEnd (true, (0:Int32), x, (0:Int32), (0:Int32), (vp_updL (vp_updL u10 2 (0:Int64)) 3 (0:Int64))) (hP.sub [0, 1] rfl) (hK.sub [0] rfl) (hD.sub [0, 1] (by decide) rfl) hS (by have eu10 := hu10.symm; subst eu10; exact ((if_neg c_1).trans ((if_pos c_2).trans ((if_pos c_3).trans ((if_neg c_4).trans ((if_pos c_5).trans ((if_pos c_11).trans ((if_pos c_13).trans (rfl)))))))).symm) rfl
        · refine lv_iload_n hx hb d_PatternBookModel_put_39 rfl (lv_at hl 3 rfl) ?_
          refine lv_goto (tgt := 44) hx hb d_PatternBookModel_put_40 (by decide) ?_
          refine va_put (D := D) (ci := 6) (v := .int z) (ty := .int) (C := R_PatternBookModel) (T := F_PatternBookModel) (N := 11) hx hb hts i_PatternBookModel t_PatternBookModel t_PatternBookModel_ok n_PatternBookModel hown hK hP hD hS 0 rfl rfl 3 (by decide) (hts _ k_313) (fun _ h9 => h9) rfl (by decide +kernel) rfl rfl (Nat.le_of_ble_eq_true rfl) d_PatternBookModel_put_44 (fun H locs hP hD hS => ?_)
          have hP : va_P D classes [(mo, .inr (6, [.int (0:Int32), .int x, .int (0:Int32), .int z, .ref wa, .long hi, .long lo, .long lh, .long ll, .ref sa, .ref ma])), (wa, .inl (cW, 12, .inr (.inl w)))] H := hP
          have hD : va_D A [(mo, .inr (6, [.int (0:Int32), .int x, .int (0:Int32), .int z, .ref wa, .long hi, .long lo, .long lh, .long ll, .ref sa, .ref ma])), (wa, .inl (cW, 12, .inr (.inl w)))] := hD
          refine lv_aload_n hx hb d_PatternBookModel_put_47 rfl (lv_at hl 0 rfl) ?_
          refine lv_iconst (v := 0) hx hb d_PatternBookModel_put_48 (by decide) ?_
          refine lv_iload_n hx hb d_PatternBookModel_put_49 rfl (lv_at hl 1 rfl) ?_
          refine lv_iconst (v := 1) hx hb d_PatternBookModel_put_50 (by decide) ?_
          refine lv_icmp_ne (tgt := 58) hx hb d_PatternBookModel_put_51 (by decide) (fun c_14 => ?_) (fun c_14 => ?_)
          · refine lv_lload hx hb d_PatternBookModel_put_58 (lv_at hl 5 rfl) ?_
            refine uCall (WR := []) (RT := []) (va_runV (As := [.int (0:Int32), .long t]) (rest := []) ⟨hx, hb, hml, hown, hts⟩ (c_M_be0 l D mo wa sa ma cW H.size t (0:Int32) x (0:Int32) z hi lo lh ll w) ⟨uCB 2 hts k_265 k_257 k_266 (by decide +kernel) rfl rfl ⟨Nat.le_of_ble_eq_true rfl, Nat.le_of_ble_eq_true rfl⟩, hts _ k_267, hts _ k_268⟩ (uPreV (ci := 6) (q0 := 0) hK hP hD hN [0, 1] rfl (by decide) [0] rfl rfl rfl) rfl rfl hl.1 rfl (lv_room (Nat.le_of_ble_eq_true rfl)) d_PatternBookModel_put_60 ⟨(Nat.le_of_ble_eq_true rfl), (Nat.le_of_ble_eq_true rfl)⟩) hK hP hD hS hA [0, 1] [] rfl rfl (by decide) (by decide) [] rfl (fun u15 H locs hu15 hP hD hK hS => ?_)
            have hP : va_P D classes [(mo, .inr (6, [.int (0:Int32), .int x, .int (0:Int32), .int z, .ref wa, .long hi, .long lo, .long lh, .long ll, .ref sa, .ref ma])), (wa, .inl (cW, 12, .inr (.inl u15)))] H := hP
            have hD : va_D A [(mo, .inr (6, [.int (0:Int32), .int x, .int (0:Int32), .int z, .ref wa, .long hi, .long lo, .long lh, .long ll, .ref sa, .ref ma])), (wa, .inl (cW, 12, .inr (.inl u15)))] := hD
            have hK : va_K D classes [(cW, .long)] s := hK
            refine W.eq (g2 := F0 m 63 ls []) rfl ?_
            refine lv_aload_n hx hb d_PatternBookModel_put_63 rfl (lv_at hl 0 rfl) ?_
            refine va_get (D := D) (ci := 6) (v := .ref wa) (C := R_PatternBookModel) (T := F_PatternBookModel) (N := 11) hx hb hts i_PatternBookModel hown hK hP 0 rfl rfl 4 (by decide) (hts _ k_263) (fun _ h9 => h9) rfl d_PatternBookModel_put_64 ?_
            refine lv_iconst (v := 2) hx hb d_PatternBookModel_put_67 (by decide) ?_
            refine lv_iload_n hx hb d_PatternBookModel_put_68 rfl (lv_at hl 1 rfl) ?_
            refine lv_iconst (v := 1) hx hb d_PatternBookModel_put_69 (by decide) ?_
            refine lv_icmp_ne (tgt := 77) hx hb d_PatternBookModel_put_70 (by decide) (fun c_16 => ?_) (fun c_16 => ?_)
            · refine lv_lload hx hb d_PatternBookModel_put_77 (lv_at hl 4 rfl) ?_
              refine lv_ldc2 (v := 4294967295) hx hb hown (hts _ k_264) d_PatternBookModel_put_79 ?_
              refine lv_land hx hb d_PatternBookModel_put_82 ?_
              refine va_last hx hb hK hP hD hS 1 0 rfl rfl (idx_in rfl) d_PatternBookModel_put_83 (fun H locs hP hD hS => ?_)
              have hP : va_P D classes [(mo, .inr (6, [.int (0:Int32), .int x, .int (0:Int32), .int z, .ref wa, .long hi, .long lo, .long lh, .long ll, .ref sa, .ref ma])), (wa, .inl (cW, 12, .inr (.inl (vp_updL u15 2 (v &&& (4294967295:Int64))))))] H := hP
              have hD : va_D A [(mo, .inr (6, [.int (0:Int32), .int x, .int (0:Int32), .int z, .ref wa, .long hi, .long lo, .long lh, .long ll, .ref sa, .ref ma])), (wa, .inl (cW, 12, .inr (.inl (vp_updL u15 2 (v &&& (4294967295:Int64))))))] := hD
              refine lv_aload_n hx hb d_PatternBookModel_put_84 rfl (lv_at hl 0 rfl) ?_
              refine va_get (D := D) (ci := 6) (v := .ref wa) (C := R_PatternBookModel) (T := F_PatternBookModel) (N := 11) hx hb hts i_PatternBookModel hown hK hP 0 rfl rfl 4 (by decide) (hts _ k_263) (fun _ h9 => h9) rfl d_PatternBookModel_put_85 ?_
              refine lv_iconst (v := 3) hx hb d_PatternBookModel_put_88 (by decide) ?_
              refine lv_iload_n hx hb d_PatternBookModel_put_89 rfl (lv_at hl 1 rfl) ?_
              refine lv_iconst (v := 1) hx hb d_PatternBookModel_put_90 (by decide) ?_
              refine lv_icmp_ne (tgt := 98) hx hb d_PatternBookModel_put_91 (by decide) (fun c_17 => ?_) (fun c_17 => ?_)
              · refine lv_lload hx hb d_PatternBookModel_put_98 (lv_at hl 4 rfl) ?_
                refine lv_bipush (v := 32) hx hb d_PatternBookModel_put_100 (by decide) ?_
                refine lv_lushr (v := lushr_ v (32:Int32)) hx hb d_PatternBookModel_put_102 rfl ?_
                refine va_last hx hb hK hP hD hS 1 0 rfl rfl (idx_in rfl) d_PatternBookModel_put_103 (fun H locs hP hD hS => ?_)
                have hP : va_P D classes [(mo, .inr (6, [.int (0:Int32), .int x, .int (0:Int32), .int z, .ref wa, .long hi, .long lo, .long lh, .long ll, .ref sa, .ref ma])), (wa, .inl (cW, 12, .inr (.inl (vp_updL (vp_updL u15 2 (v &&& (4294967295:Int64))) 3 (lushr_ v (32:Int32))))))] H := hP
                have hD : va_D A [(mo, .inr (6, [.int (0:Int32), .int x, .int (0:Int32), .int z, .ref wa, .long hi, .long lo, .long lh, .long ll, .ref sa, .ref ma])), (wa, .inl (cW, 12, .inr (.inl (vp_updL (vp_updL u15 2 (v &&& (4294967295:Int64))) 3 (lushr_ v (32:Int32))))))] := hD
                refine lv_iconst (v := 1) hx hb d_PatternBookModel_put_104 (by decide) ?_
                refine W.zret hx hb hr rfl ?_ hS.2.2 d_PatternBookModel_put_105
                exact uEnd (true, (0:Int32), x, (0:Int32), z, (vp_updL (vp_updL u15 2 (v &&& (4294967295:Int64))) 3 (lushr_ v (32:Int32)))) (hP.sub [0, 1] rfl) (hK.sub [0] rfl) (hD.sub [0, 1] (by decide) rfl) hS (by have eu15 := hu15.symm; subst eu15; exact ((if_neg c_1).trans ((if_pos c_2).trans ((if_pos c_3).trans ((if_pos c_4).trans ((if_neg c_14).trans ((if_neg c_16).trans ((if_neg c_17).trans (rfl)))))))).symm) rfl
              · refine lv_lconst (v := 0) hx hb d_PatternBookModel_put_94 (by decide) ?_
                refine lv_goto (tgt := 103) hx hb d_PatternBookModel_put_95 (by decide) ?_
                refine va_last hx hb hK hP hD hS 1 0 rfl rfl (idx_in rfl) d_PatternBookModel_put_103 (fun H locs hP hD hS => ?_)
                have hP : va_P D classes [(mo, .inr (6, [.int (0:Int32), .int x, .int (0:Int32), .int z, .ref wa, .long hi, .long lo, .long lh, .long ll, .ref sa, .ref ma])), (wa, .inl (cW, 12, .inr (.inl (vp_updL (vp_updL u15 2 (v &&& (4294967295:Int64))) 3 (0:Int64)))))] H := hP
                have hD : va_D A [(mo, .inr (6, [.int (0:Int32), .int x, .int (0:Int32), .int z, .ref wa, .long hi, .long lo, .long lh, .long ll, .ref sa, .ref ma])), (wa, .inl (cW, 12, .inr (.inl (vp_updL (vp_updL u15 2 (v &&& (4294967295:Int64))) 3 (0:Int64)))))] := hD
                refine lv_iconst (v := 1) hx hb d_PatternBookModel_put_104 (by decide) ?_
                refine W.zret hx hb hr rfl ?_ hS.2.2 d_PatternBookModel_put_105
                exact uEnd (true, (0:Int32), x, (0:Int32), z, (vp_updL (vp_updL u15 2 (v &&& (4294967295:Int64))) 3 (0:Int64))) (hP.sub [0, 1] rfl) (hK.sub [0] rfl) (hD.sub [0, 1] (by decide) rfl) hS (by have eu15 := hu15.symm; subst eu15; exact ((if_neg c_1).trans ((if_pos c_2).trans ((if_pos c_3).trans ((if_pos c_4).trans ((if_neg c_14).trans ((if_neg c_16).trans ((if_pos c_17).trans (rfl)))))))).symm) rfl
            · refine lv_lconst (v := 0) hx hb d_PatternBookModel_put_73 (by decide) ?_
              refine lv_goto (tgt := 83) hx hb d_PatternBookModel_put_74 (by decide) ?_
              refine va_last hx hb hK hP hD hS 1 0 rfl rfl (idx_in rfl) d_PatternBookModel_put_83 (fun H locs hP hD hS => ?_)
              have hP : va_P D classes [(mo, .inr (6, [.int (0:Int32), .int x, .int (0:Int32), .int z, .ref wa, .long hi, .long lo, .long lh, .long ll, .ref sa, .ref ma])), (wa, .inl (cW, 12, .inr (.inl (vp_updL u15 2 (0:Int64)))))] H := hP
              have hD : va_D A [(mo, .inr (6, [.int (0:Int32), .int x, .int (0:Int32), .int z, .ref wa, .long hi, .long lo, .long lh, .long ll, .ref sa, .ref ma])), (wa, .inl (cW, 12, .inr (.inl (vp_updL u15 2 (0:Int64)))))] := hD
              refine lv_aload_n hx hb d_PatternBookModel_put_84 rfl (lv_at hl 0 rfl) ?_
              refine va_get (D := D) (ci := 6) (v := .ref wa) (C := R_PatternBookModel) (T := F_PatternBookModel) (N := 11) hx hb hts i_PatternBookModel hown hK hP 0 rfl rfl 4 (by decide) (hts _ k_263) (fun _ h9 => h9) rfl d_PatternBookModel_put_85 ?_
              refine lv_iconst (v := 3) hx hb d_PatternBookModel_put_88 (by decide) ?_
              refine lv_iload_n hx hb d_PatternBookModel_put_89 rfl (lv_at hl 1 rfl) ?_
              refine lv_iconst (v := 1) hx hb d_PatternBookModel_put_90 (by decide) ?_
              refine lv_icmp_ne (tgt := 98) hx hb d_PatternBookModel_put_91 (by decide) (fun c_18 => ?_) (fun c_18 => ?_)
              · refine lv_lload hx hb d_PatternBookModel_put_98 (lv_at hl 4 rfl) ?_
                refine lv_bipush (v := 32) hx hb d_PatternBookModel_put_100 (by decide) ?_
                refine lv_lushr (v := lushr_ v (32:Int32)) hx hb d_PatternBookModel_put_102 rfl ?_
                refine va_last hx hb hK hP hD hS 1 0 rfl rfl (idx_in rfl) d_PatternBookModel_put_103 (fun H locs hP hD hS => ?_)
                have hP : va_P D classes [(mo, .inr (6, [.int (0:Int32), .int x, .int (0:Int32), .int z, .ref wa, .long hi, .long lo, .long lh, .long ll, .ref sa, .ref ma])), (wa, .inl (cW, 12, .inr (.inl (vp_updL (vp_updL u15 2 (0:Int64)) 3 (lushr_ v (32:Int32))))))] H := hP
                have hD : va_D A [(mo, .inr (6, [.int (0:Int32), .int x, .int (0:Int32), .int z, .ref wa, .long hi, .long lo, .long lh, .long ll, .ref sa, .ref ma])), (wa, .inl (cW, 12, .inr (.inl (vp_updL (vp_updL u15 2 (0:Int64)) 3 (lushr_ v (32:Int32))))))] := hD
                refine lv_iconst (v := 1) hx hb d_PatternBookModel_put_104 (by decide) ?_
                refine W.zret hx hb hr rfl ?_ hS.2.2 d_PatternBookModel_put_105
                exact uEnd (true, (0:Int32), x, (0:Int32), z, (vp_updL (vp_updL u15 2 (0:Int64)) 3 (lushr_ v (32:Int32)))) (hP.sub [0, 1] rfl) (hK.sub [0] rfl) (hD.sub [0, 1] (by decide) rfl) hS (by have eu15 := hu15.symm; subst eu15; exact ((if_neg c_1).trans ((if_pos c_2).trans ((if_pos c_3).trans ((if_pos c_4).trans ((if_neg c_14).trans ((if_pos c_16).trans ((if_neg c_18).trans (rfl)))))))).symm) rfl
              · refine lv_lconst (v := 0) hx hb d_PatternBookModel_put_94 (by decide) ?_
                refine lv_goto (tgt := 103) hx hb d_PatternBookModel_put_95 (by decide) ?_
                refine va_last hx hb hK hP hD hS 1 0 rfl rfl (idx_in rfl) d_PatternBookModel_put_103 (fun H locs hP hD hS => ?_)
                have hP : va_P D classes [(mo, .inr (6, [.int (0:Int32), .int x, .int (0:Int32), .int z, .ref wa, .long hi, .long lo, .long lh, .long ll, .ref sa, .ref ma])), (wa, .inl (cW, 12, .inr (.inl (vp_updL (vp_updL u15 2 (0:Int64)) 3 (0:Int64)))))] H := hP
                have hD : va_D A [(mo, .inr (6, [.int (0:Int32), .int x, .int (0:Int32), .int z, .ref wa, .long hi, .long lo, .long lh, .long ll, .ref sa, .ref ma])), (wa, .inl (cW, 12, .inr (.inl (vp_updL (vp_updL u15 2 (0:Int64)) 3 (0:Int64)))))] := hD
                refine lv_iconst (v := 1) hx hb d_PatternBookModel_put_104 (by decide) ?_
                refine W.zret hx hb hr rfl ?_ hS.2.2 d_PatternBookModel_put_105
                exact uEnd (true, (0:Int32), x, (0:Int32), z, (vp_updL (vp_updL u15 2 (0:Int64)) 3 (0:Int64))) (hP.sub [0, 1] rfl) (hK.sub [0] rfl) (hD.sub [0, 1] (by decide) rfl) hS (by have eu15 := hu15.symm; subst eu15; exact ((if_neg c_1).trans ((if_pos c_2).trans ((if_pos c_3).trans ((if_pos c_4).trans ((if_neg c_14).trans ((if_pos c_16).trans ((if_pos c_18).trans (rfl)))))))).symm) rfl
          · refine lv_lconst (v := 0) hx hb d_PatternBookModel_put_54 (by decide) ?_
            refine lv_goto (tgt := 60) hx hb d_PatternBookModel_put_55 (by decide) ?_
            refine uCall (WR := []) (RT := []) (va_runV (As := [.int (0:Int32), .long (0:Int64)]) (rest := []) ⟨hx, hb, hml, hown, hts⟩ (c_M_be0 l D mo wa sa ma cW H.size (0:Int64) (0:Int32) x (0:Int32) z hi lo lh ll w) ⟨uCB 2 hts k_265 k_257 k_266 (by decide +kernel) rfl rfl ⟨Nat.le_of_ble_eq_true rfl, Nat.le_of_ble_eq_true rfl⟩, hts _ k_267, hts _ k_268⟩ (uPreV (ci := 6) (q0 := 0) hK hP hD hN [0, 1] rfl (by decide) [0] rfl rfl rfl) rfl rfl hl.1 rfl (lv_room (Nat.le_of_ble_eq_true rfl)) d_PatternBookModel_put_60 ⟨(Nat.le_of_ble_eq_true rfl), (Nat.le_of_ble_eq_true rfl)⟩) hK hP hD hS hA [0, 1] [] rfl rfl (by decide) (by decide) [] rfl (fun u19 H locs hu19 hP hD hK hS => ?_)
            have hP : va_P D classes [(mo, .inr (6, [.int (0:Int32), .int x, .int (0:Int32), .int z, .ref wa, .long hi, .long lo, .long lh, .long ll, .ref sa, .ref ma])), (wa, .inl (cW, 12, .inr (.inl u19)))] H := hP
            have hD : va_D A [(mo, .inr (6, [.int (0:Int32), .int x, .int (0:Int32), .int z, .ref wa, .long hi, .long lo, .long lh, .long ll, .ref sa, .ref ma])), (wa, .inl (cW, 12, .inr (.inl u19)))] := hD
            have hK : va_K D classes [(cW, .long)] s := hK
            refine W.eq (g2 := F0 m 63 ls []) rfl ?_
            refine lv_aload_n hx hb d_PatternBookModel_put_63 rfl (lv_at hl 0 rfl) ?_
            refine va_get (D := D) (ci := 6) (v := .ref wa) (C := R_PatternBookModel) (T := F_PatternBookModel) (N := 11) hx hb hts i_PatternBookModel hown hK hP 0 rfl rfl 4 (by decide) (hts _ k_263) (fun _ h9 => h9) rfl d_PatternBookModel_put_64 ?_
            refine lv_iconst (v := 2) hx hb d_PatternBookModel_put_67 (by decide) ?_
            refine lv_iload_n hx hb d_PatternBookModel_put_68 rfl (lv_at hl 1 rfl) ?_
            refine lv_iconst (v := 1) hx hb d_PatternBookModel_put_69 (by decide) ?_
            refine lv_icmp_ne (tgt := 77) hx hb d_PatternBookModel_put_70 (by decide) (fun c_20 => ?_) (fun c_20 => ?_)
            · refine lv_lload hx hb d_PatternBookModel_put_77 (lv_at hl 4 rfl) ?_
              refine lv_ldc2 (v := 4294967295) hx hb hown (hts _ k_264) d_PatternBookModel_put_79 ?_
              refine lv_land hx hb d_PatternBookModel_put_82 ?_
              refine va_last hx hb hK hP hD hS 1 0 rfl rfl (idx_in rfl) d_PatternBookModel_put_83 (fun H locs hP hD hS => ?_)
              have hP : va_P D classes [(mo, .inr (6, [.int (0:Int32), .int x, .int (0:Int32), .int z, .ref wa, .long hi, .long lo, .long lh, .long ll, .ref sa, .ref ma])), (wa, .inl (cW, 12, .inr (.inl (vp_updL u19 2 (v &&& (4294967295:Int64))))))] H := hP
              have hD : va_D A [(mo, .inr (6, [.int (0:Int32), .int x, .int (0:Int32), .int z, .ref wa, .long hi, .long lo, .long lh, .long ll, .ref sa, .ref ma])), (wa, .inl (cW, 12, .inr (.inl (vp_updL u19 2 (v &&& (4294967295:Int64))))))] := hD
              refine lv_aload_n hx hb d_PatternBookModel_put_84 rfl (lv_at hl 0 rfl) ?_
              refine va_get (D := D) (ci := 6) (v := .ref wa) (C := R_PatternBookModel) (T := F_PatternBookModel) (N := 11) hx hb hts i_PatternBookModel hown hK hP 0 rfl rfl 4 (by decide) (hts _ k_263) (fun _ h9 => h9) rfl d_PatternBookModel_put_85 ?_
              refine lv_iconst (v := 3) hx hb d_PatternBookModel_put_88 (by decide) ?_
              refine lv_iload_n hx hb d_PatternBookModel_put_89 rfl (lv_at hl 1 rfl) ?_
              refine lv_iconst (v := 1) hx hb d_PatternBookModel_put_90 (by decide) ?_
              refine lv_icmp_ne (tgt := 98) hx hb d_PatternBookModel_put_91 (by decide) (fun c_21 => ?_) (fun c_21 => ?_)
              · refine lv_lload hx hb d_PatternBookModel_put_98 (lv_at hl 4 rfl) ?_
                refine lv_bipush (v := 32) hx hb d_PatternBookModel_put_100 (by decide) ?_
                refine lv_lushr (v := lushr_ v (32:Int32)) hx hb d_PatternBookModel_put_102 rfl ?_
                refine va_last hx hb hK hP hD hS 1 0 rfl rfl (idx_in rfl) d_PatternBookModel_put_103 (fun H locs hP hD hS => ?_)
                have hP : va_P D classes [(mo, .inr (6, [.int (0:Int32), .int x, .int (0:Int32), .int z, .ref wa, .long hi, .long lo, .long lh, .long ll, .ref sa, .ref ma])), (wa, .inl (cW, 12, .inr (.inl (vp_updL (vp_updL u19 2 (v &&& (4294967295:Int64))) 3 (lushr_ v (32:Int32))))))] H := hP
                have hD : va_D A [(mo, .inr (6, [.int (0:Int32), .int x, .int (0:Int32), .int z, .ref wa, .long hi, .long lo, .long lh, .long ll, .ref sa, .ref ma])), (wa, .inl (cW, 12, .inr (.inl (vp_updL (vp_updL u19 2 (v &&& (4294967295:Int64))) 3 (lushr_ v (32:Int32))))))] := hD
                refine lv_iconst (v := 1) hx hb d_PatternBookModel_put_104 (by decide) ?_
                refine W.zret hx hb hr rfl ?_ hS.2.2 d_PatternBookModel_put_105
                exact uEnd (true, (0:Int32), x, (0:Int32), z, (vp_updL (vp_updL u19 2 (v &&& (4294967295:Int64))) 3 (lushr_ v (32:Int32)))) (hP.sub [0, 1] rfl) (hK.sub [0] rfl) (hD.sub [0, 1] (by decide) rfl) hS (by have eu19 := hu19.symm; subst eu19; exact ((if_neg c_1).trans ((if_pos c_2).trans ((if_pos c_3).trans ((if_pos c_4).trans ((if_pos c_14).trans ((if_neg c_20).trans ((if_neg c_21).trans (rfl)))))))).symm) rfl
              · refine lv_lconst (v := 0) hx hb d_PatternBookModel_put_94 (by decide) ?_
                refine lv_goto (tgt := 103) hx hb d_PatternBookModel_put_95 (by decide) ?_
                refine va_last hx hb hK hP hD hS 1 0 rfl rfl (idx_in rfl) d_PatternBookModel_put_103 (fun H locs hP hD hS => ?_)
                have hP : va_P D classes [(mo, .inr (6, [.int (0:Int32), .int x, .int (0:Int32), .int z, .ref wa, .long hi, .long lo, .long lh, .long ll, .ref sa, .ref ma])), (wa, .inl (cW, 12, .inr (.inl (vp_updL (vp_updL u19 2 (v &&& (4294967295:Int64))) 3 (0:Int64)))))] H := hP
                have hD : va_D A [(mo, .inr (6, [.int (0:Int32), .int x, .int (0:Int32), .int z, .ref wa, .long hi, .long lo, .long lh, .long ll, .ref sa, .ref ma])), (wa, .inl (cW, 12, .inr (.inl (vp_updL (vp_updL u19 2 (v &&& (4294967295:Int64))) 3 (0:Int64)))))] := hD
                refine lv_iconst (v := 1) hx hb d_PatternBookModel_put_104 (by decide) ?_
                refine W.zret hx hb hr rfl ?_ hS.2.2 d_PatternBookModel_put_105
                exact uEnd (true, (0:Int32), x, (0:Int32), z, (vp_updL (vp_updL u19 2 (v &&& (4294967295:Int64))) 3 (0:Int64))) (hP.sub [0, 1] rfl) (hK.sub [0] rfl) (hD.sub [0, 1] (by decide) rfl) hS (by have eu19 := hu19.symm; subst eu19; exact ((if_neg c_1).trans ((if_pos c_2).trans ((if_pos c_3).trans ((if_pos c_4).trans ((if_pos c_14).trans ((if_neg c_20).trans ((if_pos c_21).trans (rfl)))))))).symm) rfl
            · refine lv_lconst (v := 0) hx hb d_PatternBookModel_put_73 (by decide) ?_
              refine lv_goto (tgt := 83) hx hb d_PatternBookModel_put_74 (by decide) ?_
              refine va_last hx hb hK hP hD hS 1 0 rfl rfl (idx_in rfl) d_PatternBookModel_put_83 (fun H locs hP hD hS => ?_)
              have hP : va_P D classes [(mo, .inr (6, [.int (0:Int32), .int x, .int (0:Int32), .int z, .ref wa, .long hi, .long lo, .long lh, .long ll, .ref sa, .ref ma])), (wa, .inl (cW, 12, .inr (.inl (vp_updL u19 2 (0:Int64)))))] H := hP
              have hD : va_D A [(mo, .inr (6, [.int (0:Int32), .int x, .int (0:Int32), .int z, .ref wa, .long hi, .long lo, .long lh, .long ll, .ref sa, .ref ma])), (wa, .inl (cW, 12, .inr (.inl (vp_updL u19 2 (0:Int64)))))] := hD
              refine lv_aload_n hx hb d_PatternBookModel_put_84 rfl (lv_at hl 0 rfl) ?_
              refine va_get (D := D) (ci := 6) (v := .ref wa) (C := R_PatternBookModel) (T := F_PatternBookModel) (N := 11) hx hb hts i_PatternBookModel hown hK hP 0 rfl rfl 4 (by decide) (hts _ k_263) (fun _ h9 => h9) rfl d_PatternBookModel_put_85 ?_
              refine lv_iconst (v := 3) hx hb d_PatternBookModel_put_88 (by decide) ?_
              refine lv_iload_n hx hb d_PatternBookModel_put_89 rfl (lv_at hl 1 rfl) ?_
              refine lv_iconst (v := 1) hx hb d_PatternBookModel_put_90 (by decide) ?_
              refine lv_icmp_ne (tgt := 98) hx hb d_PatternBookModel_put_91 (by decide) (fun c_22 => ?_) (fun c_22 => ?_)
              · refine lv_lload hx hb d_PatternBookModel_put_98 (lv_at hl 4 rfl) ?_
                refine lv_bipush (v := 32) hx hb d_PatternBookModel_put_100 (by decide) ?_
                refine lv_lushr (v := lushr_ v (32:Int32)) hx hb d_PatternBookModel_put_102 rfl ?_
                refine va_last hx hb hK hP hD hS 1 0 rfl rfl (idx_in rfl) d_PatternBookModel_put_103 (fun H locs hP hD hS => ?_)
                have hP : va_P D classes [(mo, .inr (6, [.int (0:Int32), .int x, .int (0:Int32), .int z, .ref wa, .long hi, .long lo, .long lh, .long ll, .ref sa, .ref ma])), (wa, .inl (cW, 12, .inr (.inl (vp_updL (vp_updL u19 2 (0:Int64)) 3 (lushr_ v (32:Int32))))))] H := hP
                have hD : va_D A [(mo, .inr (6, [.int (0:Int32), .int x, .int (0:Int32), .int z, .ref wa, .long hi, .long lo, .long lh, .long ll, .ref sa, .ref ma])), (wa, .inl (cW, 12, .inr (.inl (vp_updL (vp_updL u19 2 (0:Int64)) 3 (lushr_ v (32:Int32))))))] := hD
                refine lv_iconst (v := 1) hx hb d_PatternBookModel_put_104 (by decide) ?_
                refine W.zret hx hb hr rfl ?_ hS.2.2 d_PatternBookModel_put_105
                exact uEnd (true, (0:Int32), x, (0:Int32), z, (vp_updL (vp_updL u19 2 (0:Int64)) 3 (lushr_ v (32:Int32)))) (hP.sub [0, 1] rfl) (hK.sub [0] rfl) (hD.sub [0, 1] (by decide) rfl) hS (by have eu19 := hu19.symm; subst eu19; exact ((if_neg c_1).trans ((if_pos c_2).trans ((if_pos c_3).trans ((if_pos c_4).trans ((if_pos c_14).trans ((if_pos c_20).trans ((if_neg c_22).trans (rfl)))))))).symm) rfl
              · refine lv_lconst (v := 0) hx hb d_PatternBookModel_put_94 (by decide) ?_
                refine lv_goto (tgt := 103) hx hb d_PatternBookModel_put_95 (by decide) ?_
                refine va_last hx hb hK hP hD hS 1 0 rfl rfl (idx_in rfl) d_PatternBookModel_put_103 (fun H locs hP hD hS => ?_)
                have hP : va_P D classes [(mo, .inr (6, [.int (0:Int32), .int x, .int (0:Int32), .int z, .ref wa, .long hi, .long lo, .long lh, .long ll, .ref sa, .ref ma])), (wa, .inl (cW, 12, .inr (.inl (vp_updL (vp_updL u19 2 (0:Int64)) 3 (0:Int64)))))] H := hP
                have hD : va_D A [(mo, .inr (6, [.int (0:Int32), .int x, .int (0:Int32), .int z, .ref wa, .long hi, .long lo, .long lh, .long ll, .ref sa, .ref ma])), (wa, .inl (cW, 12, .inr (.inl (vp_updL (vp_updL u19 2 (0:Int64)) 3 (0:Int64)))))] := hD
                refine lv_iconst (v := 1) hx hb d_PatternBookModel_put_104 (by decide) ?_
                refine W.zret hx hb hr rfl ?_ hS.2.2 d_PatternBookModel_put_105
                exact uEnd (true, (0:Int32), x, (0:Int32), z, (vp_updL (vp_updL u19 2 (0:Int64)) 3 (0:Int64))) (hP.sub [0, 1] rfl) (hK.sub [0] rfl) (hD.sub [0, 1] (by decide) rfl) hS (by have eu19 := hu19.symm; subst eu19; exact ((if_neg c_1).trans ((if_pos c_2).trans ((if_pos c_3).trans ((if_pos c_4).trans ((if_pos c_14).trans ((if_pos c_20).trans ((if_pos c_22).trans (rfl)))))))).symm) rfl
      · refine lv_iconst (v := 1) hx hb d_PatternBookModel_put_26 (by decide) ?_
        refine lv_goto (tgt := 31) hx hb d_PatternBookModel_put_27 (by decide) ?_
        refine va_put (D := D) (ci := 6) (v := .int (1:Int32)) (ty := .int) (C := R_PatternBookModel) (T := F_PatternBookModel) (N := 11) hx hb hts i_PatternBookModel t_PatternBookModel t_PatternBookModel_ok n_PatternBookModel hown hK hP hD hS 0 rfl rfl 2 (by decide) (hts _ k_331) (fun _ h9 => h9) rfl (by decide +kernel) rfl rfl (Nat.le_of_ble_eq_true rfl) d_PatternBookModel_put_31 (fun H locs hP hD hS => ?_)
        have hP : va_P D classes [(mo, .inr (6, [.int (0:Int32), .int x, .int (1:Int32), .int ex, .ref wa, .long hi, .long lo, .long lh, .long ll, .ref sa, .ref ma])), (wa, .inl (cW, 12, .inr (.inl w)))] H := hP
        have hD : va_D A [(mo, .inr (6, [.int (0:Int32), .int x, .int (1:Int32), .int ex, .ref wa, .long hi, .long lo, .long lh, .long ll, .ref sa, .ref ma])), (wa, .inl (cW, 12, .inr (.inl w)))] := hD
        refine lv_aload_n hx hb d_PatternBookModel_put_34 rfl (lv_at hl 0 rfl) ?_
        refine lv_iload_n hx hb d_PatternBookModel_put_35 rfl (lv_at hl 1 rfl) ?_
        refine lv_if_ne (tgt := 43) hx hb d_PatternBookModel_put_36 (by decide) (fun c_23 => ?_) (fun c_23 => ?_)
        · refine lv_iconst (v := 0) hx hb d_PatternBookModel_put_43 (by decide) ?_
          refine va_put (D := D) (ci := 6) (v := .int (0:Int32)) (ty := .int) (C := R_PatternBookModel) (T := F_PatternBookModel) (N := 11) hx hb hts i_PatternBookModel t_PatternBookModel t_PatternBookModel_ok n_PatternBookModel hown hK hP hD hS 0 rfl rfl 3 (by decide) (hts _ k_313) (fun _ h9 => h9) rfl (by decide +kernel) rfl rfl (Nat.le_of_ble_eq_true rfl) d_PatternBookModel_put_44 (fun H locs hP hD hS => ?_)
          have hP : va_P D classes [(mo, .inr (6, [.int (0:Int32), .int x, .int (1:Int32), .int (0:Int32), .ref wa, .long hi, .long lo, .long lh, .long ll, .ref sa, .ref ma])), (wa, .inl (cW, 12, .inr (.inl w)))] H := hP
          have hD : va_D A [(mo, .inr (6, [.int (0:Int32), .int x, .int (1:Int32), .int (0:Int32), .ref wa, .long hi, .long lo, .long lh, .long ll, .ref sa, .ref ma])), (wa, .inl (cW, 12, .inr (.inl w)))] := hD
          refine lv_aload_n hx hb d_PatternBookModel_put_47 rfl (lv_at hl 0 rfl) ?_
          refine lv_iconst (v := 0) hx hb d_PatternBookModel_put_48 (by decide) ?_
          refine lv_iload_n hx hb d_PatternBookModel_put_49 rfl (lv_at hl 1 rfl) ?_
          refine lv_iconst (v := 1) hx hb d_PatternBookModel_put_50 (by decide) ?_
          refine lv_icmp_ne (tgt := 58) hx hb d_PatternBookModel_put_51 (by decide) (fun c_24 => ?_) (fun c_24 => ?_)
          · refine lv_lload hx hb d_PatternBookModel_put_58 (lv_at hl 5 rfl) ?_
            refine uCall (WR := []) (RT := []) (va_runV (As := [.int (0:Int32), .long t]) (rest := []) ⟨hx, hb, hml, hown, hts⟩ (c_M_be0 l D mo wa sa ma cW H.size t (0:Int32) x (1:Int32) (0:Int32) hi lo lh ll w) ⟨uCB 2 hts k_265 k_257 k_266 (by decide +kernel) rfl rfl ⟨Nat.le_of_ble_eq_true rfl, Nat.le_of_ble_eq_true rfl⟩, hts _ k_267, hts _ k_268⟩ (uPreV (ci := 6) (q0 := 0) hK hP hD hN [0, 1] rfl (by decide) [0] rfl rfl rfl) rfl rfl hl.1 rfl (lv_room (Nat.le_of_ble_eq_true rfl)) d_PatternBookModel_put_60 ⟨(Nat.le_of_ble_eq_true rfl), (Nat.le_of_ble_eq_true rfl)⟩) hK hP hD hS hA [0, 1] [] rfl rfl (by decide) (by decide) [] rfl (fun u25 H locs hu25 hP hD hK hS => ?_)
            have hP : va_P D classes [(mo, .inr (6, [.int (0:Int32), .int x, .int (1:Int32), .int (0:Int32), .ref wa, .long hi, .long lo, .long lh, .long ll, .ref sa, .ref ma])), (wa, .inl (cW, 12, .inr (.inl u25)))] H := hP
            have hD : va_D A [(mo, .inr (6, [.int (0:Int32), .int x, .int (1:Int32), .int (0:Int32), .ref wa, .long hi, .long lo, .long lh, .long ll, .ref sa, .ref ma])), (wa, .inl (cW, 12, .inr (.inl u25)))] := hD
            have hK : va_K D classes [(cW, .long)] s := hK
            refine W.eq (g2 := F0 m 63 ls []) rfl ?_
            refine lv_aload_n hx hb d_PatternBookModel_put_63 rfl (lv_at hl 0 rfl) ?_
            refine va_get (D := D) (ci := 6) (v := .ref wa) (C := R_PatternBookModel) (T := F_PatternBookModel) (N := 11) hx hb hts i_PatternBookModel hown hK hP 0 rfl rfl 4 (by decide) (hts _ k_263) (fun _ h9 => h9) rfl d_PatternBookModel_put_64 ?_
            refine lv_iconst (v := 2) hx hb d_PatternBookModel_put_67 (by decide) ?_
            refine lv_iload_n hx hb d_PatternBookModel_put_68 rfl (lv_at hl 1 rfl) ?_
            refine lv_iconst (v := 1) hx hb d_PatternBookModel_put_69 (by decide) ?_
            refine lv_icmp_ne (tgt := 77) hx hb d_PatternBookModel_put_70 (by decide) (fun c_26 => ?_) (fun c_26 => ?_)
            · refine lv_lload hx hb d_PatternBookModel_put_77 (lv_at hl 4 rfl) ?_
              refine lv_ldc2 (v := 4294967295) hx hb hown (hts _ k_264) d_PatternBookModel_put_79 ?_
              refine lv_land hx hb d_PatternBookModel_put_82 ?_
              refine va_last hx hb hK hP hD hS 1 0 rfl rfl (idx_in rfl) d_PatternBookModel_put_83 (fun H locs hP hD hS => ?_)
              have hP : va_P D classes [(mo, .inr (6, [.int (0:Int32), .int x, .int (1:Int32), .int (0:Int32), .ref wa, .long hi, .long lo, .long lh, .long ll, .ref sa, .ref ma])), (wa, .inl (cW, 12, .inr (.inl (vp_updL u25 2 (v &&& (4294967295:Int64))))))] H := hP
              have hD : va_D A [(mo, .inr (6, [.int (0:Int32), .int x, .int (1:Int32), .int (0:Int32), .ref wa, .long hi, .long lo, .long lh, .long ll, .ref sa, .ref ma])), (wa, .inl (cW, 12, .inr (.inl (vp_updL u25 2 (v &&& (4294967295:Int64))))))] := hD
              refine lv_aload_n hx hb d_PatternBookModel_put_84 rfl (lv_at hl 0 rfl) ?_
              refine va_get (D := D) (ci := 6) (v := .ref wa) (C := R_PatternBookModel) (T := F_PatternBookModel) (N := 11) hx hb hts i_PatternBookModel hown hK hP 0 rfl rfl 4 (by decide) (hts _ k_263) (fun _ h9 => h9) rfl d_PatternBookModel_put_85 ?_
              refine lv_iconst (v := 3) hx hb d_PatternBookModel_put_88 (by decide) ?_
              refine lv_iload_n hx hb d_PatternBookModel_put_89 rfl (lv_at hl 1 rfl) ?_
              refine lv_iconst (v := 1) hx hb d_PatternBookModel_put_90 (by decide) ?_
              refine lv_icmp_ne (tgt := 98) hx hb d_PatternBookModel_put_91 (by decide) (fun c_27 => ?_) (fun c_27 => ?_)
              · refine lv_lload hx hb d_PatternBookModel_put_98 (lv_at hl 4 rfl) ?_
                refine lv_bipush (v := 32) hx hb d_PatternBookModel_put_100 (by decide) ?_
                refine lv_lushr (v := lushr_ v (32:Int32)) hx hb d_PatternBookModel_put_102 rfl ?_
                refine va_last hx hb hK hP hD hS 1 0 rfl rfl (idx_in rfl) d_PatternBookModel_put_103 (fun H locs hP hD hS => ?_)
                have hP : va_P D classes [(mo, .inr (6, [.int (0:Int32), .int x, .int (1:Int32), .int (0:Int32), .ref wa, .long hi, .long lo, .long lh, .long ll, .ref sa, .ref ma])), (wa, .inl (cW, 12, .inr (.inl (vp_updL (vp_updL u25 2 (v &&& (4294967295:Int64))) 3 (lushr_ v (32:Int32))))))] H := hP
                have hD : va_D A [(mo, .inr (6, [.int (0:Int32), .int x, .int (1:Int32), .int (0:Int32), .ref wa, .long hi, .long lo, .long lh, .long ll, .ref sa, .ref ma])), (wa, .inl (cW, 12, .inr (.inl (vp_updL (vp_updL u25 2 (v &&& (4294967295:Int64))) 3 (lushr_ v (32:Int32))))))] := hD
                refine lv_iconst (v := 1) hx hb d_PatternBookModel_put_104 (by decide) ?_
                refine W.zret hx hb hr rfl ?_ hS.2.2 d_PatternBookModel_put_105
                exact uEnd (true, (0:Int32), x, (1:Int32), (0:Int32), (vp_updL (vp_updL u25 2 (v &&& (4294967295:Int64))) 3 (lushr_ v (32:Int32)))) (hP.sub [0, 1] rfl) (hK.sub [0] rfl) (hD.sub [0, 1] (by decide) rfl) hS (by have eu25 := hu25.symm; subst eu25; exact ((if_neg c_1).trans ((if_pos c_2).trans ((if_neg c_3).trans ((if_neg c_23).trans ((if_neg c_24).trans ((if_neg c_26).trans ((if_neg c_27).trans (rfl)))))))).symm) rfl
              · refine lv_lconst (v := 0) hx hb d_PatternBookModel_put_94 (by decide) ?_
                refine lv_goto (tgt := 103) hx hb d_PatternBookModel_put_95 (by decide) ?_
                refine va_last hx hb hK hP hD hS 1 0 rfl rfl (idx_in rfl) d_PatternBookModel_put_103 (fun H locs hP hD hS => ?_)
                have hP : va_P D classes [(mo, .inr (6, [.int (0:Int32), .int x, .int (1:Int32), .int (0:Int32), .ref wa, .long hi, .long lo, .long lh, .long ll, .ref sa, .ref ma])), (wa, .inl (cW, 12, .inr (.inl (vp_updL (vp_updL u25 2 (v &&& (4294967295:Int64))) 3 (0:Int64)))))] H := hP
                have hD : va_D A [(mo, .inr (6, [.int (0:Int32), .int x, .int (1:Int32), .int (0:Int32), .ref wa, .long hi, .long lo, .long lh, .long ll, .ref sa, .ref ma])), (wa, .inl (cW, 12, .inr (.inl (vp_updL (vp_updL u25 2 (v &&& (4294967295:Int64))) 3 (0:Int64)))))] := hD
                refine lv_iconst (v := 1) hx hb d_PatternBookModel_put_104 (by decide) ?_
                refine W.zret hx hb hr rfl ?_ hS.2.2 d_PatternBookModel_put_105
                exact uEnd (true, (0:Int32), x, (1:Int32), (0:Int32), (vp_updL (vp_updL u25 2 (v &&& (4294967295:Int64))) 3 (0:Int64))) (hP.sub [0, 1] rfl) (hK.sub [0] rfl) (hD.sub [0, 1] (by decide) rfl) hS (by have eu25 := hu25.symm; subst eu25; exact ((if_neg c_1).trans ((if_pos c_2).trans ((if_neg c_3).trans ((if_neg c_23).trans ((if_neg c_24).trans ((if_neg c_26).trans ((if_pos c_27).trans (rfl)))))))).symm) rfl
            · refine lv_lconst (v := 0) hx hb d_PatternBookModel_put_73 (by decide) ?_
              refine lv_goto (tgt := 83) hx hb d_PatternBookModel_put_74 (by decide) ?_
              refine va_last hx hb hK hP hD hS 1 0 rfl rfl (idx_in rfl) d_PatternBookModel_put_83 (fun H locs hP hD hS => ?_)
              have hP : va_P D classes [(mo, .inr (6, [.int (0:Int32), .int x, .int (1:Int32), .int (0:Int32), .ref wa, .long hi, .long lo, .long lh, .long ll, .ref sa, .ref ma])), (wa, .inl (cW, 12, .inr (.inl (vp_updL u25 2 (0:Int64)))))] H := hP
              have hD : va_D A [(mo, .inr (6, [.int (0:Int32), .int x, .int (1:Int32), .int (0:Int32), .ref wa, .long hi, .long lo, .long lh, .long ll, .ref sa, .ref ma])), (wa, .inl (cW, 12, .inr (.inl (vp_updL u25 2 (0:Int64)))))] := hD
              refine lv_aload_n hx hb d_PatternBookModel_put_84 rfl (lv_at hl 0 rfl) ?_
              refine va_get (D := D) (ci := 6) (v := .ref wa) (C := R_PatternBookModel) (T := F_PatternBookModel) (N := 11) hx hb hts i_PatternBookModel hown hK hP 0 rfl rfl 4 (by decide) (hts _ k_263) (fun _ h9 => h9) rfl d_PatternBookModel_put_85 ?_
              refine lv_iconst (v := 3) hx hb d_PatternBookModel_put_88 (by decide) ?_
              refine lv_iload_n hx hb d_PatternBookModel_put_89 rfl (lv_at hl 1 rfl) ?_
              refine lv_iconst (v := 1) hx hb d_PatternBookModel_put_90 (by decide) ?_
              refine lv_icmp_ne (tgt := 98) hx hb d_PatternBookModel_put_91 (by decide) (fun c_28 => ?_) (fun c_28 => ?_)
              · refine lv_lload hx hb d_PatternBookModel_put_98 (lv_at hl 4 rfl) ?_
                refine lv_bipush (v := 32) hx hb d_PatternBookModel_put_100 (by decide) ?_
                refine lv_lushr (v := lushr_ v (32:Int32)) hx hb d_PatternBookModel_put_102 rfl ?_
                refine va_last hx hb hK hP hD hS 1 0 rfl rfl (idx_in rfl) d_PatternBookModel_put_103 (fun H locs hP hD hS => ?_)
                have hP : va_P D classes [(mo, .inr (6, [.int (0:Int32), .int x, .int (1:Int32), .int (0:Int32), .ref wa, .long hi, .long lo, .long lh, .long ll, .ref sa, .ref ma])), (wa, .inl (cW, 12, .inr (.inl (vp_updL (vp_updL u25 2 (0:Int64)) 3 (lushr_ v (32:Int32))))))] H := hP
                have hD : va_D A [(mo, .inr (6, [.int (0:Int32), .int x, .int (1:Int32), .int (0:Int32), .ref wa, .long hi, .long lo, .long lh, .long ll, .ref sa, .ref ma])), (wa, .inl (cW, 12, .inr (.inl (vp_updL (vp_updL u25 2 (0:Int64)) 3 (lushr_ v (32:Int32))))))] := hD
                refine lv_iconst (v := 1) hx hb d_PatternBookModel_put_104 (by decide) ?_
                refine W.zret hx hb hr rfl ?_ hS.2.2 d_PatternBookModel_put_105
                exact uEnd (true, (0:Int32), x, (1:Int32), (0:Int32), (vp_updL (vp_updL u25 2 (0:Int64)) 3 (lushr_ v (32:Int32)))) (hP.sub [0, 1] rfl) (hK.sub [0] rfl) (hD.sub [0, 1] (by decide) rfl) hS (by have eu25 := hu25.symm; subst eu25; exact ((if_neg c_1).trans ((if_pos c_2).trans ((if_neg c_3).trans ((if_neg c_23).trans ((if_neg c_24).trans ((if_pos c_26).trans ((if_neg c_28).trans (rfl)))))))).symm) rfl
              · refine lv_lconst (v := 0) hx hb d_PatternBookModel_put_94 (by decide) ?_
                refine lv_goto (tgt := 103) hx hb d_PatternBookModel_put_95 (by decide) ?_
                refine va_last hx hb hK hP hD hS 1 0 rfl rfl (idx_in rfl) d_PatternBookModel_put_103 (fun H locs hP hD hS => ?_)
                have hP : va_P D classes [(mo, .inr (6, [.int (0:Int32), .int x, .int (1:Int32), .int (0:Int32), .ref wa, .long hi, .long lo, .long lh, .long ll, .ref sa, .ref ma])), (wa, .inl (cW, 12, .inr (.inl (vp_updL (vp_updL u25 2 (0:Int64)) 3 (0:Int64)))))] H := hP
                have hD : va_D A [(mo, .inr (6, [.int (0:Int32), .int x, .int (1:Int32), .int (0:Int32), .ref wa, .long hi, .long lo, .long lh, .long ll, .ref sa, .ref ma])), (wa, .inl (cW, 12, .inr (.inl (vp_updL (vp_updL u25 2 (0:Int64)) 3 (0:Int64)))))] := hD
                refine lv_iconst (v := 1) hx hb d_PatternBookModel_put_104 (by decide) ?_
                refine W.zret hx hb hr rfl ?_ hS.2.2 d_PatternBookModel_put_105
                exact uEnd (true, (0:Int32), x, (1:Int32), (0:Int32), (vp_updL (vp_updL u25 2 (0:Int64)) 3 (0:Int64))) (hP.sub [0, 1] rfl) (hK.sub [0] rfl) (hD.sub [0, 1] (by decide) rfl) hS (by have eu25 := hu25.symm; subst eu25; exact ((if_neg c_1).trans ((if_pos c_2).trans ((if_neg c_3).trans ((if_neg c_23).trans ((if_neg c_24).trans ((if_pos c_26).trans ((if_pos c_28).trans (rfl)))))))).symm) rfl
          · refine lv_lconst (v := 0) hx hb d_PatternBookModel_put_54 (by decide) ?_
            refine lv_goto (tgt := 60) hx hb d_PatternBookModel_put_55 (by decide) ?_
            refine uCall (WR := []) (RT := []) (va_runV (As := [.int (0:Int32), .long (0:Int64)]) (rest := []) ⟨hx, hb, hml, hown, hts⟩ (c_M_be0 l D mo wa sa ma cW H.size (0:Int64) (0:Int32) x (1:Int32) (0:Int32) hi lo lh ll w) ⟨uCB 2 hts k_265 k_257 k_266 (by decide +kernel) rfl rfl ⟨Nat.le_of_ble_eq_true rfl, Nat.le_of_ble_eq_true rfl⟩, hts _ k_267, hts _ k_268⟩ (uPreV (ci := 6) (q0 := 0) hK hP hD hN [0, 1] rfl (by decide) [0] rfl rfl rfl) rfl rfl hl.1 rfl (lv_room (Nat.le_of_ble_eq_true rfl)) d_PatternBookModel_put_60 ⟨(Nat.le_of_ble_eq_true rfl), (Nat.le_of_ble_eq_true rfl)⟩) hK hP hD hS hA [0, 1] [] rfl rfl (by decide) (by decide) [] rfl (fun u29 H locs hu29 hP hD hK hS => ?_)
            have hP : va_P D classes [(mo, .inr (6, [.int (0:Int32), .int x, .int (1:Int32), .int (0:Int32), .ref wa, .long hi, .long lo, .long lh, .long ll, .ref sa, .ref ma])), (wa, .inl (cW, 12, .inr (.inl u29)))] H := hP
            have hD : va_D A [(mo, .inr (6, [.int (0:Int32), .int x, .int (1:Int32), .int (0:Int32), .ref wa, .long hi, .long lo, .long lh, .long ll, .ref sa, .ref ma])), (wa, .inl (cW, 12, .inr (.inl u29)))] := hD
            have hK : va_K D classes [(cW, .long)] s := hK
            refine W.eq (g2 := F0 m 63 ls []) rfl ?_
            refine lv_aload_n hx hb d_PatternBookModel_put_63 rfl (lv_at hl 0 rfl) ?_
            refine va_get (D := D) (ci := 6) (v := .ref wa) (C := R_PatternBookModel) (T := F_PatternBookModel) (N := 11) hx hb hts i_PatternBookModel hown hK hP 0 rfl rfl 4 (by decide) (hts _ k_263) (fun _ h9 => h9) rfl d_PatternBookModel_put_64 ?_
            refine lv_iconst (v := 2) hx hb d_PatternBookModel_put_67 (by decide) ?_
            refine lv_iload_n hx hb d_PatternBookModel_put_68 rfl (lv_at hl 1 rfl) ?_
            refine lv_iconst (v := 1) hx hb d_PatternBookModel_put_69 (by decide) ?_
            refine lv_icmp_ne (tgt := 77) hx hb d_PatternBookModel_put_70 (by decide) (fun c_30 => ?_) (fun c_30 => ?_)
            · refine lv_lload hx hb d_PatternBookModel_put_77 (lv_at hl 4 rfl) ?_
              refine lv_ldc2 (v := 4294967295) hx hb hown (hts _ k_264) d_PatternBookModel_put_79 ?_
              refine lv_land hx hb d_PatternBookModel_put_82 ?_
              refine va_last hx hb hK hP hD hS 1 0 rfl rfl (idx_in rfl) d_PatternBookModel_put_83 (fun H locs hP hD hS => ?_)
              have hP : va_P D classes [(mo, .inr (6, [.int (0:Int32), .int x, .int (1:Int32), .int (0:Int32), .ref wa, .long hi, .long lo, .long lh, .long ll, .ref sa, .ref ma])), (wa, .inl (cW, 12, .inr (.inl (vp_updL u29 2 (v &&& (4294967295:Int64))))))] H := hP
              have hD : va_D A [(mo, .inr (6, [.int (0:Int32), .int x, .int (1:Int32), .int (0:Int32), .ref wa, .long hi, .long lo, .long lh, .long ll, .ref sa, .ref ma])), (wa, .inl (cW, 12, .inr (.inl (vp_updL u29 2 (v &&& (4294967295:Int64))))))] := hD
              refine lv_aload_n hx hb d_PatternBookModel_put_84 rfl (lv_at hl 0 rfl) ?_
              refine va_get (D := D) (ci := 6) (v := .ref wa) (C := R_PatternBookModel) (T := F_PatternBookModel) (N := 11) hx hb hts i_PatternBookModel hown hK hP 0 rfl rfl 4 (by decide) (hts _ k_263) (fun _ h9 => h9) rfl d_PatternBookModel_put_85 ?_
              refine lv_iconst (v := 3) hx hb d_PatternBookModel_put_88 (by decide) ?_
              refine lv_iload_n hx hb d_PatternBookModel_put_89 rfl (lv_at hl 1 rfl) ?_
              refine lv_iconst (v := 1) hx hb d_PatternBookModel_put_90 (by decide) ?_
              refine lv_icmp_ne (tgt := 98) hx hb d_PatternBookModel_put_91 (by decide) (fun c_31 => ?_) (fun c_31 => ?_)
              · refine lv_lload hx hb d_PatternBookModel_put_98 (lv_at hl 4 rfl) ?_
                refine lv_bipush (v := 32) hx hb d_PatternBookModel_put_100 (by decide) ?_
                refine lv_lushr (v := lushr_ v (32:Int32)) hx hb d_PatternBookModel_put_102 rfl ?_
                refine va_last hx hb hK hP hD hS 1 0 rfl rfl (idx_in rfl) d_PatternBookModel_put_103 (fun H locs hP hD hS => ?_)
                have hP : va_P D classes [(mo, .inr (6, [.int (0:Int32), .int x, .int (1:Int32), .int (0:Int32), .ref wa, .long hi, .long lo, .long lh, .long ll, .ref sa, .ref ma])), (wa, .inl (cW, 12, .inr (.inl (vp_updL (vp_updL u29 2 (v &&& (4294967295:Int64))) 3 (lushr_ v (32:Int32))))))] H := hP
                have hD : va_D A [(mo, .inr (6, [.int (0:Int32), .int x, .int (1:Int32), .int (0:Int32), .ref wa, .long hi, .long lo, .long lh, .long ll, .ref sa, .ref ma])), (wa, .inl (cW, 12, .inr (.inl (vp_updL (vp_updL u29 2 (v &&& (4294967295:Int64))) 3 (lushr_ v (32:Int32))))))] := hD
                refine lv_iconst (v := 1) hx hb d_PatternBookModel_put_104 (by decide) ?_
                refine W.zret hx hb hr rfl ?_ hS.2.2 d_PatternBookModel_put_105
                exact uEnd (true, (0:Int32), x, (1:Int32), (0:Int32), (vp_updL (vp_updL u29 2 (v &&& (4294967295:Int64))) 3 (lushr_ v (32:Int32)))) (hP.sub [0, 1] rfl) (hK.sub [0] rfl) (hD.sub [0, 1] (by decide) rfl) hS (by have eu29 := hu29.symm; subst eu29; exact ((if_neg c_1).trans ((if_pos c_2).trans ((if_neg c_3).trans ((if_neg c_23).trans ((if_pos c_24).trans ((if_neg c_30).trans ((if_neg c_31).trans (rfl)))))))).symm) rfl
              · refine lv_lconst (v := 0) hx hb d_PatternBookModel_put_94 (by decide) ?_
                refine lv_goto (tgt := 103) hx hb d_PatternBookModel_put_95 (by decide) ?_
                refine va_last hx hb hK hP hD hS 1 0 rfl rfl (idx_in rfl) d_PatternBookModel_put_103 (fun H locs hP hD hS => ?_)
                have hP : va_P D classes [(mo, .inr (6, [.int (0:Int32), .int x, .int (1:Int32), .int (0:Int32), .ref wa, .long hi, .long lo, .long lh, .long ll, .ref sa, .ref ma])), (wa, .inl (cW, 12, .inr (.inl (vp_updL (vp_updL u29 2 (v &&& (4294967295:Int64))) 3 (0:Int64)))))] H := hP
                have hD : va_D A [(mo, .inr (6, [.int (0:Int32), .int x, .int (1:Int32), .int (0:Int32), .ref wa, .long hi, .long lo, .long lh, .long ll, .ref sa, .ref ma])), (wa, .inl (cW, 12, .inr (.inl (vp_updL (vp_updL u29 2 (v &&& (4294967295:Int64))) 3 (0:Int64)))))] := hD
                refine lv_iconst (v := 1) hx hb d_PatternBookModel_put_104 (by decide) ?_
                refine W.zret hx hb hr rfl ?_ hS.2.2 d_PatternBookModel_put_105
                exact uEnd (true, (0:Int32), x, (1:Int32), (0:Int32), (vp_updL (vp_updL u29 2 (v &&& (4294967295:Int64))) 3 (0:Int64))) (hP.sub [0, 1] rfl) (hK.sub [0] rfl) (hD.sub [0, 1] (by decide) rfl) hS (by have eu29 := hu29.symm; subst eu29; exact ((if_neg c_1).trans ((if_pos c_2).trans ((if_neg c_3).trans ((if_neg c_23).trans ((if_pos c_24).trans ((if_neg c_30).trans ((if_pos c_31).trans (rfl)))))))).symm) rfl
            · refine lv_lconst (v := 0) hx hb d_PatternBookModel_put_73 (by decide) ?_
              refine lv_goto (tgt := 83) hx hb d_PatternBookModel_put_74 (by decide) ?_
              refine va_last hx hb hK hP hD hS 1 0 rfl rfl (idx_in rfl) d_PatternBookModel_put_83 (fun H locs hP hD hS => ?_)
              have hP : va_P D classes [(mo, .inr (6, [.int (0:Int32), .int x, .int (1:Int32), .int (0:Int32), .ref wa, .long hi, .long lo, .long lh, .long ll, .ref sa, .ref ma])), (wa, .inl (cW, 12, .inr (.inl (vp_updL u29 2 (0:Int64)))))] H := hP
              have hD : va_D A [(mo, .inr (6, [.int (0:Int32), .int x, .int (1:Int32), .int (0:Int32), .ref wa, .long hi, .long lo, .long lh, .long ll, .ref sa, .ref ma])), (wa, .inl (cW, 12, .inr (.inl (vp_updL u29 2 (0:Int64)))))] := hD
              refine lv_aload_n hx hb d_PatternBookModel_put_84 rfl (lv_at hl 0 rfl) ?_
              refine va_get (D := D) (ci := 6) (v := .ref wa) (C := R_PatternBookModel) (T := F_PatternBookModel) (N := 11) hx hb hts i_PatternBookModel hown hK hP 0 rfl rfl 4 (by decide) (hts _ k_263) (fun _ h9 => h9) rfl d_PatternBookModel_put_85 ?_
              refine lv_iconst (v := 3) hx hb d_PatternBookModel_put_88 (by decide) ?_
              refine lv_iload_n hx hb d_PatternBookModel_put_89 rfl (lv_at hl 1 rfl) ?_
              refine lv_iconst (v := 1) hx hb d_PatternBookModel_put_90 (by decide) ?_
              refine lv_icmp_ne (tgt := 98) hx hb d_PatternBookModel_put_91 (by decide) (fun c_32 => ?_) (fun c_32 => ?_)
              · refine lv_lload hx hb d_PatternBookModel_put_98 (lv_at hl 4 rfl) ?_
                refine lv_bipush (v := 32) hx hb d_PatternBookModel_put_100 (by decide) ?_
                refine lv_lushr (v := lushr_ v (32:Int32)) hx hb d_PatternBookModel_put_102 rfl ?_
                refine va_last hx hb hK hP hD hS 1 0 rfl rfl (idx_in rfl) d_PatternBookModel_put_103 (fun H locs hP hD hS => ?_)
                have hP : va_P D classes [(mo, .inr (6, [.int (0:Int32), .int x, .int (1:Int32), .int (0:Int32), .ref wa, .long hi, .long lo, .long lh, .long ll, .ref sa, .ref ma])), (wa, .inl (cW, 12, .inr (.inl (vp_updL (vp_updL u29 2 (0:Int64)) 3 (lushr_ v (32:Int32))))))] H := hP
                have hD : va_D A [(mo, .inr (6, [.int (0:Int32), .int x, .int (1:Int32), .int (0:Int32), .ref wa, .long hi, .long lo, .long lh, .long ll, .ref sa, .ref ma])), (wa, .inl (cW, 12, .inr (.inl (vp_updL (vp_updL u29 2 (0:Int64)) 3 (lushr_ v (32:Int32))))))] := hD
                refine lv_iconst (v := 1) hx hb d_PatternBookModel_put_104 (by decide) ?_
                refine W.zret hx hb hr rfl ?_ hS.2.2 d_PatternBookModel_put_105
                exact uEnd (true, (0:Int32), x, (1:Int32), (0:Int32), (vp_updL (vp_updL u29 2 (0:Int64)) 3 (lushr_ v (32:Int32)))) (hP.sub [0, 1] rfl) (hK.sub [0] rfl) (hD.sub [0, 1] (by decide) rfl) hS (by have eu29 := hu29.symm; subst eu29; exact ((if_neg c_1).trans ((if_pos c_2).trans ((if_neg c_3).trans ((if_neg c_23).trans ((if_pos c_24).trans ((if_pos c_30).trans ((if_neg c_32).trans (rfl)))))))).symm) rfl
              · refine lv_lconst (v := 0) hx hb d_PatternBookModel_put_94 (by decide) ?_
                refine lv_goto (tgt := 103) hx hb d_PatternBookModel_put_95 (by decide) ?_
                refine va_last hx hb hK hP hD hS 1 0 rfl rfl (idx_in rfl) d_PatternBookModel_put_103 (fun H locs hP hD hS => ?_)
                have hP : va_P D classes [(mo, .inr (6, [.int (0:Int32), .int x, .int (1:Int32), .int (0:Int32), .ref wa, .long hi, .long lo, .long lh, .long ll, .ref sa, .ref ma])), (wa, .inl (cW, 12, .inr (.inl (vp_updL (vp_updL u29 2 (0:Int64)) 3 (0:Int64)))))] H := hP
                have hD : va_D A [(mo, .inr (6, [.int (0:Int32), .int x, .int (1:Int32), .int (0:Int32), .ref wa, .long hi, .long lo, .long lh, .long ll, .ref sa, .ref ma])), (wa, .inl (cW, 12, .inr (.inl (vp_updL (vp_updL u29 2 (0:Int64)) 3 (0:Int64)))))] := hD
                refine lv_iconst (v := 1) hx hb d_PatternBookModel_put_104 (by decide) ?_
                refine W.zret hx hb hr rfl ?_ hS.2.2 d_PatternBookModel_put_105
                exact uEnd (true, (0:Int32), x, (1:Int32), (0:Int32), (vp_updL (vp_updL u29 2 (0:Int64)) 3 (0:Int64))) (hP.sub [0, 1] rfl) (hK.sub [0] rfl) (hD.sub [0, 1] (by decide) rfl) hS (by have eu29 := hu29.symm; subst eu29; exact ((if_neg c_1).trans ((if_pos c_2).trans ((if_neg c_3).trans ((if_neg c_23).trans ((if_pos c_24).trans ((if_pos c_30).trans ((if_pos c_32).trans (rfl)))))))).symm) rfl
        · refine lv_iload_n hx hb d_PatternBookModel_put_39 rfl (lv_at hl 3 rfl) ?_
          refine lv_goto (tgt := 44) hx hb d_PatternBookModel_put_40 (by decide) ?_
          refine va_put (D := D) (ci := 6) (v := .int z) (ty := .int) (C := R_PatternBookModel) (T := F_PatternBookModel) (N := 11) hx hb hts i_PatternBookModel t_PatternBookModel t_PatternBookModel_ok n_PatternBookModel hown hK hP hD hS 0 rfl rfl 3 (by decide) (hts _ k_313) (fun _ h9 => h9) rfl (by decide +kernel) rfl rfl (Nat.le_of_ble_eq_true rfl) d_PatternBookModel_put_44 (fun H locs hP hD hS => ?_)
          have hP : va_P D classes [(mo, .inr (6, [.int (0:Int32), .int x, .int (1:Int32), .int z, .ref wa, .long hi, .long lo, .long lh, .long ll, .ref sa, .ref ma])), (wa, .inl (cW, 12, .inr (.inl w)))] H := hP
          have hD : va_D A [(mo, .inr (6, [.int (0:Int32), .int x, .int (1:Int32), .int z, .ref wa, .long hi, .long lo, .long lh, .long ll, .ref sa, .ref ma])), (wa, .inl (cW, 12, .inr (.inl w)))] := hD
          refine lv_aload_n hx hb d_PatternBookModel_put_47 rfl (lv_at hl 0 rfl) ?_
          refine lv_iconst (v := 0) hx hb d_PatternBookModel_put_48 (by decide) ?_
          refine lv_iload_n hx hb d_PatternBookModel_put_49 rfl (lv_at hl 1 rfl) ?_
          refine lv_iconst (v := 1) hx hb d_PatternBookModel_put_50 (by decide) ?_
          refine lv_icmp_ne (tgt := 58) hx hb d_PatternBookModel_put_51 (by decide) (fun c_33 => ?_) (fun c_33 => ?_)
          · refine lv_lload hx hb d_PatternBookModel_put_58 (lv_at hl 5 rfl) ?_
            refine uCall (WR := []) (RT := []) (va_runV (As := [.int (0:Int32), .long t]) (rest := []) ⟨hx, hb, hml, hown, hts⟩ (c_M_be0 l D mo wa sa ma cW H.size t (0:Int32) x (1:Int32) z hi lo lh ll w) ⟨uCB 2 hts k_265 k_257 k_266 (by decide +kernel) rfl rfl ⟨Nat.le_of_ble_eq_true rfl, Nat.le_of_ble_eq_true rfl⟩, hts _ k_267, hts _ k_268⟩ (uPreV (ci := 6) (q0 := 0) hK hP hD hN [0, 1] rfl (by decide) [0] rfl rfl rfl) rfl rfl hl.1 rfl (lv_room (Nat.le_of_ble_eq_true rfl)) d_PatternBookModel_put_60 ⟨(Nat.le_of_ble_eq_true rfl), (Nat.le_of_ble_eq_true rfl)⟩) hK hP hD hS hA [0, 1] [] rfl rfl (by decide) (by decide) [] rfl (fun u34 H locs hu34 hP hD hK hS => ?_)
            have hP : va_P D classes [(mo, .inr (6, [.int (0:Int32), .int x, .int (1:Int32), .int z, .ref wa, .long hi, .long lo, .long lh, .long ll, .ref sa, .ref ma])), (wa, .inl (cW, 12, .inr (.inl u34)))] H := hP
            have hD : va_D A [(mo, .inr (6, [.int (0:Int32), .int x, .int (1:Int32), .int z, .ref wa, .long hi, .long lo, .long lh, .long ll, .ref sa, .ref ma])), (wa, .inl (cW, 12, .inr (.inl u34)))] := hD
            have hK : va_K D classes [(cW, .long)] s := hK
            refine W.eq (g2 := F0 m 63 ls []) rfl ?_
            refine lv_aload_n hx hb d_PatternBookModel_put_63 rfl (lv_at hl 0 rfl) ?_
            refine va_get (D := D) (ci := 6) (v := .ref wa) (C := R_PatternBookModel) (T := F_PatternBookModel) (N := 11) hx hb hts i_PatternBookModel hown hK hP 0 rfl rfl 4 (by decide) (hts _ k_263) (fun _ h9 => h9) rfl d_PatternBookModel_put_64 ?_
            refine lv_iconst (v := 2) hx hb d_PatternBookModel_put_67 (by decide) ?_
            refine lv_iload_n hx hb d_PatternBookModel_put_68 rfl (lv_at hl 1 rfl) ?_
            refine lv_iconst (v := 1) hx hb d_PatternBookModel_put_69 (by decide) ?_
            refine lv_icmp_ne (tgt := 77) hx hb d_PatternBookModel_put_70 (by decide) (fun c_35 => ?_) (fun c_35 => ?_)
            · refine lv_lload hx hb d_PatternBookModel_put_77 (lv_at hl 4 rfl) ?_
              refine lv_ldc2 (v := 4294967295) hx hb hown (hts _ k_264) d_PatternBookModel_put_79 ?_
              refine lv_land hx hb d_PatternBookModel_put_82 ?_
              refine va_last hx hb hK hP hD hS 1 0 rfl rfl (idx_in rfl) d_PatternBookModel_put_83 (fun H locs hP hD hS => ?_)
              have hP : va_P D classes [(mo, .inr (6, [.int (0:Int32), .int x, .int (1:Int32), .int z, .ref wa, .long hi, .long lo, .long lh, .long ll, .ref sa, .ref ma])), (wa, .inl (cW, 12, .inr (.inl (vp_updL u34 2 (v &&& (4294967295:Int64))))))] H := hP
              have hD : va_D A [(mo, .inr (6, [.int (0:Int32), .int x, .int (1:Int32), .int z, .ref wa, .long hi, .long lo, .long lh, .long ll, .ref sa, .ref ma])), (wa, .inl (cW, 12, .inr (.inl (vp_updL u34 2 (v &&& (4294967295:Int64))))))] := hD
              refine lv_aload_n hx hb d_PatternBookModel_put_84 rfl (lv_at hl 0 rfl) ?_
              refine va_get (D := D) (ci := 6) (v := .ref wa) (C := R_PatternBookModel) (T := F_PatternBookModel) (N := 11) hx hb hts i_PatternBookModel hown hK hP 0 rfl rfl 4 (by decide) (hts _ k_263) (fun _ h9 => h9) rfl d_PatternBookModel_put_85 ?_
              refine lv_iconst (v := 3) hx hb d_PatternBookModel_put_88 (by decide) ?_
              refine lv_iload_n hx hb d_PatternBookModel_put_89 rfl (lv_at hl 1 rfl) ?_
              refine lv_iconst (v := 1) hx hb d_PatternBookModel_put_90 (by decide) ?_
              refine lv_icmp_ne (tgt := 98) hx hb d_PatternBookModel_put_91 (by decide) (fun c_36 => ?_) (fun c_36 => ?_)
              · refine lv_lload hx hb d_PatternBookModel_put_98 (lv_at hl 4 rfl) ?_
                refine lv_bipush (v := 32) hx hb d_PatternBookModel_put_100 (by decide) ?_
                refine lv_lushr (v := lushr_ v (32:Int32)) hx hb d_PatternBookModel_put_102 rfl ?_
                refine va_last hx hb hK hP hD hS 1 0 rfl rfl (idx_in rfl) d_PatternBookModel_put_103 (fun H locs hP hD hS => ?_)
                have hP : va_P D classes [(mo, .inr (6, [.int (0:Int32), .int x, .int (1:Int32), .int z, .ref wa, .long hi, .long lo, .long lh, .long ll, .ref sa, .ref ma])), (wa, .inl (cW, 12, .inr (.inl (vp_updL (vp_updL u34 2 (v &&& (4294967295:Int64))) 3 (lushr_ v (32:Int32))))))] H := hP
                have hD : va_D A [(mo, .inr (6, [.int (0:Int32), .int x, .int (1:Int32), .int z, .ref wa, .long hi, .long lo, .long lh, .long ll, .ref sa, .ref ma])), (wa, .inl (cW, 12, .inr (.inl (vp_updL (vp_updL u34 2 (v &&& (4294967295:Int64))) 3 (lushr_ v (32:Int32))))))] := hD
                refine lv_iconst (v := 1) hx hb d_PatternBookModel_put_104 (by decide) ?_
                refine W.zret hx hb hr rfl ?_ hS.2.2 d_PatternBookModel_put_105
                exact uEnd (true, (0:Int32), x, (1:Int32), z, (vp_updL (vp_updL u34 2 (v &&& (4294967295:Int64))) 3 (lushr_ v (32:Int32)))) (hP.sub [0, 1] rfl) (hK.sub [0] rfl) (hD.sub [0, 1] (by decide) rfl) hS (by have eu34 := hu34.symm; subst eu34; exact ((if_neg c_1).trans ((if_pos c_2).trans ((if_neg c_3).trans ((if_pos c_23).trans ((if_neg c_33).trans ((if_neg c_35).trans ((if_neg c_36).trans (rfl)))))))).symm) rfl
              · refine lv_lconst (v := 0) hx hb d_PatternBookModel_put_94 (by decide) ?_
                refine lv_goto (tgt := 103) hx hb d_PatternBookModel_put_95 (by decide) ?_
                refine va_last hx hb hK hP hD hS 1 0 rfl rfl (idx_in rfl) d_PatternBookModel_put_103 (fun H locs hP hD hS => ?_)
                have hP : va_P D classes [(mo, .inr (6, [.int (0:Int32), .int x, .int (1:Int32), .int z, .ref wa, .long hi, .long lo, .long lh, .long ll, .ref sa, .ref ma])), (wa, .inl (cW, 12, .inr (.inl (vp_updL (vp_updL u34 2 (v &&& (4294967295:Int64))) 3 (0:Int64)))))] H := hP
                have hD : va_D A [(mo, .inr (6, [.int (0:Int32), .int x, .int (1:Int32), .int z, .ref wa, .long hi, .long lo, .long lh, .long ll, .ref sa, .ref ma])), (wa, .inl (cW, 12, .inr (.inl (vp_updL (vp_updL u34 2 (v &&& (4294967295:Int64))) 3 (0:Int64)))))] := hD
                refine lv_iconst (v := 1) hx hb d_PatternBookModel_put_104 (by decide) ?_
                refine W.zret hx hb hr rfl ?_ hS.2.2 d_PatternBookModel_put_105
                exact uEnd (true, (0:Int32), x, (1:Int32), z, (vp_updL (vp_updL u34 2 (v &&& (4294967295:Int64))) 3 (0:Int64))) (hP.sub [0, 1] rfl) (hK.sub [0] rfl) (hD.sub [0, 1] (by decide) rfl) hS (by have eu34 := hu34.symm; subst eu34; exact ((if_neg c_1).trans ((if_pos c_2).trans ((if_neg c_3).trans ((if_pos c_23).trans ((if_neg c_33).trans ((if_neg c_35).trans ((if_pos c_36).trans (rfl)))))))).symm) rfl
            · refine lv_lconst (v := 0) hx hb d_PatternBookModel_put_73 (by decide) ?_
              refine lv_goto (tgt := 83) hx hb d_PatternBookModel_put_74 (by decide) ?_
              refine va_last hx hb hK hP hD hS 1 0 rfl rfl (idx_in rfl) d_PatternBookModel_put_83 (fun H locs hP hD hS => ?_)
              have hP : va_P D classes [(mo, .inr (6, [.int (0:Int32), .int x, .int (1:Int32), .int z, .ref wa, .long hi, .long lo, .long lh, .long ll, .ref sa, .ref ma])), (wa, .inl (cW, 12, .inr (.inl (vp_updL u34 2 (0:Int64)))))] H := hP
              have hD : va_D A [(mo, .inr (6, [.int (0:Int32), .int x, .int (1:Int32), .int z, .ref wa, .long hi, .long lo, .long lh, .long ll, .ref sa, .ref ma])), (wa, .inl (cW, 12, .inr (.inl (vp_updL u34 2 (0:Int64)))))] := hD
              refine lv_aload_n hx hb d_PatternBookModel_put_84 rfl (lv_at hl 0 rfl) ?_
              refine va_get (D := D) (ci := 6) (v := .ref wa) (C := R_PatternBookModel) (T := F_PatternBookModel) (N := 11) hx hb hts i_PatternBookModel hown hK hP 0 rfl rfl 4 (by decide) (hts _ k_263) (fun _ h9 => h9) rfl d_PatternBookModel_put_85 ?_
              refine lv_iconst (v := 3) hx hb d_PatternBookModel_put_88 (by decide) ?_
              refine lv_iload_n hx hb d_PatternBookModel_put_89 rfl (lv_at hl 1 rfl) ?_
              refine lv_iconst (v := 1) hx hb d_PatternBookModel_put_90 (by decide) ?_
              refine lv_icmp_ne (tgt := 98) hx hb d_PatternBookModel_put_91 (by decide) (fun c_37 => ?_) (fun c_37 => ?_)
              · refine lv_lload hx hb d_PatternBookModel_put_98 (lv_at hl 4 rfl) ?_
                refine lv_bipush (v := 32) hx hb d_PatternBookModel_put_100 (by decide) ?_
                refine lv_lushr (v := lushr_ v (32:Int32)) hx hb d_PatternBookModel_put_102 rfl ?_
                refine va_last hx hb hK hP hD hS 1 0 rfl rfl (idx_in rfl) d_PatternBookModel_put_103 (fun H locs hP hD hS => ?_)
                have hP : va_P D classes [(mo, .inr (6, [.int (0:Int32), .int x, .int (1:Int32), .int z, .ref wa, .long hi, .long lo, .long lh, .long ll, .ref sa, .ref ma])), (wa, .inl (cW, 12, .inr (.inl (vp_updL (vp_updL u34 2 (0:Int64)) 3 (lushr_ v (32:Int32))))))] H := hP
                have hD : va_D A [(mo, .inr (6, [.int (0:Int32), .int x, .int (1:Int32), .int z, .ref wa, .long hi, .long lo, .long lh, .long ll, .ref sa, .ref ma])), (wa, .inl (cW, 12, .inr (.inl (vp_updL (vp_updL u34 2 (0:Int64)) 3 (lushr_ v (32:Int32))))))] := hD
                refine lv_iconst (v := 1) hx hb d_PatternBookModel_put_104 (by decide) ?_
                refine W.zret hx hb hr rfl ?_ hS.2.2 d_PatternBookModel_put_105
                exact uEnd (true, (0:Int32), x, (1:Int32), z, (vp_updL (vp_updL u34 2 (0:Int64)) 3 (lushr_ v (32:Int32)))) (hP.sub [0, 1] rfl) (hK.sub [0] rfl) (hD.sub [0, 1] (by decide) rfl) hS (by have eu34 := hu34.symm; subst eu34; exact ((if_neg c_1).trans ((if_pos c_2).trans ((if_neg c_3).trans ((if_pos c_23).trans ((if_neg c_33).trans ((if_pos c_35).trans ((if_neg c_37).trans (rfl)))))))).symm) rfl
              · refine lv_lconst (v := 0) hx hb d_PatternBookModel_put_94 (by decide) ?_
                refine lv_goto (tgt := 103) hx hb d_PatternBookModel_put_95 (by decide) ?_
                refine va_last hx hb hK hP hD hS 1 0 rfl rfl (idx_in rfl) d_PatternBookModel_put_103 (fun H locs hP hD hS => ?_)
                have hP : va_P D classes [(mo, .inr (6, [.int (0:Int32), .int x, .int (1:Int32), .int z, .ref wa, .long hi, .long lo, .long lh, .long ll, .ref sa, .ref ma])), (wa, .inl (cW, 12, .inr (.inl (vp_updL (vp_updL u34 2 (0:Int64)) 3 (0:Int64)))))] H := hP
                have hD : va_D A [(mo, .inr (6, [.int (0:Int32), .int x, .int (1:Int32), .int z, .ref wa, .long hi, .long lo, .long lh, .long ll, .ref sa, .ref ma])), (wa, .inl (cW, 12, .inr (.inl (vp_updL (vp_updL u34 2 (0:Int64)) 3 (0:Int64)))))] := hD
                refine lv_iconst (v := 1) hx hb d_PatternBookModel_put_104 (by decide) ?_
                refine W.zret hx hb hr rfl ?_ hS.2.2 d_PatternBookModel_put_105
                exact uEnd (true, (0:Int32), x, (1:Int32), z, (vp_updL (vp_updL u34 2 (0:Int64)) 3 (0:Int64))) (hP.sub [0, 1] rfl) (hK.sub [0] rfl) (hD.sub [0, 1] (by decide) rfl) hS (by have eu34 := hu34.symm; subst eu34; exact ((if_neg c_1).trans ((if_pos c_2).trans ((if_neg c_3).trans ((if_pos c_23).trans ((if_neg c_33).trans ((if_pos c_35).trans ((if_pos c_37).trans (rfl)))))))).symm) rfl
          · refine lv_lconst (v := 0) hx hb d_PatternBookModel_put_54 (by decide) ?_
            refine lv_goto (tgt := 60) hx hb d_PatternBookModel_put_55 (by decide) ?_
            refine uCall (WR := []) (RT := []) (va_runV (As := [.int (0:Int32), .long (0:Int64)]) (rest := []) ⟨hx, hb, hml, hown, hts⟩ (c_M_be0 l D mo wa sa ma cW H.size (0:Int64) (0:Int32) x (1:Int32) z hi lo lh ll w) ⟨uCB 2 hts k_265 k_257 k_266 (by decide +kernel) rfl rfl ⟨Nat.le_of_ble_eq_true rfl, Nat.le_of_ble_eq_true rfl⟩, hts _ k_267, hts _ k_268⟩ (uPreV (ci := 6) (q0 := 0) hK hP hD hN [0, 1] rfl (by decide) [0] rfl rfl rfl) rfl rfl hl.1 rfl (lv_room (Nat.le_of_ble_eq_true rfl)) d_PatternBookModel_put_60 ⟨(Nat.le_of_ble_eq_true rfl), (Nat.le_of_ble_eq_true rfl)⟩) hK hP hD hS hA [0, 1] [] rfl rfl (by decide) (by decide) [] rfl (fun u38 H locs hu38 hP hD hK hS => ?_)
            have hP : va_P D classes [(mo, .inr (6, [.int (0:Int32), .int x, .int (1:Int32), .int z, .ref wa, .long hi, .long lo, .long lh, .long ll, .ref sa, .ref ma])), (wa, .inl (cW, 12, .inr (.inl u38)))] H := hP
            have hD : va_D A [(mo, .inr (6, [.int (0:Int32), .int x, .int (1:Int32), .int z, .ref wa, .long hi, .long lo, .long lh, .long ll, .ref sa, .ref ma])), (wa, .inl (cW, 12, .inr (.inl u38)))] := hD
            have hK : va_K D classes [(cW, .long)] s := hK
            refine W.eq (g2 := F0 m 63 ls []) rfl ?_
            refine lv_aload_n hx hb d_PatternBookModel_put_63 rfl (lv_at hl 0 rfl) ?_
            refine va_get (D := D) (ci := 6) (v := .ref wa) (C := R_PatternBookModel) (T := F_PatternBookModel) (N := 11) hx hb hts i_PatternBookModel hown hK hP 0 rfl rfl 4 (by decide) (hts _ k_263) (fun _ h9 => h9) rfl d_PatternBookModel_put_64 ?_
            refine lv_iconst (v := 2) hx hb d_PatternBookModel_put_67 (by decide) ?_
            refine lv_iload_n hx hb d_PatternBookModel_put_68 rfl (lv_at hl 1 rfl) ?_
            refine lv_iconst (v := 1) hx hb d_PatternBookModel_put_69 (by decide) ?_
            refine lv_icmp_ne (tgt := 77) hx hb d_PatternBookModel_put_70 (by decide) (fun c_39 => ?_) (fun c_39 => ?_)
            · refine lv_lload hx hb d_PatternBookModel_put_77 (lv_at hl 4 rfl) ?_
              refine lv_ldc2 (v := 4294967295) hx hb hown (hts _ k_264) d_PatternBookModel_put_79 ?_
              refine lv_land hx hb d_PatternBookModel_put_82 ?_
              refine va_last hx hb hK hP hD hS 1 0 rfl rfl (idx_in rfl) d_PatternBookModel_put_83 (fun H locs hP hD hS => ?_)
              have hP : va_P D classes [(mo, .inr (6, [.int (0:Int32), .int x, .int (1:Int32), .int z, .ref wa, .long hi, .long lo, .long lh, .long ll, .ref sa, .ref ma])), (wa, .inl (cW, 12, .inr (.inl (vp_updL u38 2 (v &&& (4294967295:Int64))))))] H := hP
              have hD : va_D A [(mo, .inr (6, [.int (0:Int32), .int x, .int (1:Int32), .int z, .ref wa, .long hi, .long lo, .long lh, .long ll, .ref sa, .ref ma])), (wa, .inl (cW, 12, .inr (.inl (vp_updL u38 2 (v &&& (4294967295:Int64))))))] := hD
              refine lv_aload_n hx hb d_PatternBookModel_put_84 rfl (lv_at hl 0 rfl) ?_
              refine va_get (D := D) (ci := 6) (v := .ref wa) (C := R_PatternBookModel) (T := F_PatternBookModel) (N := 11) hx hb hts i_PatternBookModel hown hK hP 0 rfl rfl 4 (by decide) (hts _ k_263) (fun _ h9 => h9) rfl d_PatternBookModel_put_85 ?_
              refine lv_iconst (v := 3) hx hb d_PatternBookModel_put_88 (by decide) ?_
              refine lv_iload_n hx hb d_PatternBookModel_put_89 rfl (lv_at hl 1 rfl) ?_
              refine lv_iconst (v := 1) hx hb d_PatternBookModel_put_90 (by decide) ?_
              refine lv_icmp_ne (tgt := 98) hx hb d_PatternBookModel_put_91 (by decide) (fun c_40 => ?_) (fun c_40 => ?_)
              · refine lv_lload hx hb d_PatternBookModel_put_98 (lv_at hl 4 rfl) ?_
                refine lv_bipush (v := 32) hx hb d_PatternBookModel_put_100 (by decide) ?_
                refine lv_lushr (v := lushr_ v (32:Int32)) hx hb d_PatternBookModel_put_102 rfl ?_
                refine va_last hx hb hK hP hD hS 1 0 rfl rfl (idx_in rfl) d_PatternBookModel_put_103 (fun H locs hP hD hS => ?_)
                have hP : va_P D classes [(mo, .inr (6, [.int (0:Int32), .int x, .int (1:Int32), .int z, .ref wa, .long hi, .long lo, .long lh, .long ll, .ref sa, .ref ma])), (wa, .inl (cW, 12, .inr (.inl (vp_updL (vp_updL u38 2 (v &&& (4294967295:Int64))) 3 (lushr_ v (32:Int32))))))] H := hP
                have hD : va_D A [(mo, .inr (6, [.int (0:Int32), .int x, .int (1:Int32), .int z, .ref wa, .long hi, .long lo, .long lh, .long ll, .ref sa, .ref ma])), (wa, .inl (cW, 12, .inr (.inl (vp_updL (vp_updL u38 2 (v &&& (4294967295:Int64))) 3 (lushr_ v (32:Int32))))))] := hD
                refine lv_iconst (v := 1) hx hb d_PatternBookModel_put_104 (by decide) ?_
                refine W.zret hx hb hr rfl ?_ hS.2.2 d_PatternBookModel_put_105
                exact uEnd (true, (0:Int32), x, (1:Int32), z, (vp_updL (vp_updL u38 2 (v &&& (4294967295:Int64))) 3 (lushr_ v (32:Int32)))) (hP.sub [0, 1] rfl) (hK.sub [0] rfl) (hD.sub [0, 1] (by decide) rfl) hS (by have eu38 := hu38.symm; subst eu38; exact ((if_neg c_1).trans ((if_pos c_2).trans ((if_neg c_3).trans ((if_pos c_23).trans ((if_pos c_33).trans ((if_neg c_39).trans ((if_neg c_40).trans (rfl)))))))).symm) rfl
              · refine lv_lconst (v := 0) hx hb d_PatternBookModel_put_94 (by decide) ?_
                refine lv_goto (tgt := 103) hx hb d_PatternBookModel_put_95 (by decide) ?_
                refine va_last hx hb hK hP hD hS 1 0 rfl rfl (idx_in rfl) d_PatternBookModel_put_103 (fun H locs hP hD hS => ?_)
                have hP : va_P D classes [(mo, .inr (6, [.int (0:Int32), .int x, .int (1:Int32), .int z, .ref wa, .long hi, .long lo, .long lh, .long ll, .ref sa, .ref ma])), (wa, .inl (cW, 12, .inr (.inl (vp_updL (vp_updL u38 2 (v &&& (4294967295:Int64))) 3 (0:Int64)))))] H := hP
                have hD : va_D A [(mo, .inr (6, [.int (0:Int32), .int x, .int (1:Int32), .int z, .ref wa, .long hi, .long lo, .long lh, .long ll, .ref sa, .ref ma])), (wa, .inl (cW, 12, .inr (.inl (vp_updL (vp_updL u38 2 (v &&& (4294967295:Int64))) 3 (0:Int64)))))] := hD
                refine lv_iconst (v := 1) hx hb d_PatternBookModel_put_104 (by decide) ?_
                refine W.zret hx hb hr rfl ?_ hS.2.2 d_PatternBookModel_put_105
                exact uEnd (true, (0:Int32), x, (1:Int32), z, (vp_updL (vp_updL u38 2 (v &&& (4294967295:Int64))) 3 (0:Int64))) (hP.sub [0, 1] rfl) (hK.sub [0] rfl) (hD.sub [0, 1] (by decide) rfl) hS (by have eu38 := hu38.symm; subst eu38; exact ((if_neg c_1).trans ((if_pos c_2).trans ((if_neg c_3).trans ((if_pos c_23).trans ((if_pos c_33).trans ((if_neg c_39).trans ((if_pos c_40).trans (rfl)))))))).symm) rfl
            · refine lv_lconst (v := 0) hx hb d_PatternBookModel_put_73 (by decide) ?_
              refine lv_goto (tgt := 83) hx hb d_PatternBookModel_put_74 (by decide) ?_
              refine va_last hx hb hK hP hD hS 1 0 rfl rfl (idx_in rfl) d_PatternBookModel_put_83 (fun H locs hP hD hS => ?_)
              have hP : va_P D classes [(mo, .inr (6, [.int (0:Int32), .int x, .int (1:Int32), .int z, .ref wa, .long hi, .long lo, .long lh, .long ll, .ref sa, .ref ma])), (wa, .inl (cW, 12, .inr (.inl (vp_updL u38 2 (0:Int64)))))] H := hP
              have hD : va_D A [(mo, .inr (6, [.int (0:Int32), .int x, .int (1:Int32), .int z, .ref wa, .long hi, .long lo, .long lh, .long ll, .ref sa, .ref ma])), (wa, .inl (cW, 12, .inr (.inl (vp_updL u38 2 (0:Int64)))))] := hD
              refine lv_aload_n hx hb d_PatternBookModel_put_84 rfl (lv_at hl 0 rfl) ?_
              refine va_get (D := D) (ci := 6) (v := .ref wa) (C := R_PatternBookModel) (T := F_PatternBookModel) (N := 11) hx hb hts i_PatternBookModel hown hK hP 0 rfl rfl 4 (by decide) (hts _ k_263) (fun _ h9 => h9) rfl d_PatternBookModel_put_85 ?_
              refine lv_iconst (v := 3) hx hb d_PatternBookModel_put_88 (by decide) ?_
              refine lv_iload_n hx hb d_PatternBookModel_put_89 rfl (lv_at hl 1 rfl) ?_
              refine lv_iconst (v := 1) hx hb d_PatternBookModel_put_90 (by decide) ?_
              refine lv_icmp_ne (tgt := 98) hx hb d_PatternBookModel_put_91 (by decide) (fun c_41 => ?_) (fun c_41 => ?_)
              · refine lv_lload hx hb d_PatternBookModel_put_98 (lv_at hl 4 rfl) ?_
                refine lv_bipush (v := 32) hx hb d_PatternBookModel_put_100 (by decide) ?_
                refine lv_lushr (v := lushr_ v (32:Int32)) hx hb d_PatternBookModel_put_102 rfl ?_
                refine va_last hx hb hK hP hD hS 1 0 rfl rfl (idx_in rfl) d_PatternBookModel_put_103 (fun H locs hP hD hS => ?_)
                have hP : va_P D classes [(mo, .inr (6, [.int (0:Int32), .int x, .int (1:Int32), .int z, .ref wa, .long hi, .long lo, .long lh, .long ll, .ref sa, .ref ma])), (wa, .inl (cW, 12, .inr (.inl (vp_updL (vp_updL u38 2 (0:Int64)) 3 (lushr_ v (32:Int32))))))] H := hP
                have hD : va_D A [(mo, .inr (6, [.int (0:Int32), .int x, .int (1:Int32), .int z, .ref wa, .long hi, .long lo, .long lh, .long ll, .ref sa, .ref ma])), (wa, .inl (cW, 12, .inr (.inl (vp_updL (vp_updL u38 2 (0:Int64)) 3 (lushr_ v (32:Int32))))))] := hD
                refine lv_iconst (v := 1) hx hb d_PatternBookModel_put_104 (by decide) ?_
                refine W.zret hx hb hr rfl ?_ hS.2.2 d_PatternBookModel_put_105
                exact uEnd (true, (0:Int32), x, (1:Int32), z, (vp_updL (vp_updL u38 2 (0:Int64)) 3 (lushr_ v (32:Int32)))) (hP.sub [0, 1] rfl) (hK.sub [0] rfl) (hD.sub [0, 1] (by decide) rfl) hS (by have eu38 := hu38.symm; subst eu38; exact ((if_neg c_1).trans ((if_pos c_2).trans ((if_neg c_3).trans ((if_pos c_23).trans ((if_pos c_33).trans ((if_pos c_39).trans ((if_neg c_41).trans (rfl)))))))).symm) rfl
              · refine lv_lconst (v := 0) hx hb d_PatternBookModel_put_94 (by decide) ?_
                refine lv_goto (tgt := 103) hx hb d_PatternBookModel_put_95 (by decide) ?_
                refine va_last hx hb hK hP hD hS 1 0 rfl rfl (idx_in rfl) d_PatternBookModel_put_103 (fun H locs hP hD hS => ?_)
                have hP : va_P D classes [(mo, .inr (6, [.int (0:Int32), .int x, .int (1:Int32), .int z, .ref wa, .long hi, .long lo, .long lh, .long ll, .ref sa, .ref ma])), (wa, .inl (cW, 12, .inr (.inl (vp_updL (vp_updL u38 2 (0:Int64)) 3 (0:Int64)))))] H := hP
                have hD : va_D A [(mo, .inr (6, [.int (0:Int32), .int x, .int (1:Int32), .int z, .ref wa, .long hi, .long lo, .long lh, .long ll, .ref sa, .ref ma])), (wa, .inl (cW, 12, .inr (.inl (vp_updL (vp_updL u38 2 (0:Int64)) 3 (0:Int64)))))] := hD
                refine lv_iconst (v := 1) hx hb d_PatternBookModel_put_104 (by decide) ?_
                refine W.zret hx hb hr rfl ?_ hS.2.2 d_PatternBookModel_put_105
                exact uEnd (true, (0:Int32), x, (1:Int32), z, (vp_updL (vp_updL u38 2 (0:Int64)) 3 (0:Int64))) (hP.sub [0, 1] rfl) (hK.sub [0] rfl) (hD.sub [0, 1] (by decide) rfl) hS (by have eu38 := hu38.symm; subst eu38; exact ((if_neg c_1).trans ((if_pos c_2).trans ((if_neg c_3).trans ((if_pos c_23).trans ((if_pos c_33).trans ((if_pos c_39).trans ((if_pos c_41).trans (rfl)))))))).symm) rfl
    · refine lv_iconst (v := 0) hx hb d_PatternBookModel_put_14 (by decide) ?_
      refine W.zret hx hb hr rfl ?_ hS.2.2 d_PatternBookModel_put_15
      exact uEnd (false, (0:Int32), kd, sg, ex, w) (hP.sub [0, 1] rfl) (hK.sub [0] rfl) (hD.sub [0, 1] (by decide) rfl) hS (by  exact ((if_neg c_1).trans ((if_neg c_2).trans (rfl))).symm) rfl
set_option maxHeartbeats 4000000 in
set_option maxRecDepth 100000 in
/-- PatternBookModel.pack(I)Z -/
theorem c_M_pack (l : Launch) (D : va_G) (mo : Nat) (wa : Nat) (sa : Nat) (ma : Nat) (cW : ClassId) (cM : ClassId) (sz : Nat) (x : Int32) (co : Int32) (kd : Int32) (sg : Int32) (ex : Int32) (hi : Int64) (lo : Int64) (lh : Int64) (ll : Int64) (w : Nat → Int64) (md : Nat → Int32) (hk : mok_M_pack x kd ex w) : Met l y_PatternBookModel_pack (wsOf y_PatternBookModel_pack b_PatternBookModel_pack 2 (some .boolean)) ({ frames := 5, cells := 0, slots := 0, locals := 116 }) (uP D classes [(mo, .inr (6, [.int co, .int kd, .int sg, .int ex, .ref wa, .long hi, .long lo, .long lh, .long ll, .ref sa, .ref ma])), (wa, .inl (cW, 12, .inr (.inl w))), (ma, .inl (cM, 1000, .inl md))] [(cW, .long), (cM, .int)] sz [.ref mo, .int x]) (uQ D classes (fun u : Bool × Int32 × Int64 × Int64 × Int64 × Int64 × (Nat → Int64) => some (.int (bI u.1))) (fun u => u = (sl m_M_pack) x kd sg ex hi lo lh ll w md) (va_A [(mo, .inr (6, [.int co, .int kd, .int sg, .int ex, .ref wa, .long hi, .long lo, .long lh, .long ll, .ref sa, .ref ma])), (wa, .inl (cW, 12, .inr (.inl w))), (ma, .inl (cM, 1000, .inl md))] sz) (fun _ => [(cW, .long), (cM, .int)]) (fun u => [(mo, .inr (6, [.int u.2.1, .int kd, .int sg, .int ex, .ref wa, .long u.2.2.1, .long u.2.2.2.1, .long u.2.2.2.2.1, .long u.2.2.2.2.2.1, .ref sa, .ref ma])), (wa, .inl (cW, 12, .inr (.inl u.2.2.2.2.2.2))), (ma, .inl (cM, 1000, .inl md))])) 0 0 (va_A [(mo, .inr (6, [.int co, .int kd, .int sg, .int ex, .ref wa, .long hi, .long lo, .long lh, .long ll, .ref sa, .ref ma])), (wa, .inl (cW, 12, .inr (.inl w))), (ma, .inl (cM, 1000, .inl md))] sz) := by
  rw [sl_eq m_M_pack]
  refine uBegin (by decide +kernel) (Nat.le_of_ble_eq_true rfl) ?_
  intro p e s m below meth c A ls H locs hx hb hr hts hown hlocks hml hin hA hP hK hD hN hS hl
  have hl : lv_has ls 2 [(0, .ref mo), (1, .int x)] := hl
  unfold mok_M_pack at hk
  refine lv_aload_n hx hb d_PatternBookModel_pack_0 rfl (lv_at hl 0 rfl) ?_
  refine lv_iload_n hx hb d_PatternBookModel_pack_1 rfl (lv_at hl 1 rfl) ?_
  refine uCall (WR := [(wa, .inl (cW, 12, .inr (.inl w))), (ma, .inl (cM, 1000, .inl md))]) (RT := [(cW, .long), (cM, .int)]) (va_runV (As := [.int x]) (rest := []) ⟨hx, hb, hml, hown, hts⟩ (c_M_asks l D mo wa sa ma H.size x co kd sg ex hi lo lh ll) ⟨uCB 1 hts k_371 k_257 k_372 (by decide +kernel) rfl rfl ⟨Nat.le_of_ble_eq_true rfl, Nat.le_of_ble_eq_true rfl⟩, hts _ k_373, hts _ k_374⟩ (uPreV (ci := 6) (q0 := 0) hK hP hD hN [0] rfl (by decide) [] rfl rfl rfl) rfl rfl hl.1 rfl (lv_room (Nat.le_of_ble_eq_true rfl)) d_PatternBookModel_pack_2 ⟨(Nat.le_of_ble_eq_true rfl), (Nat.le_of_ble_eq_true rfl)⟩) hK hP hD hS hA [0] [1, 2] rfl rfl (by decide) (by decide) [0, 1] rfl (fun u1 H locs hu1 hP hD hK hS => ?_)
  have hP : va_P D classes [(wa, .inl (cW, 12, .inr (.inl w))), (ma, .inl (cM, 1000, .inl md)), (mo, .inr (6, [.int u1.2, .int kd, .int sg, .int ex, .ref wa, .long hi, .long lo, .long lh, .long ll, .ref sa, .ref ma]))] H := hP
  have hD : va_D A [(wa, .inl (cW, 12, .inr (.inl w))), (ma, .inl (cM, 1000, .inl md)), (mo, .inr (6, [.int u1.2, .int kd, .int sg, .int ex, .ref wa, .long hi, .long lo, .long lh, .long ll, .ref sa, .ref ma]))] := hD
  have hK : va_K D classes [(cW, .long), (cM, .int)] s := hK
  refine W.eq (g2 := F0 m 5 ls [.int (bI u1.1)]) rfl ?_
  have hk := hk u1 hu1
  refine lv_if_eq (tgt := 16) hx hb d_PatternBookModel_pack_5 (by decide) (fun c_2 => ?_) (fun c_2 => ?_)
  · refine lv_iconst (v := 0) hx hb d_PatternBookModel_pack_16 (by decide) ?_
    refine W.zret hx hb hr rfl ?_ hS.2.2 d_PatternBookModel_pack_17
    exact uEnd (false, u1.2, hi, lo, lh, ll, w) (hP.sub [2, 0, 1] rfl) (hK.sub [0, 1] rfl) (hD.sub [2, 0, 1] (by decide) rfl) hS (by have eu1 := hu1.symm; subst eu1; exact ((if_pos c_2).trans (rfl)).symm) rfl
  · have hk := hk.2 c_2
    refine lv_aload_n hx hb d_PatternBookModel_pack_8 rfl (lv_at hl 0 rfl) ?_
    refine lv_iload_n hx hb d_PatternBookModel_pack_9 rfl (lv_at hl 1 rfl) ?_
    have ho3 := hk.1
    have hk := hk.2
    refine uCall (WR := [(ma, .inl (cM, 1000, .inl md))]) (RT := [(cM, .int)]) (va_runV (As := [.int x]) (rest := []) ⟨hx, hb, hml, hown, hts⟩ (c_M_fits l D mo wa sa ma cW H.size x u1.2 kd sg ex hi lo lh ll w ho3) ⟨uCB 1 hts k_383 k_257 k_384 (by decide +kernel) rfl rfl ⟨Nat.le_of_ble_eq_true rfl, Nat.le_of_ble_eq_true rfl⟩, hts _ k_385, hts _ k_386⟩ (uPreV (ci := 6) (q0 := 2) hK hP hD hN [2, 0] rfl (by decide) [0] rfl rfl rfl) rfl rfl hl.1 rfl (lv_room (Nat.le_of_ble_eq_true rfl)) d_PatternBookModel_pack_10 ⟨(Nat.le_of_ble_eq_true rfl), (Nat.le_of_ble_eq_true rfl)⟩) hK hP hD hS hA [2, 0] [1] rfl rfl (by decide) (by decide) [1] rfl (fun u3 H locs hu3 hP hD hK hS => ?_)
    have hP : va_P D classes [(ma, .inl (cM, 1000, .inl md)), (mo, .inr (6, [.int u1.2, .int kd, .int sg, .int ex, .ref wa, .long hi, .long lo, .long lh, .long ll, .ref sa, .ref ma])), (wa, .inl (cW, 12, .inr (.inl u3.2)))] H := hP
    have hD : va_D A [(ma, .inl (cM, 1000, .inl md)), (mo, .inr (6, [.int u1.2, .int kd, .int sg, .int ex, .ref wa, .long hi, .long lo, .long lh, .long ll, .ref sa, .ref ma])), (wa, .inl (cW, 12, .inr (.inl u3.2)))] := hD
    have hK : va_K D classes [(cM, .int), (cW, .long)] s := hK
    refine W.eq (g2 := F0 m 13 ls [.int (bI u3.1)]) rfl ?_
    have hk := hk u3 hu3
    refine lv_if_ne (tgt := 18) hx hb d_PatternBookModel_pack_13 (by decide) (fun c_4 => ?_) (fun c_4 => ?_)
    · have hk := hk.2 c_4
      refine lv_aload_n hx hb d_PatternBookModel_pack_18 rfl (lv_at hl 0 rfl) ?_
      refine lv_iload_n hx hb d_PatternBookModel_pack_19 rfl (lv_at hl 1 rfl) ?_
      have ho5 := hk
      refine uCall (WR := []) (RT := []) (va_runV (As := [.int x]) (rest := []) ⟨hx, hb, hml, hown, hts⟩ (c_M_close l D mo wa sa ma cW cM H.size x u1.2 kd sg ex hi lo lh ll u3.2 md ho5) ⟨uCB 1 hts k_379 k_257 k_380 (by decide +kernel) rfl rfl ⟨Nat.le_of_ble_eq_true rfl, Nat.le_of_ble_eq_true rfl⟩, hts _ k_381, hts _ k_382⟩ (uPreV (ci := 6) (q0 := 1) hK hP hD hN [1, 2, 0] rfl (by decide) [1, 0] rfl rfl rfl) rfl rfl hl.1 rfl (lv_room (Nat.le_of_ble_eq_true rfl)) d_PatternBookModel_pack_20 ⟨(Nat.le_of_ble_eq_true rfl), (Nat.le_of_ble_eq_true rfl)⟩) hK hP hD hS hA [1, 2, 0] [] rfl rfl (by decide) (by decide) [] rfl (fun u5 H locs hu5 hP hD hK hS => ?_)
      have hP : va_P D classes [(mo, .inr (6, [.int u1.2, .int kd, .int sg, .int ex, .ref wa, .long hi, .long lo, .long u5.1, .long u5.2.1, .ref sa, .ref ma])), (wa, .inl (cW, 12, .inr (.inl u5.2.2))), (ma, .inl (cM, 1000, .inl md))] H := hP
      have hD : va_D A [(mo, .inr (6, [.int u1.2, .int kd, .int sg, .int ex, .ref wa, .long hi, .long lo, .long u5.1, .long u5.2.1, .ref sa, .ref ma])), (wa, .inl (cW, 12, .inr (.inl u5.2.2))), (ma, .inl (cM, 1000, .inl md))] := hD
      have hK : va_K D classes [(cW, .long), (cM, .int)] s := hK
      refine W.eq (g2 := F0 m 23 ls []) rfl ?_
      refine lv_aload_n hx hb d_PatternBookModel_pack_23 rfl (lv_at hl 0 rfl) ?_
      refine lv_aload_n hx hb d_PatternBookModel_pack_24 rfl (lv_at hl 0 rfl) ?_
      refine va_get (D := D) (ci := 6) (v := .long u5.1) (C := R_PatternBookModel) (T := F_PatternBookModel) (N := 11) hx hb hts i_PatternBookModel hown hK hP 0 rfl rfl 7 (by decide) (hts _ k_273) (fun _ h9 => h9) rfl d_PatternBookModel_pack_25 ?_
      refine va_put (D := D) (ci := 6) (v := .long u5.1) (ty := .long) (C := R_PatternBookModel) (T := F_PatternBookModel) (N := 11) hx hb hts i_PatternBookModel t_PatternBookModel t_PatternBookModel_ok n_PatternBookModel hown hK hP hD hS 0 rfl rfl 5 (by decide) (hts _ k_387) (fun _ h9 => h9) rfl (by decide +kernel) rfl rfl (Nat.le_of_ble_eq_true rfl) d_PatternBookModel_pack_28 (fun H locs hP hD hS => ?_)
      have hP : va_P D classes [(mo, .inr (6, [.int u1.2, .int kd, .int sg, .int ex, .ref wa, .long u5.1, .long lo, .long u5.1, .long u5.2.1, .ref sa, .ref ma])), (wa, .inl (cW, 12, .inr (.inl u5.2.2))), (ma, .inl (cM, 1000, .inl md))] H := hP
      have hD : va_D A [(mo, .inr (6, [.int u1.2, .int kd, .int sg, .int ex, .ref wa, .long u5.1, .long lo, .long u5.1, .long u5.2.1, .ref sa, .ref ma])), (wa, .inl (cW, 12, .inr (.inl u5.2.2))), (ma, .inl (cM, 1000, .inl md))] := hD
      refine lv_aload_n hx hb d_PatternBookModel_pack_31 rfl (lv_at hl 0 rfl) ?_
      refine lv_aload_n hx hb d_PatternBookModel_pack_32 rfl (lv_at hl 0 rfl) ?_
      refine va_get (D := D) (ci := 6) (v := .long u5.2.1) (C := R_PatternBookModel) (T := F_PatternBookModel) (N := 11) hx hb hts i_PatternBookModel hown hK hP 0 rfl rfl 8 (by decide) (hts _ k_274) (fun _ h9 => h9) rfl d_PatternBookModel_pack_33 ?_
      refine va_put (D := D) (ci := 6) (v := .long u5.2.1) (ty := .long) (C := R_PatternBookModel) (T := F_PatternBookModel) (N := 11) hx hb hts i_PatternBookModel t_PatternBookModel t_PatternBookModel_ok n_PatternBookModel hown hK hP hD hS 0 rfl rfl 6 (by decide) (hts _ k_388) (fun _ h9 => h9) rfl (by decide +kernel) rfl rfl (Nat.le_of_ble_eq_true rfl) d_PatternBookModel_pack_36 (fun H locs hP hD hS => ?_)
      have hP : va_P D classes [(mo, .inr (6, [.int u1.2, .int kd, .int sg, .int ex, .ref wa, .long u5.1, .long u5.2.1, .long u5.1, .long u5.2.1, .ref sa, .ref ma])), (wa, .inl (cW, 12, .inr (.inl u5.2.2))), (ma, .inl (cM, 1000, .inl md))] H := hP
      have hD : va_D A [(mo, .inr (6, [.int u1.2, .int kd, .int sg, .int ex, .ref wa, .long u5.1, .long u5.2.1, .long u5.1, .long u5.2.1, .ref sa, .ref ma])), (wa, .inl (cW, 12, .inr (.inl u5.2.2))), (ma, .inl (cM, 1000, .inl md))] := hD
      refine lv_iconst (v := 1) hx hb d_PatternBookModel_pack_39 (by decide) ?_
      refine W.zret hx hb hr rfl ?_ hS.2.2 d_PatternBookModel_pack_40
      exact uEnd (true, u1.2, u5.1, u5.2.1, u5.1, u5.2.1, u5.2.2) (hP.sub [0, 1, 2] rfl) (hK.sub [0, 1] rfl) (hD.sub [0, 1, 2] (by decide) rfl) hS (by have eu1 := hu1.symm; subst eu1; have eu3 := hu3.symm; subst eu3; have eu5 := hu5.symm; subst eu5; exact ((if_neg c_2).trans ((if_neg c_4).trans (rfl))).symm) rfl
    · refine lv_iconst (v := 0) hx hb d_PatternBookModel_pack_16 (by decide) ?_
      refine W.zret hx hb hr rfl ?_ hS.2.2 d_PatternBookModel_pack_17
      exact uEnd (false, u1.2, hi, lo, lh, ll, u3.2) (hP.sub [1, 2, 0] rfl) (hK.sub [1, 0] rfl) (hD.sub [1, 2, 0] (by decide) rfl) hS (by have eu1 := hu1.symm; subst eu1; have eu3 := hu3.symm; subst eu3; exact ((if_neg c_2).trans ((if_pos c_4).trans (rfl))).symm) rfl
set_option maxHeartbeats 4000000 in
set_option maxRecDepth 100000 in
/-- PatternBookModel.pattern(Z)J -/
theorem c_M_pattern (l : Launch) (D : va_G) (mo : Nat) (wa : Nat) (sa : Nat) (ma : Nat) (sz : Nat) (x : Bool) (co : Int32) (kd : Int32) (sg : Int32) (ex : Int32) (hi : Int64) (lo : Int64) (lh : Int64) (ll : Int64) : Met l y_PatternBookModel_pattern (wsOf y_PatternBookModel_pattern b_PatternBookModel_pattern 2 (some .long)) ({ frames := 0, cells := 0, slots := 0, locals := 0 }) (uP D classes [(mo, .inr (6, [.int co, .int kd, .int sg, .int ex, .ref wa, .long hi, .long lo, .long lh, .long ll, .ref sa, .ref ma]))] [] sz [.ref mo, .int (bI x)]) (uQ D classes (fun u : Int64 × Int32 => some (.long u.1)) (fun u => u = (sl m_M_pattern) x hi lo) (va_A [(mo, .inr (6, [.int co, .int kd, .int sg, .int ex, .ref wa, .long hi, .long lo, .long lh, .long ll, .ref sa, .ref ma]))] sz) (fun _ => []) (fun u => [(mo, .inr (6, [.int u.2, .int kd, .int sg, .int ex, .ref wa, .long hi, .long lo, .long lh, .long ll, .ref sa, .ref ma]))])) 0 0 (va_A [(mo, .inr (6, [.int co, .int kd, .int sg, .int ex, .ref wa, .long hi, .long lo, .long lh, .long ll, .ref sa, .ref ma]))] sz) := by
  rw [sl_eq m_M_pattern]
  refine uBegin (by decide +kernel) (Nat.le_of_ble_eq_true rfl) ?_
  intro p e s m below meth c A ls H locs hx hb hr hts hown hlocks hml hin hA hP hK hD hN hS hl
  have hl : lv_has ls 2 [(0, .ref mo), (1, .int (bI x))] := hl
  refine lv_aload_n hx hb d_PatternBookModel_pattern_0 rfl (lv_at hl 0 rfl) ?_
  refine lv_iconst (v := 0) hx hb d_PatternBookModel_pattern_1 (by decide) ?_
  refine va_put (D := D) (ci := 6) (v := .int (0:Int32)) (ty := .int) (C := R_PatternBookModel) (T := F_PatternBookModel) (N := 11) hx hb hts i_PatternBookModel t_PatternBookModel t_PatternBookModel_ok n_PatternBookModel hown hK hP hD hS 0 rfl rfl 0 (by decide) (hts _ k_255) (fun _ h9 => h9) rfl (by decide +kernel) rfl rfl (Nat.le_of_ble_eq_true rfl) d_PatternBookModel_pattern_2 (fun H locs hP hD hS => ?_)
  have hP : va_P D classes [(mo, .inr (6, [.int (0:Int32), .int kd, .int sg, .int ex, .ref wa, .long hi, .long lo, .long lh, .long ll, .ref sa, .ref ma]))] H := hP
  have hD : va_D A [(mo, .inr (6, [.int (0:Int32), .int kd, .int sg, .int ex, .ref wa, .long hi, .long lo, .long lh, .long ll, .ref sa, .ref ma]))] := hD
  refine lv_iload_n hx hb d_PatternBookModel_pattern_5 rfl (lv_at hl 1 rfl) ?_
  refine lv_if_eq (tgt := 16) hx hb d_PatternBookModel_pattern_6 (by decide) (fun c_1 => ?_) (fun c_1 => ?_)
  · refine lv_aload_n hx hb d_PatternBookModel_pattern_16 rfl (lv_at hl 0 rfl) ?_
    refine va_get (D := D) (ci := 6) (v := .long lo) (C := R_PatternBookModel) (T := F_PatternBookModel) (N := 11) hx hb hts i_PatternBookModel hown hK hP 0 rfl rfl 6 (by decide) (hts _ k_388) (fun _ h9 => h9) rfl d_PatternBookModel_pattern_17 ?_
    refine W.lret hx hb hr ?_ hS.2.2 d_PatternBookModel_pattern_20
    exact uEnd (lo, (0:Int32)) (hP.sub [0] rfl) (hK.sub [] rfl) (hD.sub [0] (by decide) rfl) hS (by  exact ((if_pos c_1).trans (rfl)).symm) rfl
  · refine lv_aload_n hx hb d_PatternBookModel_pattern_9 rfl (lv_at hl 0 rfl) ?_
    refine va_get (D := D) (ci := 6) (v := .long hi) (C := R_PatternBookModel) (T := F_PatternBookModel) (N := 11) hx hb hts i_PatternBookModel hown hK hP 0 rfl rfl 5 (by decide) (hts _ k_387) (fun _ h9 => h9) rfl d_PatternBookModel_pattern_10 ?_
    refine lv_goto (tgt := 20) hx hb d_PatternBookModel_pattern_13 (by decide) ?_
    refine W.lret hx hb hr ?_ hS.2.2 d_PatternBookModel_pattern_20
    exact uEnd (hi, (0:Int32)) (hP.sub [0] rfl) (hK.sub [] rfl) (hD.sub [0] (by decide) rfl) hS (by  exact ((if_neg c_1).trans (rfl)).symm) rfl
set_option maxHeartbeats 4000000 in
set_option maxRecDepth 100000 in
/-- PatternBookModel.look(I)I -/
theorem c_M_look (l : Launch) (D : va_G) (mo : Nat) (wa : Nat) (sa : Nat) (ma : Nat) (sz : Nat) (x : Int32) (co : Int32) (kd : Int32) (sg : Int32) (ex : Int32) (hi : Int64) (lo : Int64) (lh : Int64) (ll : Int64) : Met l y_PatternBookModel_look (wsOf y_PatternBookModel_look b_PatternBookModel_look 2 (some .int)) ({ frames := 0, cells := 0, slots := 0, locals := 0 }) (uP D classes [(mo, .inr (6, [.int co, .int kd, .int sg, .int ex, .ref wa, .long hi, .long lo, .long lh, .long ll, .ref sa, .ref ma]))] [] sz [.ref mo, .int x]) (uQ D classes (fun u : Int32 × Int32 => some (.int u.1)) (fun u => u = (sl m_M_look) x kd sg ex) (va_A [(mo, .inr (6, [.int co, .int kd, .int sg, .int ex, .ref wa, .long hi, .long lo, .long lh, .long ll, .ref sa, .ref ma]))] sz) (fun _ => []) (fun u => [(mo, .inr (6, [.int u.2, .int kd, .int sg, .int ex, .ref wa, .long hi, .long lo, .long lh, .long ll, .ref sa, .ref ma]))])) 0 0 (va_A [(mo, .inr (6, [.int co, .int kd, .int sg, .int ex, .ref wa, .long hi, .long lo, .long lh, .long ll, .ref sa, .ref ma]))] sz) := by
  rw [sl_eq m_M_look]
  refine uBegin (by decide +kernel) (Nat.le_of_ble_eq_true rfl) ?_
  intro p e s m below meth c A ls H locs hx hb hr hts hown hlocks hml hin hA hP hK hD hN hS hl
  have hl : lv_has ls 2 [(0, .ref mo), (1, .int x)] := hl
  refine lv_aload_n hx hb d_PatternBookModel_look_0 rfl (lv_at hl 0 rfl) ?_
  refine lv_iconst (v := 0) hx hb d_PatternBookModel_look_1 (by decide) ?_
  refine va_put (D := D) (ci := 6) (v := .int (0:Int32)) (ty := .int) (C := R_PatternBookModel) (T := F_PatternBookModel) (N := 11) hx hb hts i_PatternBookModel t_PatternBookModel t_PatternBookModel_ok n_PatternBookModel hown hK hP hD hS 0 rfl rfl 0 (by decide) (hts _ k_255) (fun _ h9 => h9) rfl (by decide +kernel) rfl rfl (Nat.le_of_ble_eq_true rfl) d_PatternBookModel_look_2 (fun H locs hP hD hS => ?_)
  have hP : va_P D classes [(mo, .inr (6, [.int (0:Int32), .int kd, .int sg, .int ex, .ref wa, .long hi, .long lo, .long lh, .long ll, .ref sa, .ref ma]))] H := hP
  have hD : va_D A [(mo, .inr (6, [.int (0:Int32), .int kd, .int sg, .int ex, .ref wa, .long hi, .long lo, .long lh, .long ll, .ref sa, .ref ma]))] := hD
  refine lv_iload_n hx hb d_PatternBookModel_look_5 rfl (lv_at hl 1 rfl) ?_
  refine lv_if_ne (tgt := 16) hx hb d_PatternBookModel_look_6 (by decide) (fun c_1 => ?_) (fun c_1 => ?_)
  · refine lv_iload_n hx hb d_PatternBookModel_look_16 rfl (lv_at hl 1 rfl) ?_
    refine lv_iconst (v := 1) hx hb d_PatternBookModel_look_17 (by decide) ?_
    refine lv_icmp_ne (tgt := 28) hx hb d_PatternBookModel_look_18 (by decide) (fun c_2 => ?_) (fun c_2 => ?_)
    · refine lv_iload_n hx hb d_PatternBookModel_look_28 rfl (lv_at hl 1 rfl) ?_
      refine lv_iconst (v := 2) hx hb d_PatternBookModel_look_29 (by decide) ?_
      refine lv_icmp_ne (tgt := 40) hx hb d_PatternBookModel_look_30 (by decide) (fun c_3 => ?_) (fun c_3 => ?_)
      · refine lv_iconst (v := (-1)) hx hb d_PatternBookModel_look_40 (by decide) ?_
        refine W.iret hx hb hr ?_ hS.2.2 d_PatternBookModel_look_41
        exact uEnd ((-1:Int32), (0:Int32)) (hP.sub [0] rfl) (hK.sub [] rfl) (hD.sub [0] (by decide) rfl) hS (by  exact ((if_neg c_1).trans ((if_neg c_2).trans ((if_neg c_3).trans (rfl)))).symm) rfl
      · refine lv_aload_n hx hb d_PatternBookModel_look_33 rfl (lv_at hl 0 rfl) ?_
        refine va_get (D := D) (ci := 6) (v := .int ex) (C := R_PatternBookModel) (T := F_PatternBookModel) (N := 11) hx hb hts i_PatternBookModel hown hK hP 0 rfl rfl 3 (by decide) (hts _ k_313) (fun _ h9 => h9) rfl d_PatternBookModel_look_34 ?_
        refine lv_goto (tgt := 41) hx hb d_PatternBookModel_look_37 (by decide) ?_
        refine W.iret hx hb hr ?_ hS.2.2 d_PatternBookModel_look_41
        exact uEnd (ex, (0:Int32)) (hP.sub [0] rfl) (hK.sub [] rfl) (hD.sub [0] (by decide) rfl) hS (by  exact ((if_neg c_1).trans ((if_neg c_2).trans ((if_pos c_3).trans (rfl)))).symm) rfl
    · refine lv_aload_n hx hb d_PatternBookModel_look_21 rfl (lv_at hl 0 rfl) ?_
      refine va_get (D := D) (ci := 6) (v := .int sg) (C := R_PatternBookModel) (T := F_PatternBookModel) (N := 11) hx hb hts i_PatternBookModel hown hK hP 0 rfl rfl 2 (by decide) (hts _ k_331) (fun _ h9 => h9) rfl d_PatternBookModel_look_22 ?_
      refine lv_goto (tgt := 41) hx hb d_PatternBookModel_look_25 (by decide) ?_
      refine W.iret hx hb hr ?_ hS.2.2 d_PatternBookModel_look_41
      exact uEnd (sg, (0:Int32)) (hP.sub [0] rfl) (hK.sub [] rfl) (hD.sub [0] (by decide) rfl) hS (by  exact ((if_neg c_1).trans ((if_pos c_2).trans (rfl))).symm) rfl
  · refine lv_aload_n hx hb d_PatternBookModel_look_9 rfl (lv_at hl 0 rfl) ?_
    refine va_get (D := D) (ci := 6) (v := .int kd) (C := R_PatternBookModel) (T := F_PatternBookModel) (N := 11) hx hb hts i_PatternBookModel hown hK hP 0 rfl rfl 1 (by decide) (hts _ k_318) (fun _ h9 => h9) rfl d_PatternBookModel_look_10 ?_
    refine lv_goto (tgt := 41) hx hb d_PatternBookModel_look_13 (by decide) ?_
    refine W.iret hx hb hr ?_ hS.2.2 d_PatternBookModel_look_41
    exact uEnd (kd, (0:Int32)) (hP.sub [0] rfl) (hK.sub [] rfl) (hD.sub [0] (by decide) rfl) hS (by  exact ((if_pos c_1).trans (rfl)).symm) rfl
set_option maxHeartbeats 4000000 in
set_option maxRecDepth 100000 in
/-- PatternBookModel.part(Z)J -/
theorem c_M_part (l : Launch) (D : va_G) (mo : Nat) (wa : Nat) (sa : Nat) (ma : Nat) (cW : ClassId) (sz : Nat) (x : Bool) (co : Int32) (kd : Int32) (sg : Int32) (ex : Int32) (hi : Int64) (lo : Int64) (lh : Int64) (ll : Int64) (w : Nat → Int64) : Met l y_PatternBookModel_part (wsOf y_PatternBookModel_part b_PatternBookModel_part 2 (some .long)) ({ frames := 0, cells := 0, slots := 0, locals := 0 }) (uP D classes [(mo, .inr (6, [.int co, .int kd, .int sg, .int ex, .ref wa, .long hi, .long lo, .long lh, .long ll, .ref sa, .ref ma])), (wa, .inl (cW, 12, .inr (.inl w)))] [(cW, .long)] sz [.ref mo, .int (bI x)]) (uQ D classes (fun u : Int64 × Int32 => some (.long u.1)) (fun u => u = (sl m_M_part) x w) (va_A [(mo, .inr (6, [.int co, .int kd, .int sg, .int ex, .ref wa, .long hi, .long lo, .long lh, .long ll, .ref sa, .ref ma])), (wa, .inl (cW, 12, .inr (.inl w)))] sz) (fun _ => [(cW, .long)]) (fun u => [(mo, .inr (6, [.int u.2, .int kd, .int sg, .int ex, .ref wa, .long hi, .long lo, .long lh, .long ll, .ref sa, .ref ma])), (wa, .inl (cW, 12, .inr (.inl w)))])) 0 0 (va_A [(mo, .inr (6, [.int co, .int kd, .int sg, .int ex, .ref wa, .long hi, .long lo, .long lh, .long ll, .ref sa, .ref ma])), (wa, .inl (cW, 12, .inr (.inl w)))] sz) := by
  rw [sl_eq m_M_part]
  refine uBegin (by decide +kernel) (Nat.le_of_ble_eq_true rfl) ?_
  intro p e s m below meth c A ls H locs hx hb hr hts hown hlocks hml hin hA hP hK hD hN hS hl
  have hl : lv_has ls 2 [(0, .ref mo), (1, .int (bI x))] := hl
  refine lv_aload_n hx hb d_PatternBookModel_part_0 rfl (lv_at hl 0 rfl) ?_
  refine lv_iconst (v := 0) hx hb d_PatternBookModel_part_1 (by decide) ?_
  refine va_put (D := D) (ci := 6) (v := .int (0:Int32)) (ty := .int) (C := R_PatternBookModel) (T := F_PatternBookModel) (N := 11) hx hb hts i_PatternBookModel t_PatternBookModel t_PatternBookModel_ok n_PatternBookModel hown hK hP hD hS 0 rfl rfl 0 (by decide) (hts _ k_255) (fun _ h9 => h9) rfl (by decide +kernel) rfl rfl (Nat.le_of_ble_eq_true rfl) d_PatternBookModel_part_2 (fun H locs hP hD hS => ?_)
  have hP : va_P D classes [(mo, .inr (6, [.int (0:Int32), .int kd, .int sg, .int ex, .ref wa, .long hi, .long lo, .long lh, .long ll, .ref sa, .ref ma])), (wa, .inl (cW, 12, .inr (.inl w)))] H := hP
  have hD : va_D A [(mo, .inr (6, [.int (0:Int32), .int kd, .int sg, .int ex, .ref wa, .long hi, .long lo, .long lh, .long ll, .ref sa, .ref ma])), (wa, .inl (cW, 12, .inr (.inl w)))] := hD
  refine lv_iload_n hx hb d_PatternBookModel_part_5 rfl (lv_at hl 1 rfl) ?_
  refine lv_if_eq (tgt := 28) hx hb d_PatternBookModel_part_6 (by decide) (fun c_1 => ?_) (fun c_1 => ?_)
  · refine lv_aload_n hx hb d_PatternBookModel_part_28 rfl (lv_at hl 0 rfl) ?_
    refine va_get (D := D) (ci := 6) (v := .ref wa) (C := R_PatternBookModel) (T := F_PatternBookModel) (N := 11) hx hb hts i_PatternBookModel hown hK hP 0 rfl rfl 4 (by decide) (hts _ k_263) (fun _ h9 => h9) rfl d_PatternBookModel_part_29 ?_
    refine lv_iconst (v := 1) hx hb d_PatternBookModel_part_32 (by decide) ?_
    refine va_lald hx hb hK hP 1 0 rfl rfl (idx_in rfl) d_PatternBookModel_part_33 ?_
    refine W.eq (g2 := F0 m 34 ls [.long (w 1)]) rfl ?_
    refine lv_bipush (v := 32) hx hb d_PatternBookModel_part_34 (by decide) ?_
    refine lv_lshl (v := lshl_ (w 1) (32:Int32)) hx hb d_PatternBookModel_part_36 rfl ?_
    refine lv_aload_n hx hb d_PatternBookModel_part_37 rfl (lv_at hl 0 rfl) ?_
    refine va_get (D := D) (ci := 6) (v := .ref wa) (C := R_PatternBookModel) (T := F_PatternBookModel) (N := 11) hx hb hts i_PatternBookModel hown hK hP 0 rfl rfl 4 (by decide) (hts _ k_263) (fun _ h9 => h9) rfl d_PatternBookModel_part_38 ?_
    refine lv_iconst (v := 0) hx hb d_PatternBookModel_part_41 (by decide) ?_
    refine va_lald hx hb hK hP 1 0 rfl rfl (idx_in rfl) d_PatternBookModel_part_42 ?_
    refine W.eq (g2 := F0 m 43 ls [.long (w 0), .long (lshl_ (w 1) (32:Int32))]) rfl ?_
    refine lv_lor hx hb d_PatternBookModel_part_43 ?_
    refine W.lret hx hb hr ?_ hS.2.2 d_PatternBookModel_part_44
    exact uEnd (((lshl_ (w 1) (32:Int32)) ||| (w 0)), (0:Int32)) (hP.sub [0, 1] rfl) (hK.sub [0] rfl) (hD.sub [0, 1] (by decide) rfl) hS (by  exact ((if_pos c_1).trans (rfl)).symm) rfl
  · refine lv_aload_n hx hb d_PatternBookModel_part_9 rfl (lv_at hl 0 rfl) ?_
    refine va_get (D := D) (ci := 6) (v := .ref wa) (C := R_PatternBookModel) (T := F_PatternBookModel) (N := 11) hx hb hts i_PatternBookModel hown hK hP 0 rfl rfl 4 (by decide) (hts _ k_263) (fun _ h9 => h9) rfl d_PatternBookModel_part_10 ?_
    refine lv_iconst (v := 3) hx hb d_PatternBookModel_part_13 (by decide) ?_
    refine va_lald hx hb hK hP 1 0 rfl rfl (idx_in rfl) d_PatternBookModel_part_14 ?_
    refine W.eq (g2 := F0 m 15 ls [.long (w 3)]) rfl ?_
    refine lv_bipush (v := 32) hx hb d_PatternBookModel_part_15 (by decide) ?_
    refine lv_lshl (v := lshl_ (w 3) (32:Int32)) hx hb d_PatternBookModel_part_17 rfl ?_
    refine lv_aload_n hx hb d_PatternBookModel_part_18 rfl (lv_at hl 0 rfl) ?_
    refine va_get (D := D) (ci := 6) (v := .ref wa) (C := R_PatternBookModel) (T := F_PatternBookModel) (N := 11) hx hb hts i_PatternBookModel hown hK hP 0 rfl rfl 4 (by decide) (hts _ k_263) (fun _ h9 => h9) rfl d_PatternBookModel_part_19 ?_
    refine lv_iconst (v := 2) hx hb d_PatternBookModel_part_22 (by decide) ?_
    refine va_lald hx hb hK hP 1 0 rfl rfl (idx_in rfl) d_PatternBookModel_part_23 ?_
    refine W.eq (g2 := F0 m 24 ls [.long (w 2), .long (lshl_ (w 3) (32:Int32))]) rfl ?_
    refine lv_lor hx hb d_PatternBookModel_part_24 ?_
    refine lv_goto (tgt := 44) hx hb d_PatternBookModel_part_25 (by decide) ?_
    refine W.lret hx hb hr ?_ hS.2.2 d_PatternBookModel_part_44
    exact uEnd (((lshl_ (w 3) (32:Int32)) ||| (w 2)), (0:Int32)) (hP.sub [0, 1] rfl) (hK.sub [0] rfl) (hD.sub [0, 1] (by decide) rfl) hS (by  exact ((if_neg c_1).trans (rfl)).symm) rfl
set_option maxHeartbeats 4000000 in
set_option maxRecDepth 100000 in
/-- PatternBookModel.digits(I)I -/
theorem c_M_digits (l : Launch) (D : va_G) (mo : Nat) (wa : Nat) (sa : Nat) (ma : Nat) (cS : ClassId) (sz : Nat) (x : Int32) (co : Int32) (kd : Int32) (sg : Int32) (ex : Int32) (hi : Int64) (lo : Int64) (lh : Int64) (ll : Int64) (sp : Nat → Int32) (hk : mok_M_digits x) : Met l y_PatternBookModel_digits (wsOf y_PatternBookModel_digits b_PatternBookModel_digits 2 (some .int)) ({ frames := 0, cells := 0, slots := 0, locals := 0 }) (uP D classes [(mo, .inr (6, [.int co, .int kd, .int sg, .int ex, .ref wa, .long hi, .long lo, .long lh, .long ll, .ref sa, .ref ma])), (sa, .inl (cS, 1024, .inl sp))] [(cS, .int)] sz [.ref mo, .int x]) (uQ D classes (fun u : Int32 × Int32 => some (.int u.1)) (fun u => u = (sl m_M_digits) x sp) (va_A [(mo, .inr (6, [.int co, .int kd, .int sg, .int ex, .ref wa, .long hi, .long lo, .long lh, .long ll, .ref sa, .ref ma])), (sa, .inl (cS, 1024, .inl sp))] sz) (fun _ => [(cS, .int)]) (fun u => [(mo, .inr (6, [.int u.2, .int kd, .int sg, .int ex, .ref wa, .long hi, .long lo, .long lh, .long ll, .ref sa, .ref ma])), (sa, .inl (cS, 1024, .inl sp))])) 0 0 (va_A [(mo, .inr (6, [.int co, .int kd, .int sg, .int ex, .ref wa, .long hi, .long lo, .long lh, .long ll, .ref sa, .ref ma])), (sa, .inl (cS, 1024, .inl sp))] sz) := by
  rw [sl_eq m_M_digits]
  refine uBegin (by decide +kernel) (Nat.le_of_ble_eq_true rfl) ?_
  intro p e s m below meth c A ls H locs hx hb hr hts hown hlocks hml hin hA hP hK hD hN hS hl
  have hl : lv_has ls 2 [(0, .ref mo), (1, .int x)] := hl
  unfold mok_M_digits at hk
  refine lv_aload_n hx hb d_PatternBookModel_digits_0 rfl (lv_at hl 0 rfl) ?_
  refine lv_iconst (v := 0) hx hb d_PatternBookModel_digits_1 (by decide) ?_
  refine va_put (D := D) (ci := 6) (v := .int (0:Int32)) (ty := .int) (C := R_PatternBookModel) (T := F_PatternBookModel) (N := 11) hx hb hts i_PatternBookModel t_PatternBookModel t_PatternBookModel_ok n_PatternBookModel hown hK hP hD hS 0 rfl rfl 0 (by decide) (hts _ k_255) (fun _ h9 => h9) rfl (by decide +kernel) rfl rfl (Nat.le_of_ble_eq_true rfl) d_PatternBookModel_digits_2 (fun H locs hP hD hS => ?_)
  have hP : va_P D classes [(mo, .inr (6, [.int (0:Int32), .int kd, .int sg, .int ex, .ref wa, .long hi, .long lo, .long lh, .long ll, .ref sa, .ref ma])), (sa, .inl (cS, 1024, .inl sp))] H := hP
  have hD : va_D A [(mo, .inr (6, [.int (0:Int32), .int kd, .int sg, .int ex, .ref wa, .long hi, .long lo, .long lh, .long ll, .ref sa, .ref ma])), (sa, .inl (cS, 1024, .inl sp))] := hD
  refine lv_iload_n hx hb d_PatternBookModel_digits_5 rfl (lv_at hl 1 rfl) ?_
  refine lv_if_lt (tgt := 16) hx hb d_PatternBookModel_digits_6 (by decide) (fun c_1 => ?_) (fun c_1 => ?_)
  · refine lv_iconst (v := (-1)) hx hb d_PatternBookModel_digits_16 (by decide) ?_
    refine lv_goto (tgt := 26) hx hb d_PatternBookModel_digits_17 (by decide) ?_
    refine W.iret hx hb hr ?_ hS.2.2 d_PatternBookModel_digits_26
    exact uEnd ((-1:Int32), (0:Int32)) (hP.sub [0, 1] rfl) (hK.sub [0] rfl) (hD.sub [0, 1] (by decide) rfl) hS (by  exact ((if_pos c_1).trans (rfl)).symm) rfl
  · have hk := hk.2 c_1
    refine lv_iload_n hx hb d_PatternBookModel_digits_9 rfl (lv_at hl 1 rfl) ?_
    refine lv_sipush (v := 1023) hx hb d_PatternBookModel_digits_10 (by decide) ?_
    refine lv_icmp_le (tgt := 20) hx hb d_PatternBookModel_digits_13 (by decide) (fun c_2 => ?_) (fun c_2 => ?_)
    · have hk := hk.1 c_2
      refine lv_aload_n hx hb d_PatternBookModel_digits_20 rfl (lv_at hl 0 rfl) ?_
      refine va_get (D := D) (ci := 6) (v := .ref sa) (C := R_PatternBookModel) (T := F_PatternBookModel) (N := 11) hx hb hts i_PatternBookModel hown hK hP 0 rfl rfl 9 (by decide) (hts _ k_305) (fun _ h9 => h9) rfl d_PatternBookModel_digits_21 ?_
      refine lv_iload_n hx hb d_PatternBookModel_digits_24 rfl (lv_at hl 1 rfl) ?_
      have hq3 := hk
      refine va_iald hx hb hK hP 1 0 rfl rfl hq3 d_PatternBookModel_digits_25 ?_
      refine W.iret hx hb hr ?_ hS.2.2 d_PatternBookModel_digits_26
      exact uEnd ((sp (Int32.toNatClampNeg x)), (0:Int32)) (hP.sub [0, 1] rfl) (hK.sub [0] rfl) (hD.sub [0, 1] (by decide) rfl) hS (by  exact ((if_neg c_1).trans ((if_pos c_2).trans (rfl))).symm) rfl
    · refine lv_iconst (v := (-1)) hx hb d_PatternBookModel_digits_16 (by decide) ?_
      refine lv_goto (tgt := 26) hx hb d_PatternBookModel_digits_17 (by decide) ?_
      refine W.iret hx hb hr ?_ hS.2.2 d_PatternBookModel_digits_26
      exact uEnd ((-1:Int32), (0:Int32)) (hP.sub [0, 1] rfl) (hK.sub [0] rfl) (hD.sub [0, 1] (by decide) rfl) hS (by  exact ((if_neg c_1).trans ((if_neg c_2).trans (rfl))).symm) rfl
set_option maxHeartbeats 4000000 in
set_option maxRecDepth 100000 in
/-- PatternBookModel.declet(I)I -/
theorem c_M_declet (l : Launch) (D : va_G) (mo : Nat) (wa : Nat) (sa : Nat) (ma : Nat) (cM : ClassId) (sz : Nat) (x : Int32) (co : Int32) (kd : Int32) (sg : Int32) (ex : Int32) (hi : Int64) (lo : Int64) (lh : Int64) (ll : Int64) (md : Nat → Int32) (hk : mok_M_declet x) : Met l y_PatternBookModel_declet (wsOf y_PatternBookModel_declet b_PatternBookModel_declet 2 (some .int)) ({ frames := 0, cells := 0, slots := 0, locals := 0 }) (uP D classes [(mo, .inr (6, [.int co, .int kd, .int sg, .int ex, .ref wa, .long hi, .long lo, .long lh, .long ll, .ref sa, .ref ma])), (ma, .inl (cM, 1000, .inl md))] [(cM, .int)] sz [.ref mo, .int x]) (uQ D classes (fun u : Int32 × Int32 => some (.int u.1)) (fun u => u = (sl m_M_declet) x md) (va_A [(mo, .inr (6, [.int co, .int kd, .int sg, .int ex, .ref wa, .long hi, .long lo, .long lh, .long ll, .ref sa, .ref ma])), (ma, .inl (cM, 1000, .inl md))] sz) (fun _ => [(cM, .int)]) (fun u => [(mo, .inr (6, [.int u.2, .int kd, .int sg, .int ex, .ref wa, .long hi, .long lo, .long lh, .long ll, .ref sa, .ref ma])), (ma, .inl (cM, 1000, .inl md))])) 0 0 (va_A [(mo, .inr (6, [.int co, .int kd, .int sg, .int ex, .ref wa, .long hi, .long lo, .long lh, .long ll, .ref sa, .ref ma])), (ma, .inl (cM, 1000, .inl md))] sz) := by
  rw [sl_eq m_M_declet]
  refine uBegin (by decide +kernel) (Nat.le_of_ble_eq_true rfl) ?_
  intro p e s m below meth c A ls H locs hx hb hr hts hown hlocks hml hin hA hP hK hD hN hS hl
  have hl : lv_has ls 2 [(0, .ref mo), (1, .int x)] := hl
  unfold mok_M_declet at hk
  refine lv_aload_n hx hb d_PatternBookModel_declet_0 rfl (lv_at hl 0 rfl) ?_
  refine lv_iconst (v := 0) hx hb d_PatternBookModel_declet_1 (by decide) ?_
  refine va_put (D := D) (ci := 6) (v := .int (0:Int32)) (ty := .int) (C := R_PatternBookModel) (T := F_PatternBookModel) (N := 11) hx hb hts i_PatternBookModel t_PatternBookModel t_PatternBookModel_ok n_PatternBookModel hown hK hP hD hS 0 rfl rfl 0 (by decide) (hts _ k_255) (fun _ h9 => h9) rfl (by decide +kernel) rfl rfl (Nat.le_of_ble_eq_true rfl) d_PatternBookModel_declet_2 (fun H locs hP hD hS => ?_)
  have hP : va_P D classes [(mo, .inr (6, [.int (0:Int32), .int kd, .int sg, .int ex, .ref wa, .long hi, .long lo, .long lh, .long ll, .ref sa, .ref ma])), (ma, .inl (cM, 1000, .inl md))] H := hP
  have hD : va_D A [(mo, .inr (6, [.int (0:Int32), .int kd, .int sg, .int ex, .ref wa, .long hi, .long lo, .long lh, .long ll, .ref sa, .ref ma])), (ma, .inl (cM, 1000, .inl md))] := hD
  refine lv_iload_n hx hb d_PatternBookModel_declet_5 rfl (lv_at hl 1 rfl) ?_
  refine lv_if_lt (tgt := 16) hx hb d_PatternBookModel_declet_6 (by decide) (fun c_1 => ?_) (fun c_1 => ?_)
  · refine lv_iconst (v := (-1)) hx hb d_PatternBookModel_declet_16 (by decide) ?_
    refine lv_goto (tgt := 26) hx hb d_PatternBookModel_declet_17 (by decide) ?_
    refine W.iret hx hb hr ?_ hS.2.2 d_PatternBookModel_declet_26
    exact uEnd ((-1:Int32), (0:Int32)) (hP.sub [0, 1] rfl) (hK.sub [0] rfl) (hD.sub [0, 1] (by decide) rfl) hS (by  exact ((if_pos c_1).trans (rfl)).symm) rfl
  · have hk := hk.2 c_1
    refine lv_iload_n hx hb d_PatternBookModel_declet_9 rfl (lv_at hl 1 rfl) ?_
    refine lv_sipush (v := 999) hx hb d_PatternBookModel_declet_10 (by decide) ?_
    refine lv_icmp_le (tgt := 20) hx hb d_PatternBookModel_declet_13 (by decide) (fun c_2 => ?_) (fun c_2 => ?_)
    · have hk := hk.1 c_2
      refine lv_aload_n hx hb d_PatternBookModel_declet_20 rfl (lv_at hl 0 rfl) ?_
      refine va_get (D := D) (ci := 6) (v := .ref ma) (C := R_PatternBookModel) (T := F_PatternBookModel) (N := 11) hx hb hts i_PatternBookModel hown hK hP 0 rfl rfl 10 (by decide) (hts _ k_351) (fun _ h9 => h9) rfl d_PatternBookModel_declet_21 ?_
      refine lv_iload_n hx hb d_PatternBookModel_declet_24 rfl (lv_at hl 1 rfl) ?_
      have hq3 := hk
      refine va_iald hx hb hK hP 1 0 rfl rfl hq3 d_PatternBookModel_declet_25 ?_
      refine W.iret hx hb hr ?_ hS.2.2 d_PatternBookModel_declet_26
      exact uEnd ((md (Int32.toNatClampNeg x)), (0:Int32)) (hP.sub [0, 1] rfl) (hK.sub [0] rfl) (hD.sub [0, 1] (by decide) rfl) hS (by  exact ((if_neg c_1).trans ((if_pos c_2).trans (rfl))).symm) rfl
    · refine lv_iconst (v := (-1)) hx hb d_PatternBookModel_declet_16 (by decide) ?_
      refine lv_goto (tgt := 26) hx hb d_PatternBookModel_declet_17 (by decide) ?_
      refine W.iret hx hb hr ?_ hS.2.2 d_PatternBookModel_declet_26
      exact uEnd ((-1:Int32), (0:Int32)) (hP.sub [0, 1] rfl) (hK.sub [0] rfl) (hD.sub [0, 1] (by decide) rfl) hS (by  exact ((if_neg c_1).trans ((if_neg c_2).trans (rfl))).symm) rfl
