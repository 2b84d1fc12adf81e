set_option maxHeartbeats 4000000 in
set_option maxRecDepth 100000 in
/-- PatternBookModel.mask(I)V -/
theorem c_M_mask (l : Launch) (D : va_G) (mo : Nat) (wa : Nat) (sa : Nat) (ma : Nat) (sz : Nat) (x : Int32) (co : Int32) (kd : Int32) (sg : Int32) (ex : Int32) (hi : Int64) (lo : Int64) (lh : Int64) (ll : Int64) : Met l y_PatternBookModel_mask (wsOf y_PatternBookModel_mask b_PatternBookModel_mask 3 none) ({ frames := 1, cells := 0, slots := 0, locals := 20 }) (uP D classes [(mo, .inr (6, [.int co, .int kd, .int sg, .int ex, .ref wa, .long hi, .long lo, .long lh, .long ll, .ref sa, .ref ma]))] [] sz [.ref mo, .int x]) (uQ D classes (fun _ : Int64 × Int64 => none) (fun u => u = (sl m_M_mask) x lh ll) (va_A [(mo, .inr (6, [.int co, .int kd, .int sg, .int ex, .ref wa, .long hi, .long lo, .long lh, .long ll, .ref sa, .ref ma]))] sz) (fun _ => []) (fun u => [(mo, .inr (6, [.int co, .int kd, .int sg, .int ex, .ref wa, .long hi, .long lo, .long u.1, .long u.2, .ref sa, .ref ma]))])) 0 0 (va_A [(mo, .inr (6, [.int co, .int kd, .int sg, .int ex, .ref wa, .long hi, .long lo, .long lh, .long ll, .ref sa, .ref ma]))] sz) := by
  rw [sl_eq m_M_mask]
  refine uBegin (by decide +kernel) (Nat.le_of_ble_eq_true rfl) ?_
  intro p e s m below meth c A ls H locs hx hb hr hts hown hlocks hml hin hA hP hK hD hN hS hl
  have hl : lv_has ls 3 [(0, .ref mo), (1, .int x)] := hl
  refine lv_iload_n hx hb d_PatternBookModel_mask_0 rfl (lv_at hl 1 rfl) ?_
  refine uCall (WR := [(mo, .inr (6, [.int co, .int kd, .int sg, .int ex, .ref wa, .long hi, .long lo, .long lh, .long ll, .ref sa, .ref ma]))]) (RT := []) (va_runS (As := [.int x]) (rest := []) ⟨hx, hb, hml, hown, hts⟩ (c_M_width l D H.size x) ⟨uCB 1 hts k_287 k_257 k_288 (by decide +kernel) rfl rfl ⟨Nat.le_of_ble_eq_true rfl, Nat.le_of_ble_eq_true rfl⟩, hts _ k_289⟩ (uPreS hK hP hD hN [] rfl (by decide) [] rfl) rfl rfl hl.1 rfl (lv_room (Nat.le_of_ble_eq_true rfl)) d_PatternBookModel_mask_1 ⟨(Nat.le_of_ble_eq_true rfl), (Nat.le_of_ble_eq_true rfl)⟩) hK hP hD hS hA [] [0] rfl rfl (by decide) (by decide) [] rfl (fun u1 H locs hu1 hP hD hK hS => ?_)
  have hP : va_P D classes [(mo, .inr (6, [.int co, .int kd, .int sg, .int ex, .ref wa, .long hi, .long lo, .long lh, .long ll, .ref sa, .ref ma]))] H := hP
  have hD : va_D A [(mo, .inr (6, [.int co, .int kd, .int sg, .int ex, .ref wa, .long hi, .long lo, .long lh, .long ll, .ref sa, .ref ma]))] := hD
  have hK : va_K D classes [] s := hK
  refine W.eq (g2 := F0 m 4 ls [.int u1]) rfl ?_
  refine lv_istore_n (lv' := [(2, .int u1), (0, .ref mo), (1, .int x)]) hx hb d_PatternBookModel_mask_4 rfl hl (by decide) rfl (fun ls hl => ?_)
  refine lv_iload_n hx hb d_PatternBookModel_mask_5 rfl (lv_at hl 0 rfl) ?_
  refine lv_sipush (v := 128) hx hb d_PatternBookModel_mask_6 (by decide) ?_
  refine lv_icmp_ge (tgt := 17) hx hb d_PatternBookModel_mask_9 (by decide) (fun c_2 => ?_) (fun c_2 => ?_)
  · refine lv_iload_n hx hb d_PatternBookModel_mask_17 rfl (lv_at hl 0 rfl) ?_
    refine lv_bipush (v := 64) hx hb d_PatternBookModel_mask_18 (by decide) ?_
    refine lv_icmp_ge (tgt := 37) hx hb d_PatternBookModel_mask_20 (by decide) (fun c_3 => ?_) (fun c_3 => ?_)
    · refine W.vret hx hb hr ?_ hS.2.2 d_PatternBookModel_mask_37
      exact uEnd (lh, ll) (hP.sub [0] rfl) (hK.sub [] rfl) (hD.sub [0] (by decide) rfl) hS (by have eu1 := hu1.symm; subst eu1; exact ((if_pos c_2).trans ((if_pos c_3).trans (rfl))).symm) rfl
    · refine lv_aload_n hx hb d_PatternBookModel_mask_23 rfl (lv_at hl 1 rfl) ?_
      refine lv_dup hx hb d_PatternBookModel_mask_24 rfl ?_
      refine va_get (D := D) (ci := 6) (v := .long ll) (C := R_PatternBookModel) (T := F_PatternBookModel) (N := 11) hx hb hts i_PatternBookModel hown hK hP 0 rfl rfl 8 (by decide) (hts _ k_274) (fun _ h9 => h9) rfl d_PatternBookModel_mask_25 ?_
      refine lv_lconst (v := 1) hx hb d_PatternBookModel_mask_28 (by decide) ?_
      refine lv_iload_n hx hb d_PatternBookModel_mask_29 rfl (lv_at hl 0 rfl) ?_
      refine lv_lshl (v := lshl_ (1:Int64) u1) hx hb d_PatternBookModel_mask_30 rfl ?_
      refine lv_lconst (v := 1) hx hb d_PatternBookModel_mask_31 (by decide) ?_
      refine lv_lsub hx hb d_PatternBookModel_mask_32 ?_
      refine lv_land hx hb d_PatternBookModel_mask_33 ?_
      refine va_put (D := D) (ci := 6) (v := .long (ll &&& ((lshl_ (1:Int64) u1) - (1:Int64)))) (ty := .long) (C := R_PatternBookModel) (T := F_PatternBookModel) (N := 11) hx hb hts i_PatternBookModel t_PatternBookModel t_PatternBookModel_ok n_PatternBookModel hown hK hP hD hS 0 rfl rfl 8 (by decide) (hts _ k_274) (fun _ h9 => h9) rfl (by decide +kernel) rfl rfl (Nat.le_of_ble_eq_true rfl) d_PatternBookModel_mask_34 (fun H locs hP hD hS => ?_)
      have hP : va_P D classes [(mo, .inr (6, [.int co, .int kd, .int sg, .int ex, .ref wa, .long hi, .long lo, .long lh, .long (ll &&& ((lshl_ (1:Int64) u1) - (1:Int64))), .ref sa, .ref ma]))] H := hP
      have hD : va_D A [(mo, .inr (6, [.int co, .int kd, .int sg, .int ex, .ref wa, .long hi, .long lo, .long lh, .long (ll &&& ((lshl_ (1:Int64) u1) - (1:Int64))), .ref sa, .ref ma]))] := hD
      refine W.vret hx hb hr ?_ hS.2.2 d_PatternBookModel_mask_37
      exact uEnd (lh, (ll &&& ((lshl_ (1:Int64) u1) - (1:Int64)))) (hP.sub [0] rfl) (hK.sub [] rfl) (hD.sub [0] (by decide) rfl) hS (by have eu1 := hu1.symm; subst eu1; exact ((if_pos c_2).trans ((if_neg c_3).trans (rfl))).symm) rfl
  · refine lv_aload_n hx hb d_PatternBookModel_mask_12 rfl (lv_at hl 1 rfl) ?_
    refine lv_lconst (v := 0) hx hb d_PatternBookModel_mask_13 (by decide) ?_
    refine va_put (D := D) (ci := 6) (v := .long (0:Int64)) (ty := .long) (C := R_PatternBookModel) (T := F_PatternBookModel) (N := 11) hx hb hts i_PatternBookModel t_PatternBookModel t_PatternBookModel_ok n_PatternBookModel hown hK hP hD hS 0 rfl rfl 7 (by decide) (hts _ k_273) (fun _ h9 => h9) rfl (by decide +kernel) rfl rfl (Nat.le_of_ble_eq_true rfl) d_PatternBookModel_mask_14 (fun H locs hP hD hS => ?_)
    have hP : va_P D classes [(mo, .inr (6, [.int co, .int kd, .int sg, .int ex, .ref wa, .long hi, .long lo, .long (0:Int64), .long ll, .ref sa, .ref ma]))] H := hP
    have hD : va_D A [(mo, .inr (6, [.int co, .int kd, .int sg, .int ex, .ref wa, .long hi, .long lo, .long (0:Int64), .long ll, .ref sa, .ref ma]))] := hD
    refine lv_iload_n hx hb d_PatternBookModel_mask_17 rfl (lv_at hl 0 rfl) ?_
    refine lv_bipush (v := 64) hx hb d_PatternBookModel_mask_18 (by decide) ?_
    refine lv_icmp_ge (tgt := 37) hx hb d_PatternBookModel_mask_20 (by decide) (fun c_4 => ?_) (fun c_4 => ?_)
    · refine W.vret hx hb hr ?_ hS.2.2 d_PatternBookModel_mask_37
      exact uEnd ((0:Int64), ll) (hP.sub [0] rfl) (hK.sub [] rfl) (hD.sub [0] (by decide) rfl) hS (by have eu1 := hu1.symm; subst eu1; exact ((if_neg c_2).trans ((if_pos c_4).trans (rfl))).symm) rfl
    · refine lv_aload_n hx hb d_PatternBookModel_mask_23 rfl (lv_at hl 1 rfl) ?_
      refine lv_dup hx hb d_PatternBookModel_mask_24 rfl ?_
      refine va_get (D := D) (ci := 6) (v := .long ll) (C := R_PatternBookModel) (T := F_PatternBookModel) (N := 11) hx hb hts i_PatternBookModel hown hK hP 0 rfl rfl 8 (by decide) (hts _ k_274) (fun _ h9 => h9) rfl d_PatternBookModel_mask_25 ?_
      refine lv_lconst (v := 1) hx hb d_PatternBookModel_mask_28 (by decide) ?_
      refine lv_iload_n hx hb d_PatternBookModel_mask_29 rfl (lv_at hl 0 rfl) ?_
      refine lv_lshl (v := lshl_ (1:Int64) u1) hx hb d_PatternBookModel_mask_30 rfl ?_
      refine lv_lconst (v := 1) hx hb d_PatternBookModel_mask_31 (by decide) ?_
      refine lv_lsub hx hb d_PatternBookModel_mask_32 ?_
      refine lv_land hx hb d_PatternBookModel_mask_33 ?_
      refine va_put (D := D) (ci := 6) (v := .long (ll &&& ((lshl_ (1:Int64) u1) - (1:Int64)))) (ty := .long) (C := R_PatternBookModel) (T := F_PatternBookModel) (N := 11) hx hb hts i_PatternBookModel t_PatternBookModel t_PatternBookModel_ok n_PatternBookModel hown hK hP hD hS 0 rfl rfl 8 (by decide) (hts _ k_274) (fun _ h9 => h9) rfl (by decide +kernel) rfl rfl (Nat.le_of_ble_eq_true rfl) d_PatternBookModel_mask_34 (fun H locs hP hD hS => ?_)
      have hP : va_P D classes [(mo, .inr (6, [.int co, .int kd, .int sg, .int ex, .ref wa, .long hi, .long lo, .long (0:Int64), .long (ll &&& ((lshl_ (1:Int64) u1) - (1:Int64))), .ref sa, .ref ma]))] H := hP
      have hD : va_D A [(mo, .inr (6, [.int co, .int kd, .int sg, .int ex, .ref wa, .long hi, .long lo, .long (0:Int64), .long (ll &&& ((lshl_ (1:Int64) u1) - (1:Int64))), .ref sa, .ref ma]))] := hD
      refine W.vret hx hb hr ?_ hS.2.2 d_PatternBookModel_mask_37
      exact uEnd ((0:Int64), (ll &&& ((lshl_ (1:Int64) u1) - (1:Int64)))) (hP.sub [0] rfl) (hK.sub [] rfl) (hD.sub [0] (by decide) rfl) hS (by have eu1 := hu1.symm; subst eu1; exact ((if_neg c_2).trans ((if_neg c_4).trans (rfl))).symm) rfl
set_option maxHeartbeats 4000000 in
set_option maxRecDepth 100000 in
/-- PatternBookModel.takeAtMost(IIII)V -/
theorem c_M_takeAtMost (l : Launch) (D : va_G) (mo : Nat) (wa : Nat) (sa : Nat) (ma : Nat) (cW : ClassId) (sz : Nat) (x : Int32) (y : Int32) (z : Int32) (v : Int32) (co : Int32) (kd : Int32) (sg : Int32) (ex : Int32) (hi : Int64) (lo : Int64) (lh : Int64) (ll : Int64) (w : Nat → Int64) (hk : mok_M_takeAtMost y z v) : Met l y_PatternBookModel_takeAtMost (wsOf y_PatternBookModel_takeAtMost b_PatternBookModel_takeAtMost 6 none) ({ frames := 2, cells := 0, slots := 0, locals := 52 }) (uP D classes [(mo, .inr (6, [.int co, .int kd, .int sg, .int ex, .ref wa, .long hi, .long lo, .long lh, .long ll, .ref sa, .ref ma])), (wa, .inl (cW, 12, .inr (.inl w)))] [(cW, .long)] sz [.ref mo, .int x, .int y, .int z, .int v]) (uQ D classes (fun _ : (Nat → Int64) => none) (fun u => u = (sl m_M_takeAtMost) x y z v lh ll w) (va_A [(mo, .inr (6, [.int co, .int kd, .int sg, .int ex, .ref wa, .long hi, .long lo, .long lh, .long ll, .ref sa, .ref ma])), (wa, .inl (cW, 12, .inr (.inl w)))] sz) (fun _ => [(cW, .long)]) (fun u => [(mo, .inr (6, [.int co, .int kd, .int sg, .int ex, .ref wa, .long hi, .long lo, .long lh, .long ll, .ref sa, .ref ma])), (wa, .inl (cW, 12, .inr (.inl u)))])) 0 0 (va_A [(mo, .inr (6, [.int co, .int kd, .int sg, .int ex, .ref wa, .long hi, .long lo, .long lh, .long ll, .ref sa, .ref ma])), (wa, .inl (cW, 12, .inr (.inl w)))] sz) := by
  rw [sl_eq m_M_takeAtMost]
  refine uBegin (by decide +kernel) (Nat.le_of_ble_eq_true rfl) ?_
  intro p e s m below meth c A ls H locs hx hb hr hts hown hlocks hml hin hA hP hK hD hN hS hl
  have hl : lv_has ls 6 [(0, .ref mo), (1, .int x), (2, .int y), (3, .int z), (4, .int v)] := hl
  unfold mok_M_takeAtMost at hk
  refine lv_aload_n hx hb d_PatternBookModel_takeAtMost_0 rfl (lv_at hl 0 rfl) ?_
  refine lv_iconst (v := 0) hx hb d_PatternBookModel_takeAtMost_1 (by decide) ?_
  refine lv_iload_n hx hb d_PatternBookModel_takeAtMost_2 rfl (lv_at hl 2 rfl) ?_
  have ho1 := hk.1
  have hk := hk.2
  refine uCall (WR := []) (RT := []) (va_runV (As := [.int (0:Int32), .int y]) (rest := []) ⟨hx, hb, hml, hown, hts⟩ (c_M_take l D mo wa sa ma cW H.size (0:Int32) y co kd sg ex hi lo lh ll w ho1) ⟨uCB 2 hts k_290 k_257 k_291 (by decide +kernel) rfl rfl ⟨Nat.le_of_ble_eq_true rfl, Nat.le_of_ble_eq_true rfl⟩, hts _ k_292, hts _ k_293⟩ (uPreV (ci := 6) (q0 := 0) hK hP hD hN [0, 1] rfl (by decide) [0] rfl rfl rfl) rfl rfl hl.1 rfl (lv_room (Nat.le_of_ble_eq_true rfl)) d_PatternBookModel_takeAtMost_3 ⟨(Nat.le_of_ble_eq_true rfl), (Nat.le_of_ble_eq_true rfl)⟩) hK hP hD hS hA [0, 1] [] rfl rfl (by decide) (by decide) [] rfl (fun u1 H locs hu1 hP hD hK hS => ?_)
  have hP : va_P D classes [(mo, .inr (6, [.int co, .int kd, .int sg, .int ex, .ref wa, .long hi, .long lo, .long lh, .long ll, .ref sa, .ref ma])), (wa, .inl (cW, 12, .inr (.inl u1)))] H := hP
  have hD : va_D A [(mo, .inr (6, [.int co, .int kd, .int sg, .int ex, .ref wa, .long hi, .long lo, .long lh, .long ll, .ref sa, .ref ma])), (wa, .inl (cW, 12, .inr (.inl u1)))] := hD
  have hK : va_K D classes [(cW, .long)] s := hK
  refine W.eq (g2 := F0 m 6 ls []) rfl ?_
  refine lv_iload_n hx hb d_PatternBookModel_takeAtMost_6 rfl (lv_at hl 1 rfl) ?_
  refine lv_if_le (tgt := 36) hx hb d_PatternBookModel_takeAtMost_7 (by decide) (fun c_2 => ?_) (fun c_2 => ?_)
  · have hk := hk.1
    refine lv_aload_n hx hb d_PatternBookModel_takeAtMost_36 rfl (lv_at hl 0 rfl) ?_
    refine lv_iconst (v := 1) hx hb d_PatternBookModel_takeAtMost_37 (by decide) ?_
    refine lv_bipush (v := 10) hx hb d_PatternBookModel_takeAtMost_38 (by decide) ?_
    refine lv_iload_n hx hb d_PatternBookModel_takeAtMost_40 rfl (lv_at hl 3 rfl) ?_
    have ho3 := hk
    refine uCall (WR := []) (RT := []) (va_runV (As := [.int (1:Int32), .int (10:Int32), .int z]) (rest := []) ⟨hx, hb, hml, hown, hts⟩ (c_M_power1 l D mo wa sa ma cW H.size (10:Int32) z co kd sg ex hi lo lh ll u1 ho3) ⟨uCB 3 hts k_294 k_257 k_295 (by decide +kernel) rfl rfl ⟨Nat.le_of_ble_eq_true rfl, Nat.le_of_ble_eq_true rfl⟩, hts _ k_296, hts _ k_297⟩ (uPreV (ci := 6) (q0 := 0) hK hP hD hN [0, 1] rfl (by decide) [0] rfl rfl rfl) rfl rfl hl.1 rfl (lv_room (Nat.le_of_ble_eq_true rfl)) d_PatternBookModel_takeAtMost_41 ⟨(Nat.le_of_ble_eq_true rfl), (Nat.le_of_ble_eq_true rfl)⟩) hK hP hD hS hA [0, 1] [] rfl rfl (by decide) (by decide) [] rfl (fun u3 H locs hu3 hP hD hK hS => ?_)
    have hP : va_P D classes [(mo, .inr (6, [.int co, .int kd, .int sg, .int ex, .ref wa, .long hi, .long lo, .long lh, .long ll, .ref sa, .ref ma])), (wa, .inl (cW, 12, .inr (.inl u3)))] H := hP
    have hD : va_D A [(mo, .inr (6, [.int co, .int kd, .int sg, .int ex, .ref wa, .long hi, .long lo, .long lh, .long ll, .ref sa, .ref ma])), (wa, .inl (cW, 12, .inr (.inl u3)))] := hD
    have hK : va_K D classes [(cW, .long)] s := hK
    refine W.eq (g2 := F0 m 44 ls []) rfl ?_
    refine lv_aload_n hx hb d_PatternBookModel_takeAtMost_44 rfl (lv_at hl 0 rfl) ?_
    refine lv_iconst (v := 0) hx hb d_PatternBookModel_takeAtMost_45 (by decide) ?_
    refine lv_iconst (v := 1) hx hb d_PatternBookModel_takeAtMost_46 (by decide) ?_
    refine uCall (WR := []) (RT := []) (va_runV (As := [.int (0:Int32), .int (1:Int32)]) (rest := []) ⟨hx, hb, hml, hown, hts⟩ (c_M_isBelow l D mo wa sa ma cW H.size co kd sg ex hi lo lh ll u3) ⟨uCB 2 hts k_298 k_257 k_299 (by decide +kernel) rfl rfl ⟨Nat.le_of_ble_eq_true rfl, Nat.le_of_ble_eq_true rfl⟩, hts _ k_300, hts _ k_301⟩ (uPreV (ci := 6) (q0 := 0) hK hP hD hN [0, 1] rfl (by decide) [0] rfl rfl rfl) rfl rfl hl.1 rfl (lv_room (Nat.le_of_ble_eq_true rfl)) d_PatternBookModel_takeAtMost_47 ⟨(Nat.le_of_ble_eq_true rfl), (Nat.le_of_ble_eq_true rfl)⟩) hK hP hD hS hA [0, 1] [] rfl rfl (by decide) (by decide) [] rfl (fun u4 H locs hu4 hP hD hK hS => ?_)
    have hP : va_P D classes [(mo, .inr (6, [.int co, .int kd, .int sg, .int ex, .ref wa, .long hi, .long lo, .long lh, .long ll, .ref sa, .ref ma])), (wa, .inl (cW, 12, .inr (.inl u3)))] H := hP
    have hD : va_D A [(mo, .inr (6, [.int co, .int kd, .int sg, .int ex, .ref wa, .long hi, .long lo, .long lh, .long ll, .ref sa, .ref ma])), (wa, .inl (cW, 12, .inr (.inl u3)))] := hD
    have hK : va_K D classes [(cW, .long)] s := hK
    refine W.eq (g2 := F0 m 50 ls [.int (bI u4)]) rfl ?_
    refine lv_if_ne (tgt := 59) hx hb d_PatternBookModel_takeAtMost_50 (by decide) (fun c_5 => ?_) (fun c_5 => ?_)
    · refine W.vret hx hb hr ?_ hS.2.2 d_PatternBookModel_takeAtMost_59
      exact uEnd u3 (hP.sub [0, 1] rfl) (hK.sub [0] rfl) (hD.sub [0, 1] (by decide) rfl) hS (by have eu1 := hu1.symm; subst eu1; have eu3 := hu3.symm; subst eu3; have eu4 := hu4.symm; subst eu4; exact ((if_pos c_2).trans ((if_neg c_5).trans (rfl))).symm) rfl
    · refine lv_aload_n hx hb d_PatternBookModel_takeAtMost_53 rfl (lv_at hl 0 rfl) ?_
      refine lv_iconst (v := 0) hx hb d_PatternBookModel_takeAtMost_54 (by decide) ?_
      refine lv_lconst (v := 0) hx hb d_PatternBookModel_takeAtMost_55 (by decide) ?_
      refine uCall (WR := []) (RT := []) (va_runV (As := [.int (0:Int32), .long (0:Int64)]) (rest := []) ⟨hx, hb, hml, hown, hts⟩ (c_M_be0 l D mo wa sa ma cW H.size (0:Int64) co kd sg ex hi lo lh ll u3) ⟨uCB 2 hts k_265 k_257 k_266 (by decide +kernel) rfl rfl ⟨Nat.le_of_ble_eq_true rfl, Nat.le_of_ble_eq_true rfl⟩, hts _ k_267, hts _ k_268⟩ (uPreV (ci := 6) (q0 := 0) hK hP hD hN [0, 1] rfl (by decide) [0] rfl rfl rfl) rfl rfl hl.1 rfl (lv_room (Nat.le_of_ble_eq_true rfl)) d_PatternBookModel_takeAtMost_56 ⟨(Nat.le_of_ble_eq_true rfl), (Nat.le_of_ble_eq_true rfl)⟩) hK hP hD hS hA [0, 1] [] rfl rfl (by decide) (by decide) [] rfl (fun u6 H locs hu6 hP hD hK hS => ?_)
      have hP : va_P D classes [(mo, .inr (6, [.int co, .int kd, .int sg, .int ex, .ref wa, .long hi, .long lo, .long lh, .long ll, .ref sa, .ref ma])), (wa, .inl (cW, 12, .inr (.inl u6)))] H := hP
      have hD : va_D A [(mo, .inr (6, [.int co, .int kd, .int sg, .int ex, .ref wa, .long hi, .long lo, .long lh, .long ll, .ref sa, .ref ma])), (wa, .inl (cW, 12, .inr (.inl u6)))] := hD
      have hK : va_K D classes [(cW, .long)] s := hK
      refine W.eq (g2 := F0 m 59 ls []) rfl ?_
      refine W.vret hx hb hr ?_ hS.2.2 d_PatternBookModel_takeAtMost_59
      exact uEnd u6 (hP.sub [0, 1] rfl) (hK.sub [0] rfl) (hD.sub [0, 1] (by decide) rfl) hS (by have eu1 := hu1.symm; subst eu1; have eu3 := hu3.symm; subst eu3; have eu4 := hu4.symm; subst eu4; have eu6 := hu6.symm; subst eu6; exact ((if_pos c_2).trans ((if_pos c_5).trans (rfl))).symm) rfl
  · have hk := hk.2
    refine lv_iload hx hb d_PatternBookModel_takeAtMost_10 (lv_at hl 4 rfl) ?_
    refine lv_iconst (v := 2) hx hb d_PatternBookModel_takeAtMost_12 (by decide) ?_
    refine lv_iadd hx hb d_PatternBookModel_takeAtMost_13 ?_
    refine lv_istore (lv' := [(5, .int (v + (2:Int32))), (0, .ref mo), (1, .int x), (2, .int y), (3, .int z), (4, .int v)]) hx hb d_PatternBookModel_takeAtMost_14 hl (by decide) rfl (fun ls hl => ?_)
    refine lv_aload_n hx hb d_PatternBookModel_takeAtMost_16 rfl (lv_at hl 1 rfl) ?_
    refine va_get (D := D) (ci := 6) (v := .ref wa) (C := R_PatternBookModel) (T := F_PatternBookModel) (N := 11) hx hb hts i_PatternBookModel hown hK hP 0 rfl rfl 4 (by decide) (hts _ k_263) (fun _ h9 => h9) rfl d_PatternBookModel_takeAtMost_17 ?_
    refine lv_iload hx hb d_PatternBookModel_takeAtMost_20 (lv_at hl 0 rfl) ?_
    refine lv_bipush (v := 32) hx hb d_PatternBookModel_takeAtMost_22 (by decide) ?_
    refine lv_idiv hx hb d_PatternBookModel_takeAtMost_24 (by decide) ?_
    refine lv_dup2_11 hx hb d_PatternBookModel_takeAtMost_25 rfl rfl ?_
    have hq7 := hk.1
    have hk := hk.2
    refine va_lald hx hb hK hP 1 0 rfl rfl hq7 d_PatternBookModel_takeAtMost_26 ?_
    refine lv_lconst (v := 1) hx hb d_PatternBookModel_takeAtMost_27 (by decide) ?_
    refine lv_iload hx hb d_PatternBookModel_takeAtMost_28 (lv_at hl 0 rfl) ?_
    refine lv_bipush (v := 32) hx hb d_PatternBookModel_takeAtMost_30 (by decide) ?_
    refine lv_irem hx hb d_PatternBookModel_takeAtMost_32 (by decide) ?_
    refine lv_lshl (v := lshl_ (1:Int64) ((v + (2:Int32)) - (v + (2:Int32)) / (32:Int32) * (32:Int32))) hx hb d_PatternBookModel_takeAtMost_33 rfl ?_
    refine lv_lor hx hb d_PatternBookModel_takeAtMost_34 ?_
    have hq8 := hk.1
    have hk := hk.2
    refine va_last hx hb hK hP hD hS 1 0 rfl rfl hq8 d_PatternBookModel_takeAtMost_35 (fun H locs hP hD hS => ?_)
    have hP : va_P D classes [(mo, .inr (6, [.int co, .int kd, .int sg, .int ex, .ref wa, .long hi, .long lo, .long lh, .long ll, .ref sa, .ref ma])), (wa, .inl (cW, 12, .inr (.inl (vp_updL u1 (Int32.toNatClampNeg ((v + (2:Int32)) / (32:Int32))) ((u1 (Int32.toNatClampNeg ((v + (2:Int32)) / (32:Int32)))) ||| (lshl_ (1:Int64) ((v + (2:Int32)) - (v + (2:Int32)) / (32:Int32) * (32:Int32))))))))] H := hP
    have hD : va_D A [(mo, .inr (6, [.int co, .int kd, .int sg, .int ex, .ref wa, .long hi, .long lo, .long lh, .long ll, .ref sa, .ref ma])), (wa, .inl (cW, 12, .inr (.inl (vp_updL u1 (Int32.toNatClampNeg ((v + (2:Int32)) / (32:Int32))) ((u1 (Int32.toNatClampNeg ((v + (2:Int32)) / (32:Int32)))) ||| (lshl_ (1:Int64) ((v + (2:Int32)) - (v + (2:Int32)) / (32:Int32) * (32:Int32))))))))] := hD
    refine lv_aload_n hx hb d_PatternBookModel_takeAtMost_36 rfl (lv_at hl 1 rfl) ?_
    refine lv_iconst (v := 1) hx hb d_PatternBookModel_takeAtMost_37 (by decide) ?_
    refine lv_bipush (v := 10) hx hb d_PatternBookModel_takeAtMost_38 (by decide) ?_
    refine lv_iload_n hx hb d_PatternBookModel_takeAtMost_40 rfl (lv_at hl 4 rfl) ?_
    have ho9 := hk
    refine uCall (WR := []) (RT := []) (va_runV (As := [.int (1:Int32), .int (10:Int32), .int z]) (rest := []) ⟨hx, hb, hml, hown, hts⟩ (c_M_power1 l D mo wa sa ma cW H.size (10:Int32) z co kd sg ex hi lo lh ll (vp_updL u1 (Int32.toNatClampNeg ((v + (2:Int32)) / (32:Int32))) ((u1 (Int32.toNatClampNeg ((v + (2:Int32)) / (32:Int32)))) ||| (lshl_ (1:Int64) ((v + (2:Int32)) - (v + (2:Int32)) / (32:Int32) * (32:Int32))))) ho9) ⟨uCB 3 hts k_294 k_257 k_295 (by decide +kernel) rfl rfl ⟨Nat.le_of_ble_eq_true rfl, Nat.le_of_ble_eq_true rfl⟩, hts _ k_296, hts _ k_297⟩ (uPreV (ci := 6) (q0 := 0) hK hP hD hN [0, 1] rfl (by decide) [0] rfl rfl rfl) rfl rfl hl.1 rfl (lv_room (Nat.le_of_ble_eq_true rfl)) d_PatternBookModel_takeAtMost_41 ⟨(Nat.le_of_ble_eq_true rfl), (Nat.le_of_ble_eq_true rfl)⟩) hK hP hD hS hA [0, 1] [] rfl rfl (by decide) (by decide) [] rfl (fun u7 H locs hu7 hP hD hK hS => ?_)
    have hP : va_P D classes [(mo, .inr (6, [.int co, .int kd, .int sg, .int ex, .ref wa, .long hi, .long lo, .long lh, .long ll, .ref sa, .ref ma])), (wa, .inl (cW, 12, .inr (.inl u7)))] H := hP
    have hD : va_D A [(mo, .inr (6, [.int co, .int kd, .int sg, .int ex, .ref wa, .long hi, .long lo, .long lh, .long ll, .ref sa, .ref ma])), (wa, .inl (cW, 12, .inr (.inl u7)))] := hD
    have hK : va_K D classes [(cW, .long)] s := hK
    refine W.eq (g2 := F0 m 44 ls []) rfl ?_
    refine lv_aload_n hx hb d_PatternBookModel_takeAtMost_44 rfl (lv_at hl 1 rfl) ?_
    refine lv_iconst (v := 0) hx hb d_PatternBookModel_takeAtMost_45 (by decide) ?_
    refine lv_iconst (v := 1) hx hb d_PatternBookModel_takeAtMost_46 (by decide) ?_
    refine uCall (WR := []) (RT := []) (va_runV (As := [.int (0:Int32), .int (1:Int32)]) (rest := []) ⟨hx, hb, hml, hown, hts⟩ (c_M_isBelow l D mo wa sa ma cW H.size co kd sg ex hi lo lh ll u7) ⟨uCB 2 hts k_298 k_257 k_299 (by decide +kernel) rfl rfl ⟨Nat.le_of_ble_eq_true rfl, Nat.le_of_ble_eq_true rfl⟩, hts _ k_300, hts _ k_301⟩ (uPreV (ci := 6) (q0 := 0) hK hP hD hN [0, 1] rfl (by decide) [0] rfl rfl rfl) rfl rfl hl.1 rfl (lv_room (Nat.le_of_ble_eq_true rfl)) d_PatternBookModel_takeAtMost_47 ⟨(Nat.le_of_ble_eq_true rfl), (Nat.le_of_ble_eq_true rfl)⟩) hK hP hD hS hA [0, 1] [] rfl rfl (by decide) (by decide) [] rfl (fun u8 H locs hu8 hP hD hK hS => ?_)
    have hP : va_P D classes [(mo, .inr (6, [.int co, .int kd, .int sg, .int ex, .ref wa, .long hi, .long lo, .long lh, .long ll, .ref sa, .ref ma])), (wa, .inl (cW, 12, .inr (.inl u7)))] H := hP
    have hD : va_D A [(mo, .inr (6, [.int co, .int kd, .int sg, .int ex, .ref wa, .long hi, .long lo, .long lh, .long ll, .ref sa, .ref ma])), (wa, .inl (cW, 12, .inr (.inl u7)))] := hD
    have hK : va_K D classes [(cW, .long)] s := hK
    refine W.eq (g2 := F0 m 50 ls [.int (bI u8)]) rfl ?_
    refine lv_if_ne (tgt := 59) hx hb d_PatternBookModel_takeAtMost_50 (by decide) (fun c_9 => ?_) (fun c_9 => ?_)
    · refine W.vret hx hb hr ?_ hS.2.2 d_PatternBookModel_takeAtMost_59
      exact uEnd u7 (hP.sub [0, 1] rfl) (hK.sub [0] rfl) (hD.sub [0, 1] (by decide) rfl) hS (by have eu1 := hu1.symm; subst eu1; have eu7 := hu7.symm; subst eu7; have eu8 := hu8.symm; subst eu8; exact ((if_neg c_2).trans ((if_neg c_9).trans (rfl))).symm) rfl
    · refine lv_aload_n hx hb d_PatternBookModel_takeAtMost_53 rfl (lv_at hl 1 rfl) ?_
      refine lv_iconst (v := 0) hx hb d_PatternBookModel_takeAtMost_54 (by decide) ?_
      refine lv_lconst (v := 0) hx hb d_PatternBookModel_takeAtMost_55 (by decide) ?_
      refine uCall (WR := []) (RT := []) (va_runV (As := [.int (0:Int32), .long (0:Int64)]) (rest := []) ⟨hx, hb, hml, hown, hts⟩ (c_M_be0 l D mo wa sa ma cW H.size (0:Int64) co kd sg ex hi lo lh ll u7) ⟨uCB 2 hts k_265 k_257 k_266 (by decide +kernel) rfl rfl ⟨Nat.le_of_ble_eq_true rfl, Nat.le_of_ble_eq_true rfl⟩, hts _ k_267, hts _ k_268⟩ (uPreV (ci := 6) (q0 := 0) hK hP hD hN [0, 1] rfl (by decide) [0] rfl rfl rfl) rfl rfl hl.1 rfl (lv_room (Nat.le_of_ble_eq_true rfl)) d_PatternBookModel_takeAtMost_56 ⟨(Nat.le_of_ble_eq_true rfl), (Nat.le_of_ble_eq_true rfl)⟩) hK hP hD hS hA [0, 1] [] rfl rfl (by decide) (by decide) [] rfl (fun u10 H locs hu10 hP hD hK hS => ?_)
      have hP : va_P D classes [(mo, .inr (6, [.int co, .int kd, .int sg, .int ex, .ref wa, .long hi, .long lo, .long lh, .long ll, .ref sa, .ref ma])), (wa, .inl (cW, 12, .inr (.inl u10)))] H := hP
      have hD : va_D A [(mo, .inr (6, [.int co, .int kd, .int sg, .int ex, .ref wa, .long hi, .long lo, .long lh, .long ll, .ref sa, .ref ma])), (wa, .inl (cW, 12, .inr (.inl u10)))] := hD
      have hK : va_K D classes [(cW, .long)] s := hK
      refine W.eq (g2 := F0 m 59 ls []) rfl ?_
      refine W.vret hx hb hr ?_ hS.2.2 d_PatternBookModel_takeAtMost_59
      exact uEnd u10 (hP.sub [0, 1] rfl) (hK.sub [0] rfl) (hD.sub [0, 1] (by decide) rfl) hS (by have eu1 := hu1.symm; subst eu1; have eu7 := hu7.symm; subst eu7; have eu8 := hu8.symm; subst eu8; have eu10 := hu10.symm; subst eu10; exact ((if_neg c_2).trans ((if_pos c_9).trans (rfl))).symm) rfl
set_option maxHeartbeats 4000000 in
set_option maxRecDepth 100000 in
/-- the loop of PatternBookModel.takeDigits -/
theorem lp_M_takeDigits (l : Launch) (D : va_G) (mo : Nat) (wa : Nat) (sa : Nat) (ma : Nat) (cW : ClassId) (cS : ClassId) (x : Int32) (co : Int32) (kd : Int32) (sg : Int32) (ex : Int32) (hi : Int64) (lo : Int64) (lh : Int64) (ll : Int64) (w : Nat → Int64) (sp : Nat → Int32) {p : Program} {e : Env} {s : State} {m : MethodId} {below : List Frame} {meth : Method} {c : Code} {A : Nat → Prop} {args : Array Value} {F : (Nat → Int64)} (hx : p.tables.exec = Jvm.exec) (hb : c.code = b_PatternBookModel_takeDigits) (hr : meth.sig.returnType = none) (hts : ∀ w ∈ wt, w.before args s = true) (hown : s.vm.findClass R_PatternBookModel = some m.cls) (hlocks : meth.locks = false) (hml : c.maxLocals = 3) (hA : ∀ q : Nat, s.heap.size ≤ q → A q) (hN : uN s) : ∀ (n : Nat) (x2 : Int32) (y1_a : (Nat → Int64)) (H : Heap) (locs : List Loc) (ls : Array Slot), mlk_M_takeDigits n lh ll x2 → mlf_M_takeDigits n lh ll sp x2 y1_a = F → va_K D classes [(cW, .long), (cS, .int)] s → va_P D classes [(mo, .inr (6, [.int co, .int kd, .int sg, .int ex, .ref wa, .long hi, .long lo, .long lh, .long ll, .ref sa, .ref ma])), (wa, .inl (cW, 12, .inr (.inl y1_a))), (sa, .inl (cS, 1024, .inl sp))] H → va_D A [(mo, .inr (6, [.int co, .int kd, .int sg, .int ex, .ref wa, .long hi, .long lo, .long lh, .long ll, .ref sa, .ref ma])), (wa, .inl (cW, 12, .inr (.inl y1_a))), (sa, .inl (cS, 1024, .inl sp))] → va_S A s.heap H locs → lv_has ls 3 [(2, .int x2), (0, .ref mo), (1, .int x)] → W p l e (headSpec (wsOf y_PatternBookModel_takeDigits b_PatternBookModel_takeDigits 3 none) ({ frames := 2, cells := 0, slots := 0, locals := 45 })).room s m args below meth c H locs (0) (0) (MQ below (uQ D classes (fun _ : (Nat → Int64) => none) (fun u => u = F) A (fun _ => [(cW, .long), (cS, .int)]) (fun u => [(mo, .inr (6, [.int co, .int kd, .int sg, .int ex, .ref wa, .long hi, .long lo, .long lh, .long ll, .ref sa, .ref ma])), (wa, .inl (cW, 12, .inr (.inl u))), (sa, .inl (cS, 1024, .inl sp))])) args s 0 0 A) (F0 m 10 ls []) := by
  intro n
  induction n with
  | zero => intro x2 y1_a H locs ls hk; exact (show False from hk).elim
  | succ n ih =>
    intro x2 y1_a H locs ls hk hF hK hP hD hS hl
    unfold mlk_M_takeDigits at hk
    refine lv_iload_n hx hb d_PatternBookModel_takeDigits_10 rfl (lv_at hl 0 rfl) ?_
    refine lv_if_lt (tgt := 43) hx hb d_PatternBookModel_takeDigits_11 (by decide) (fun c_2 => ?_) (fun c_2 => ?_)
    · refine W.vret hx hb hr ?_ hS.2.2 d_PatternBookModel_takeDigits_43
      exact uEnd y1_a (hP.sub [0, 1, 2] rfl) (hK.sub [0, 1] rfl) (hD.sub [0, 1, 2] (by decide) rfl) hS (by  exact (show mlf_M_takeDigits (n + 1) lh ll sp x2 y1_a = _ from (if_pos c_2).trans (rfl)).symm.trans hF) rfl
    · have hk := hk.2 c_2
      refine lv_aload_n hx hb d_PatternBookModel_takeDigits_14 rfl (lv_at hl 1 rfl) ?_
      refine lv_iconst (v := 0) hx hb d_PatternBookModel_takeDigits_15 (by decide) ?_
      refine lv_sipush (v := 1000) hx hb d_PatternBookModel_takeDigits_16 (by decide) ?_
      refine lv_aload_n hx hb d_PatternBookModel_takeDigits_19 rfl (lv_at hl 1 rfl) ?_
      refine va_get (D := D) (ci := 6) (v := .ref sa) (C := R_PatternBookModel) (T := F_PatternBookModel) (N := 11) hx hb hts i_PatternBookModel hown hK hP 0 rfl rfl 9 (by decide) (hts _ k_305) (fun _ h9 => h9) rfl d_PatternBookModel_takeDigits_20 ?_
      refine lv_aload_n hx hb d_PatternBookModel_takeDigits_23 rfl (lv_at hl 1 rfl) ?_
      refine lv_bipush (v := 10) hx hb d_PatternBookModel_takeDigits_24 (by decide) ?_
      refine lv_iload_n hx hb d_PatternBookModel_takeDigits_26 rfl (lv_at hl 0 rfl) ?_
      refine lv_imul hx hb d_PatternBookModel_takeDigits_27 ?_
      refine lv_bipush (v := 10) hx hb d_PatternBookModel_takeDigits_28 (by decide) ?_
      have ho3 := hk.1
      have hk := hk.2
      refine uCall (WR := [(wa, .inl (cW, 12, .inr (.inl y1_a))), (sa, .inl (cS, 1024, .inl sp))]) (RT := [(cW, .long), (cS, .int)]) (va_runV (As := [.int ((10:Int32) * x2), .int (10:Int32)]) (rest := [.ref sa, .int (1000:Int32), .int (0:Int32), .ref mo]) ⟨hx, hb, hml, hown, hts⟩ (c_M_field l D mo wa sa ma H.size ((10:Int32) * x2) (10:Int32) co kd sg ex hi lo lh ll ho3) ⟨uCB 2 hts k_306 k_257 k_307 (by decide +kernel) rfl rfl ⟨Nat.le_of_ble_eq_true rfl, Nat.le_of_ble_eq_true rfl⟩, hts _ k_308, hts _ k_309⟩ (uPreV (ci := 6) (q0 := 0) hK hP hD hN [0] rfl (by decide) [] rfl rfl rfl) rfl rfl hl.1 rfl (lv_room (Nat.le_of_ble_eq_true rfl)) d_PatternBookModel_takeDigits_30 ⟨(Nat.le_of_ble_eq_true rfl), (Nat.le_of_ble_eq_true rfl)⟩) hK hP hD hS hA [0] [1, 2] rfl rfl (by decide) (by decide) [0, 1] rfl (fun u3 H locs hu3 hP hD hK hS => ?_)
      have hP : va_P D classes [(wa, .inl (cW, 12, .inr (.inl y1_a))), (sa, .inl (cS, 1024, .inl sp)), (mo, .inr (6, [.int co, .int kd, .int sg, .int ex, .ref wa, .long hi, .long lo, .long lh, .long ll, .ref sa, .ref ma]))] H := hP
      have hD : va_D A [(wa, .inl (cW, 12, .inr (.inl y1_a))), (sa, .inl (cS, 1024, .inl sp)), (mo, .inr (6, [.int co, .int kd, .int sg, .int ex, .ref wa, .long hi, .long lo, .long lh, .long ll, .ref sa, .ref ma]))] := hD
      have hK : va_K D classes [(cW, .long), (cS, .int)] s := hK
      refine W.eq (g2 := F0 m 33 ls [.int u3, .ref sa, .int (1000:Int32), .int (0:Int32), .ref mo]) rfl ?_
      have hk := hk u3 hu3
      have hq4 := hk.1
      have hk := hk.2
      refine va_iald hx hb hK hP 1 1 rfl rfl hq4 d_PatternBookModel_takeDigits_33 ?_
      refine uCall (WR := [(sa, .inl (cS, 1024, .inl sp))]) (RT := [(cS, .int)]) (va_runV (As := [.int (0:Int32), .int (1000:Int32), .int (sp (Int32.toNatClampNeg u3))]) (rest := []) ⟨hx, hb, hml, hown, hts⟩ (c_M_times0 l D mo wa sa ma cW H.size (1000:Int32) (sp (Int32.toNatClampNeg u3)) co kd sg ex hi lo lh ll y1_a) ⟨uCB 3 hts k_269 k_257 k_270 (by decide +kernel) rfl rfl ⟨Nat.le_of_ble_eq_true rfl, Nat.le_of_ble_eq_true rfl⟩, hts _ k_271, hts _ k_272⟩ (uPreV (ci := 6) (q0 := 2) hK hP hD hN [2, 0] rfl (by decide) [0] rfl rfl rfl) rfl rfl hl.1 rfl (lv_room (Nat.le_of_ble_eq_true rfl)) d_PatternBookModel_takeDigits_34 ⟨(Nat.le_of_ble_eq_true rfl), (Nat.le_of_ble_eq_true rfl)⟩) hK hP hD hS hA [2, 0] [1] rfl rfl (by decide) (by decide) [1] rfl (fun u4 H locs hu4 hP hD hK hS => ?_)
      have hP : va_P D classes [(sa, .inl (cS, 1024, .inl sp)), (mo, .inr (6, [.int co, .int kd, .int sg, .int ex, .ref wa, .long hi, .long lo, .long lh, .long ll, .ref sa, .ref ma])), (wa, .inl (cW, 12, .inr (.inl u4)))] H := hP
      have hD : va_D A [(sa, .inl (cS, 1024, .inl sp)), (mo, .inr (6, [.int co, .int kd, .int sg, .int ex, .ref wa, .long hi, .long lo, .long lh, .long ll, .ref sa, .ref ma])), (wa, .inl (cW, 12, .inr (.inl u4)))] := hD
      have hK : va_K D classes [(cS, .int), (cW, .long)] s := hK
      refine W.eq (g2 := F0 m 37 ls []) rfl ?_
      refine lv_iinc (v := (x2 + (-1:Int32))) (lv' := [(2, .int (x2 + (-1:Int32))), (0, .ref mo), (1, .int x)]) hx hb d_PatternBookModel_takeDigits_37 hl (k := 0) rfl rfl (by decide) rfl (fun ls hl => ?_)
      refine lv_goto (tgt := 10) hx hb d_PatternBookModel_takeDigits_40 (by decide) ?_
      exact ih (x2 + (-1:Int32)) u4 _ _ _ hk (by have eu3 := hu3.symm; subst eu3; have eu4 := hu4.symm; subst eu4; exact (show mlf_M_takeDigits (n + 1) lh ll sp x2 y1_a = _ from (if_neg c_2).trans (rfl)).symm.trans hF) (hK.sub [1, 0] rfl) (hP.sub [1, 2, 0] rfl) (hD.sub [1, 2, 0] (by decide) rfl) hS (lv_sub hl [0, 1, 2] rfl)
set_option maxHeartbeats 4000000 in
set_option maxRecDepth 100000 in
/-- PatternBookModel.takeDigits(I)V -/
theorem c_M_takeDigits (l : Launch) (D : va_G) (mo : Nat) (wa : Nat) (sa : Nat) (ma : Nat) (cW : ClassId) (cS : ClassId) (sz : Nat) (x : Int32) (co : Int32) (kd : Int32) (sg : Int32) (ex : Int32) (hi : Int64) (lo : Int64) (lh : Int64) (ll : Int64) (w : Nat → Int64) (sp : Nat → Int32) (hk : mok_M_takeDigits x lh ll) : Met l y_PatternBookModel_takeDigits (wsOf y_PatternBookModel_takeDigits b_PatternBookModel_takeDigits 3 none) ({ frames := 2, cells := 0, slots := 0, locals := 45 }) (uP D classes [(mo, .inr (6, [.int co, .int kd, .int sg, .int ex, .ref wa, .long hi, .long lo, .long lh, .long ll, .ref sa, .ref ma])), (wa, .inl (cW, 12, .inr (.inl w))), (sa, .inl (cS, 1024, .inl sp))] [(cW, .long), (cS, .int)] sz [.ref mo, .int x]) (uQ D classes (fun _ : (Nat → Int64) => none) (fun u => u = (sl m_M_takeDigits) x lh ll w sp) (va_A [(mo, .inr (6, [.int co, .int kd, .int sg, .int ex, .ref wa, .long hi, .long lo, .long lh, .long ll, .ref sa, .ref ma])), (wa, .inl (cW, 12, .inr (.inl w))), (sa, .inl (cS, 1024, .inl sp))] sz) (fun _ => [(cW, .long), (cS, .int)]) (fun u => [(mo, .inr (6, [.int co, .int kd, .int sg, .int ex, .ref wa, .long hi, .long lo, .long lh, .long ll, .ref sa, .ref ma])), (wa, .inl (cW, 12, .inr (.inl u))), (sa, .inl (cS, 1024, .inl sp))])) 0 0 (va_A [(mo, .inr (6, [.int co, .int kd, .int sg, .int ex, .ref wa, .long hi, .long lo, .long lh, .long ll, .ref sa, .ref ma])), (wa, .inl (cW, 12, .inr (.inl w))), (sa, .inl (cS, 1024, .inl sp))] sz) := by
  rw [sl_eq m_M_takeDigits]
  refine uBegin (by decide +kernel) (Nat.le_of_ble_eq_true rfl) ?_
  intro p e s m below meth c A ls H locs hx hb hr hts hown hlocks hml hin hA hP hK hD hN hS hl
  have hl : lv_has ls 3 [(0, .ref mo), (1, .int x)] := hl
  unfold mok_M_takeDigits at hk
  refine lv_iload_n hx hb d_PatternBookModel_takeDigits_0 rfl (lv_at hl 1 rfl) ?_
  refine uCall (WR := [(mo, .inr (6, [.int co, .int kd, .int sg, .int ex, .ref wa, .long hi, .long lo, .long lh, .long ll, .ref sa, .ref ma])), (wa, .inl (cW, 12, .inr (.inl w))), (sa, .inl (cS, 1024, .inl sp))]) (RT := [(cW, .long), (cS, .int)]) (va_runS (As := [.int x]) (rest := []) ⟨hx, hb, hml, hown, hts⟩ (c_M_tail l D H.size x) ⟨uCB 1 hts k_302 k_257 k_303 (by decide +kernel) rfl rfl ⟨Nat.le_of_ble_eq_true rfl, Nat.le_of_ble_eq_true rfl⟩, hts _ k_304⟩ (uPreS hK hP hD hN [] rfl (by decide) [] rfl) rfl rfl hl.1 rfl (lv_room (Nat.le_of_ble_eq_true rfl)) d_PatternBookModel_takeDigits_1 ⟨(Nat.le_of_ble_eq_true rfl), (Nat.le_of_ble_eq_true rfl)⟩) hK hP hD hS hA [] [0, 1, 2] rfl rfl (by decide) (by decide) [0, 1] rfl (fun u1 H locs hu1 hP hD hK hS => ?_)
  have hP : va_P D classes [(mo, .inr (6, [.int co, .int kd, .int sg, .int ex, .ref wa, .long hi, .long lo, .long lh, .long ll, .ref sa, .ref ma])), (wa, .inl (cW, 12, .inr (.inl w))), (sa, .inl (cS, 1024, .inl sp))] H := hP
  have hD : va_D A [(mo, .inr (6, [.int co, .int kd, .int sg, .int ex, .ref wa, .long hi, .long lo, .long lh, .long ll, .ref sa, .ref ma])), (wa, .inl (cW, 12, .inr (.inl w))), (sa, .inl (cS, 1024, .inl sp))] := hD
  have hK : va_K D classes [(cW, .long), (cS, .int)] s := hK
  refine W.eq (g2 := F0 m 4 ls [.int u1]) rfl ?_
  have hk := hk u1 hu1
  refine lv_bipush (v := 10) hx hb d_PatternBookModel_takeDigits_4 (by decide) ?_
  refine lv_idiv hx hb d_PatternBookModel_takeDigits_6 (by decide) ?_
  refine lv_iconst (v := 1) hx hb d_PatternBookModel_takeDigits_7 (by decide) ?_
  refine lv_isub hx hb d_PatternBookModel_takeDigits_8 ?_
  refine lv_istore_n (lv' := [(2, .int ((u1 / (10:Int32)) - (1:Int32))), (0, .ref mo), (1, .int x)]) hx hb d_PatternBookModel_takeDigits_9 rfl hl (by decide) rfl (fun ls hl => ?_)
  exact lp_M_takeDigits l D mo wa sa ma cW cS x co kd sg ex hi lo lh ll w sp hx hb hr hts hown hlocks hml hA hN 200 ((u1 / (10:Int32)) - (1:Int32)) w _ _ _ hk (by have eu1 := hu1.symm; subst eu1; exact (rfl).symm) hK hP hD hS hl
set_option maxHeartbeats 4000000 in
set_option maxRecDepth 100000 in
/-- PatternBookModel.openBinary(I)V -/
theorem c_M_openBinary (l : Launch) (D : va_G) (mo : Nat) (wa : Nat) (sa : Nat) (ma : Nat) (cW : ClassId) (sz : Nat) (x : Int32) (co : Int32) (kd : Int32) (sg : Int32) (ex : Int32) (hi : Int64) (lo : Int64) (lh : Int64) (ll : Int64) (w : Nat → Int64) (hk : mok_M_openBinary x) : Met l y_PatternBookModel_openBinary (wsOf y_PatternBookModel_openBinary b_PatternBookModel_openBinary 5 none) ({ frames := 2, cells := 0, slots := 0, locals := 51 }) (uP D classes [(mo, .inr (6, [.int co, .int kd, .int sg, .int ex, .ref wa, .long hi, .long lo, .long lh, .long ll, .ref sa, .ref ma])), (wa, .inl (cW, 12, .inr (.inl w)))] [(cW, .long)] sz [.ref mo, .int x]) (uQ D classes (fun _ : Int32 × Int32 × (Nat → Int64) => none) (fun u => u = (sl m_M_openBinary) x kd ex lh ll w) (va_A [(mo, .inr (6, [.int co, .int kd, .int sg, .int ex, .ref wa, .long hi, .long lo, .long lh, .long ll, .ref sa, .ref ma])), (wa, .inl (cW, 12, .inr (.inl w)))] sz) (fun _ => [(cW, .long)]) (fun u => [(mo, .inr (6, [.int co, .int u.1, .int sg, .int u.2.1, .ref wa, .long hi, .long lo, .long lh, .long ll, .ref sa, .ref ma])), (wa, .inl (cW, 12, .inr (.inl u.2.2)))])) 0 0 (va_A [(mo, .inr (6, [.int co, .int kd, .int sg, .int ex, .ref wa, .long hi, .long lo, .long lh, .long ll, .ref sa, .ref ma])), (wa, .inl (cW, 12, .inr (.inl w)))] sz) := by
  rw [sl_eq m_M_openBinary]
  refine uBegin (by decide +kernel) (Nat.le_of_ble_eq_true rfl) ?_
  intro p e s m below meth c A ls H locs hx hb hr hts hown hlocks hml hin hA hP hK hD hN hS hl
  have hl : lv_has ls 5 [(0, .ref mo), (1, .int x)] := hl
  unfold mok_M_openBinary at hk
  refine lv_iload_n hx hb d_PatternBookModel_openBinary_0 rfl (lv_at hl 1 rfl) ?_
  refine uCall (WR := [(mo, .inr (6, [.int co, .int kd, .int sg, .int ex, .ref wa, .long hi, .long lo, .long lh, .long ll, .ref sa, .ref ma])), (wa, .inl (cW, 12, .inr (.inl w)))]) (RT := [(cW, .long)]) (va_runS (As := [.int x]) (rest := []) ⟨hx, hb, hml, hown, hts⟩ (c_M_digitsOf l D H.size x) ⟨uCB 1 hts k_260 k_257 k_261 (by decide +kernel) rfl rfl ⟨Nat.le_of_ble_eq_true rfl, Nat.le_of_ble_eq_true rfl⟩, hts _ k_262⟩ (uPreS hK hP hD hN [] rfl (by decide) [] rfl) rfl rfl hl.1 rfl (lv_room (Nat.le_of_ble_eq_true rfl)) d_PatternBookModel_openBinary_1 ⟨(Nat.le_of_ble_eq_true rfl), (Nat.le_of_ble_eq_true rfl)⟩) hK hP hD hS hA [] [0, 1] rfl rfl (by decide) (by decide) [0] rfl (fun u1 H locs hu1 hP hD hK hS => ?_)
  have hP : va_P D classes [(mo, .inr (6, [.int co, .int kd, .int sg, .int ex, .ref wa, .long hi, .long lo, .long lh, .long ll, .ref sa, .ref ma])), (wa, .inl (cW, 12, .inr (.inl w)))] H := hP
  have hD : va_D A [(mo, .inr (6, [.int co, .int kd, .int sg, .int ex, .ref wa, .long hi, .long lo, .long lh, .long ll, .ref sa, .ref ma])), (wa, .inl (cW, 12, .inr (.inl w)))] := hD
  have hK : va_K D classes [(cW, .long)] s := hK
  refine W.eq (g2 := F0 m 4 ls [.int u1]) rfl ?_
  have hk := hk u1 hu1
  refine lv_istore_n (lv' := [(2, .int u1), (0, .ref mo), (1, .int x)]) hx hb d_PatternBookModel_openBinary_4 rfl hl (by decide) rfl (fun ls hl => ?_)
  refine lv_iload_n hx hb d_PatternBookModel_openBinary_5 rfl (lv_at hl 2 rfl) ?_
  refine uCall (WR := [(mo, .inr (6, [.int co, .int kd, .int sg, .int ex, .ref wa, .long hi, .long lo, .long lh, .long ll, .ref sa, .ref ma])), (wa, .inl (cW, 12, .inr (.inl w)))]) (RT := [(cW, .long)]) (va_runS (As := [.int x]) (rest := []) ⟨hx, hb, hml, hown, hts⟩ (c_M_width l D H.size x) ⟨uCB 1 hts k_287 k_257 k_288 (by decide +kernel) rfl rfl ⟨Nat.le_of_ble_eq_true rfl, Nat.le_of_ble_eq_true rfl⟩, hts _ k_289⟩ (uPreS hK hP hD hN [] rfl (by decide) [] rfl) rfl rfl hl.1 rfl (lv_room (Nat.le_of_ble_eq_true rfl)) d_PatternBookModel_openBinary_6 ⟨(Nat.le_of_ble_eq_true rfl), (Nat.le_of_ble_eq_true rfl)⟩) hK hP hD hS hA [] [0, 1] rfl rfl (by decide) (by decide) [0] rfl (fun u2 H locs hu2 hP hD hK hS => ?_)
  have hP : va_P D classes [(mo, .inr (6, [.int co, .int kd, .int sg, .int ex, .ref wa, .long hi, .long lo, .long lh, .long ll, .ref sa, .ref ma])), (wa, .inl (cW, 12, .inr (.inl w)))] H := hP
  have hD : va_D A [(mo, .inr (6, [.int co, .int kd, .int sg, .int ex, .ref wa, .long hi, .long lo, .long lh, .long ll, .ref sa, .ref ma])), (wa, .inl (cW, 12, .inr (.inl w)))] := hD
  have hK : va_K D classes [(cW, .long)] s := hK
  refine W.eq (g2 := F0 m 9 ls [.int u2]) rfl ?_
  have hk := hk u2 hu2
  refine lv_iload_n hx hb d_PatternBookModel_openBinary_9 rfl (lv_at hl 0 rfl) ?_
  refine lv_isub hx hb d_PatternBookModel_openBinary_10 ?_
  refine lv_istore_n (lv' := [(3, .int (u2 - u1)), (2, .int u1), (0, .ref mo), (1, .int x)]) hx hb d_PatternBookModel_openBinary_11 rfl hl (by decide) rfl (fun ls hl => ?_)
  refine lv_aload_n hx hb d_PatternBookModel_openBinary_12 rfl (lv_at hl 2 rfl) ?_
  refine lv_iload_n hx hb d_PatternBookModel_openBinary_13 rfl (lv_at hl 1 rfl) ?_
  refine lv_iconst (v := 1) hx hb d_PatternBookModel_openBinary_14 (by decide) ?_
  refine lv_isub hx hb d_PatternBookModel_openBinary_15 ?_
  refine lv_iload_n hx hb d_PatternBookModel_openBinary_16 rfl (lv_at hl 0 rfl) ?_
  have ho3 := hk.1
  have hk := hk.2
  refine uCall (WR := [(wa, .inl (cW, 12, .inr (.inl w)))]) (RT := [(cW, .long)]) (va_runV (As := [.int (u1 - (1:Int32)), .int (u2 - u1)]) (rest := []) ⟨hx, hb, hml, hown, hts⟩ (c_M_field l D mo wa sa ma H.size (u1 - (1:Int32)) (u2 - u1) co kd sg ex hi lo lh ll ho3) ⟨uCB 2 hts k_306 k_257 k_307 (by decide +kernel) rfl rfl ⟨Nat.le_of_ble_eq_true rfl, Nat.le_of_ble_eq_true rfl⟩, hts _ k_308, hts _ k_309⟩ (uPreV (ci := 6) (q0 := 0) hK hP hD hN [0] rfl (by decide) [] rfl rfl rfl) rfl rfl hl.1 rfl (lv_room (Nat.le_of_ble_eq_true rfl)) d_PatternBookModel_openBinary_17 ⟨(Nat.le_of_ble_eq_true rfl), (Nat.le_of_ble_eq_true rfl)⟩) hK hP hD hS hA [0] [1] rfl rfl (by decide) (by decide) [0] rfl (fun u3 H locs hu3 hP hD hK hS => ?_)
  have hP : va_P D classes [(wa, .inl (cW, 12, .inr (.inl w))), (mo, .inr (6, [.int co, .int kd, .int sg, .int ex, .ref wa, .long hi, .long lo, .long lh, .long ll, .ref sa, .ref ma]))] H := hP
  have hD : va_D A [(wa, .inl (cW, 12, .inr (.inl w))), (mo, .inr (6, [.int co, .int kd, .int sg, .int ex, .ref wa, .long hi, .long lo, .long lh, .long ll, .ref sa, .ref ma]))] := hD
  have hK : va_K D classes [(cW, .long)] s := hK
  refine W.eq (g2 := F0 m 20 ls [.int u3]) rfl ?_
  refine lv_istore (lv' := [(4, .int u3), (3, .int (u2 - u1)), (2, .int u1), (0, .ref mo), (1, .int x)]) hx hb d_PatternBookModel_openBinary_20 hl (by decide) rfl (fun ls hl => ?_)
  refine lv_aload_n hx hb d_PatternBookModel_openBinary_22 rfl (lv_at hl 3 rfl) ?_
  refine lv_iconst (v := 0) hx hb d_PatternBookModel_openBinary_23 (by decide) ?_
  refine lv_iload_n hx hb d_PatternBookModel_openBinary_24 rfl (lv_at hl 2 rfl) ?_
  refine lv_iconst (v := 1) hx hb d_PatternBookModel_openBinary_25 (by decide) ?_
  refine lv_isub hx hb d_PatternBookModel_openBinary_26 ?_
  have ho4 := hk.1
  have hk := hk.2
  refine uCall (WR := []) (RT := []) (va_runV (As := [.int (0:Int32), .int (u1 - (1:Int32))]) (rest := []) ⟨hx, hb, hml, hown, hts⟩ (c_M_take l D mo wa sa ma cW H.size (0:Int32) (u1 - (1:Int32)) co kd sg ex hi lo lh ll w ho4) ⟨uCB 2 hts k_290 k_257 k_291 (by decide +kernel) rfl rfl ⟨Nat.le_of_ble_eq_true rfl, Nat.le_of_ble_eq_true rfl⟩, hts _ k_292, hts _ k_293⟩ (uPreV (ci := 6) (q0 := 1) hK hP hD hN [1, 0] rfl (by decide) [0] rfl rfl rfl) rfl rfl hl.1 rfl (lv_room (Nat.le_of_ble_eq_true rfl)) d_PatternBookModel_openBinary_27 ⟨(Nat.le_of_ble_eq_true rfl), (Nat.le_of_ble_eq_true rfl)⟩) hK hP hD hS hA [1, 0] [] rfl rfl (by decide) (by decide) [] rfl (fun u4 H locs hu4 hP hD hK hS => ?_)
  have hP : va_P D classes [(mo, .inr (6, [.int co, .int kd, .int sg, .int ex, .ref wa, .long hi, .long lo, .long lh, .long ll, .ref sa, .ref ma])), (wa, .inl (cW, 12, .inr (.inl u4)))] H := hP
  have hD : va_D A [(mo, .inr (6, [.int co, .int kd, .int sg, .int ex, .ref wa, .long hi, .long lo, .long lh, .long ll, .ref sa, .ref ma])), (wa, .inl (cW, 12, .inr (.inl u4)))] := hD
  have hK : va_K D classes [(cW, .long)] s := hK
  refine W.eq (g2 := F0 m 30 ls []) rfl ?_
  refine lv_iload hx hb d_PatternBookModel_openBinary_30 (lv_at hl 0 rfl) ?_
  refine lv_iconst (v := 1) hx hb d_PatternBookModel_openBinary_32 (by decide) ?_
  refine lv_iload_n hx hb d_PatternBookModel_openBinary_33 rfl (lv_at hl 1 rfl) ?_
  refine lv_ishl hx hb d_PatternBookModel_openBinary_34 ?_
  refine lv_iconst (v := 1) hx hb d_PatternBookModel_openBinary_35 (by decide) ?_
  refine lv_isub hx hb d_PatternBookModel_openBinary_36 ?_
  refine lv_icmp_ne (tgt := 83) hx hb d_PatternBookModel_openBinary_37 (by decide) (fun c_5 => ?_) (fun c_5 => ?_)
  · have hk := hk.2
    refine lv_aload_n hx hb d_PatternBookModel_openBinary_83 rfl (lv_at hl 3 rfl) ?_
    refine lv_iload hx hb d_PatternBookModel_openBinary_84 (lv_at hl 0 rfl) ?_
    refine lv_if_ne (tgt := 96) hx hb d_PatternBookModel_openBinary_86 (by decide) (fun c_6 => ?_) (fun c_6 => ?_)
    · refine lv_iload hx hb d_PatternBookModel_openBinary_96 (lv_at hl 0 rfl) ?_
      refine lv_iconst (v := 1) hx hb d_PatternBookModel_openBinary_98 (by decide) ?_
      refine lv_isub hx hb d_PatternBookModel_openBinary_99 ?_
      refine lv_iload_n hx hb d_PatternBookModel_openBinary_100 rfl (lv_at hl 4 rfl) ?_
      refine uCall (WR := [(mo, .inr (6, [.int co, .int kd, .int sg, .int ex, .ref wa, .long hi, .long lo, .long lh, .long ll, .ref sa, .ref ma])), (wa, .inl (cW, 12, .inr (.inl u4)))]) (RT := [(cW, .long)]) (va_runS (As := [.int x]) (rest := [.int (u3 - (1:Int32)), .ref mo]) ⟨hx, hb, hml, hown, hts⟩ (c_M_least l D H.size x) ⟨uCB 1 hts k_310 k_257 k_311 (by decide +kernel) rfl rfl ⟨Nat.le_of_ble_eq_true rfl, Nat.le_of_ble_eq_true rfl⟩, hts _ k_312⟩ (uPreS hK hP hD hN [] rfl (by decide) [] rfl) rfl rfl hl.1 rfl (lv_room (Nat.le_of_ble_eq_true rfl)) d_PatternBookModel_openBinary_101 ⟨(Nat.le_of_ble_eq_true rfl), (Nat.le_of_ble_eq_true rfl)⟩) hK hP hD hS hA [] [0, 1] rfl rfl (by decide) (by decide) [0] rfl (fun u7 H locs hu7 hP hD hK hS => ?_)
      have hP : va_P D classes [(mo, .inr (6, [.int co, .int kd, .int sg, .int ex, .ref wa, .long hi, .long lo, .long lh, .long ll, .ref sa, .ref ma])), (wa, .inl (cW, 12, .inr (.inl u4)))] H := hP
      have hD : va_D A [(mo, .inr (6, [.int co, .int kd, .int sg, .int ex, .ref wa, .long hi, .long lo, .long lh, .long ll, .ref sa, .ref ma])), (wa, .inl (cW, 12, .inr (.inl u4)))] := hD
      have hK : va_K D classes [(cW, .long)] s := hK
      refine W.eq (g2 := F0 m 104 ls [.int u7, .int (u3 - (1:Int32)), .ref mo]) rfl ?_
      refine lv_iadd hx hb d_PatternBookModel_openBinary_104 ?_
      refine va_put (D := D) (ci := 6) (v := .int ((u3 - (1:Int32)) + u7)) (ty := .int) (C := R_PatternBookModel) (T := F_PatternBookModel) (N := 11) hx hb hts i_PatternBookModel t_PatternBookModel t_PatternBookModel_ok n_PatternBookModel hown hK hP hD hS 0 rfl rfl 3 (by decide) (hts _ k_313) (fun _ h9 => h9) rfl (by decide +kernel) rfl rfl (Nat.le_of_ble_eq_true rfl) d_PatternBookModel_openBinary_105 (fun H locs hP hD hS => ?_)
      have hP : va_P D classes [(mo, .inr (6, [.int co, .int kd, .int sg, .int ((u3 - (1:Int32)) + u7), .ref wa, .long hi, .long lo, .long lh, .long ll, .ref sa, .ref ma])), (wa, .inl (cW, 12, .inr (.inl u4)))] H := hP
      have hD : va_D A [(mo, .inr (6, [.int co, .int kd, .int sg, .int ((u3 - (1:Int32)) + u7), .ref wa, .long hi, .long lo, .long lh, .long ll, .ref sa, .ref ma])), (wa, .inl (cW, 12, .inr (.inl u4)))] := hD
      refine lv_iload hx hb d_PatternBookModel_openBinary_108 (lv_at hl 0 rfl) ?_
      refine lv_if_ne (tgt := 114) hx hb d_PatternBookModel_openBinary_110 (by decide) (fun c_8 => ?_) (fun c_8 => ?_)
      · refine lv_aload_n hx hb d_PatternBookModel_openBinary_114 rfl (lv_at hl 3 rfl) ?_
        refine va_get (D := D) (ci := 6) (v := .ref wa) (C := R_PatternBookModel) (T := F_PatternBookModel) (N := 11) hx hb hts i_PatternBookModel hown hK hP 0 rfl rfl 4 (by decide) (hts _ k_263) (fun _ h9 => h9) rfl d_PatternBookModel_openBinary_115 ?_
        refine lv_iload_n hx hb d_PatternBookModel_openBinary_118 rfl (lv_at hl 2 rfl) ?_
        refine lv_iconst (v := 1) hx hb d_PatternBookModel_openBinary_119 (by decide) ?_
        refine lv_isub hx hb d_PatternBookModel_openBinary_120 ?_
        refine lv_bipush (v := 32) hx hb d_PatternBookModel_openBinary_121 (by decide) ?_
        refine lv_idiv hx hb d_PatternBookModel_openBinary_123 (by decide) ?_
        refine lv_dup2_11 hx hb d_PatternBookModel_openBinary_124 rfl rfl ?_
        have hq9 := hk.1
        have hk := hk.2
        refine va_lald hx hb hK hP 1 0 rfl rfl hq9 d_PatternBookModel_openBinary_125 ?_
        refine lv_lconst (v := 1) hx hb d_PatternBookModel_openBinary_126 (by decide) ?_
        refine lv_iload_n hx hb d_PatternBookModel_openBinary_127 rfl (lv_at hl 2 rfl) ?_
        refine lv_iconst (v := 1) hx hb d_PatternBookModel_openBinary_128 (by decide) ?_
        refine lv_isub hx hb d_PatternBookModel_openBinary_129 ?_
        refine lv_bipush (v := 32) hx hb d_PatternBookModel_openBinary_130 (by decide) ?_
        refine lv_irem hx hb d_PatternBookModel_openBinary_132 (by decide) ?_
        refine lv_lshl (v := lshl_ (1:Int64) ((u1 - (1:Int32)) - (u1 - (1:Int32)) / (32:Int32) * (32:Int32))) hx hb d_PatternBookModel_openBinary_133 rfl ?_
        refine lv_lor hx hb d_PatternBookModel_openBinary_134 ?_
        have hq10 := hk
        refine va_last hx hb hK hP hD hS 1 0 rfl rfl hq10 d_PatternBookModel_openBinary_135 (fun H locs hP hD hS => ?_)
        have hP : va_P D classes [(mo, .inr (6, [.int co, .int kd, .int sg, .int ((u3 - (1:Int32)) + u7), .ref wa, .long hi, .long lo, .long lh, .long ll, .ref sa, .ref ma])), (wa, .inl (cW, 12, .inr (.inl (vp_updL u4 (Int32.toNatClampNeg ((u1 - (1:Int32)) / (32:Int32))) ((u4 (Int32.toNatClampNeg ((u1 - (1:Int32)) / (32:Int32)))) ||| (lshl_ (1:Int64) ((u1 - (1:Int32)) - (u1 - (1:Int32)) / (32:Int32) * (32:Int32))))))))] H := hP
        have hD : va_D A [(mo, .inr (6, [.int co, .int kd, .int sg, .int ((u3 - (1:Int32)) + u7), .ref wa, .long hi, .long lo, .long lh, .long ll, .ref sa, .ref ma])), (wa, .inl (cW, 12, .inr (.inl (vp_updL u4 (Int32.toNatClampNeg ((u1 - (1:Int32)) / (32:Int32))) ((u4 (Int32.toNatClampNeg ((u1 - (1:Int32)) / (32:Int32)))) ||| (lshl_ (1:Int64) ((u1 - (1:Int32)) - (u1 - (1:Int32)) / (32:Int32) * (32:Int32))))))))] := hD
        refine W.vret hx hb hr ?_ hS.2.2 d_PatternBookModel_openBinary_136
        exact uEnd (kd, ((u3 - (1:Int32)) + u7), (vp_updL u4 (Int32.toNatClampNeg ((u1 - (1:Int32)) / (32:Int32))) ((u4 (Int32.toNatClampNeg ((u1 - (1:Int32)) / (32:Int32)))) ||| (lshl_ (1:Int64) ((u1 - (1:Int32)) - (u1 - (1:Int32)) / (32:Int32) * (32:Int32)))))) (hP.sub [0, 1] rfl) (hK.sub [0] rfl) (hD.sub [0, 1] (by decide) rfl) hS (by have eu1 := hu1.symm; subst eu1; have eu2 := hu2.symm; subst eu2; have eu3 := hu3.symm; subst eu3; have eu4 := hu4.symm; subst eu4; have eu7 := hu7.symm; subst eu7; exact ((if_neg c_5).trans ((if_neg c_6).trans ((if_neg c_8).trans (rfl)))).symm) rfl
      · refine W.vret hx hb hr ?_ hS.2.2 d_PatternBookModel_openBinary_113
        exact uEnd (kd, ((u3 - (1:Int32)) + u7), u4) (hP.sub [0, 1] rfl) (hK.sub [0] rfl) (hD.sub [0, 1] (by decide) rfl) hS (by have eu1 := hu1.symm; subst eu1; have eu2 := hu2.symm; subst eu2; have eu3 := hu3.symm; subst eu3; have eu4 := hu4.symm; subst eu4; have eu7 := hu7.symm; subst eu7; exact ((if_neg c_5).trans ((if_neg c_6).trans ((if_pos c_8).trans (rfl)))).symm) rfl
    · refine lv_iload_n hx hb d_PatternBookModel_openBinary_89 rfl (lv_at hl 4 rfl) ?_
      refine uCall (WR := [(mo, .inr (6, [.int co, .int kd, .int sg, .int ex, .ref wa, .long hi, .long lo, .long lh, .long ll, .ref sa, .ref ma])), (wa, .inl (cW, 12, .inr (.inl u4)))]) (RT := [(cW, .long)]) (va_runS (As := [.int x]) (rest := [.ref mo]) ⟨hx, hb, hml, hown, hts⟩ (c_M_least l D H.size x) ⟨uCB 1 hts k_310 k_257 k_311 (by decide +kernel) rfl rfl ⟨Nat.le_of_ble_eq_true rfl, Nat.le_of_ble_eq_true rfl⟩, hts _ k_312⟩ (uPreS hK hP hD hN [] rfl (by decide) [] rfl) rfl rfl hl.1 rfl (lv_room (Nat.le_of_ble_eq_true rfl)) d_PatternBookModel_openBinary_90 ⟨(Nat.le_of_ble_eq_true rfl), (Nat.le_of_ble_eq_true rfl)⟩) hK hP hD hS hA [] [0, 1] rfl rfl (by decide) (by decide) [0] rfl (fun u9 H locs hu9 hP hD hK hS => ?_)
      have hP : va_P D classes [(mo, .inr (6, [.int co, .int kd, .int sg, .int ex, .ref wa, .long hi, .long lo, .long lh, .long ll, .ref sa, .ref ma])), (wa, .inl (cW, 12, .inr (.inl u4)))] H := hP
      have hD : va_D A [(mo, .inr (6, [.int co, .int kd, .int sg, .int ex, .ref wa, .long hi, .long lo, .long lh, .long ll, .ref sa, .ref ma])), (wa, .inl (cW, 12, .inr (.inl u4)))] := hD
      have hK : va_K D classes [(cW, .long)] s := hK
      refine W.eq (g2 := F0 m 93 ls [.int u9, .ref mo]) rfl ?_
      refine lv_goto (tgt := 105) hx hb d_PatternBookModel_openBinary_93 (by decide) ?_
      refine va_put (D := D) (ci := 6) (v := .int u9) (ty := .int) (C := R_PatternBookModel) (T := F_PatternBookModel) (N := 11) hx hb hts i_PatternBookModel t_PatternBookModel t_PatternBookModel_ok n_PatternBookModel hown hK hP hD hS 0 rfl rfl 3 (by decide) (hts _ k_313) (fun _ h9 => h9) rfl (by decide +kernel) rfl rfl (Nat.le_of_ble_eq_true rfl) d_PatternBookModel_openBinary_105 (fun H locs hP hD hS => ?_)
      have hP : va_P D classes [(mo, .inr (6, [.int co, .int kd, .int sg, .int u9, .ref wa, .long hi, .long lo, .long lh, .long ll, .ref sa, .ref ma])), (wa, .inl (cW, 12, .inr (.inl u4)))] H := hP
      have hD : va_D A [(mo, .inr (6, [.int co, .int kd, .int sg, .int u9, .ref wa, .long hi, .long lo, .long lh, .long ll, .ref sa, .ref ma])), (wa, .inl (cW, 12, .inr (.inl u4)))] := hD
      refine lv_iload hx hb d_PatternBookModel_openBinary_108 (lv_at hl 0 rfl) ?_
      refine lv_if_ne (tgt := 114) hx hb d_PatternBookModel_openBinary_110 (by decide) (fun c_10 => ?_) (fun c_10 => ?_)
      · refine lv_aload_n hx hb d_PatternBookModel_openBinary_114 rfl (lv_at hl 3 rfl) ?_
        refine va_get (D := D) (ci := 6) (v := .ref wa) (C := R_PatternBookModel) (T := F_PatternBookModel) (N := 11) hx hb hts i_PatternBookModel hown hK hP 0 rfl rfl 4 (by decide) (hts _ k_263) (fun _ h9 => h9) rfl d_PatternBookModel_openBinary_115 ?_
        refine lv_iload_n hx hb d_PatternBookModel_openBinary_118 rfl (lv_at hl 2 rfl) ?_
        refine lv_iconst (v := 1) hx hb d_PatternBookModel_openBinary_119 (by decide) ?_
        refine lv_isub hx hb d_PatternBookModel_openBinary_120 ?_
        refine lv_bipush (v := 32) hx hb d_PatternBookModel_openBinary_121 (by decide) ?_
        refine lv_idiv hx hb d_PatternBookModel_openBinary_123 (by decide) ?_
        refine lv_dup2_11 hx hb d_PatternBookModel_openBinary_124 rfl rfl ?_
        have hq13 := hk.1
        have hk := hk.2
        refine va_lald hx hb hK hP 1 0 rfl rfl hq13 d_PatternBookModel_openBinary_125 ?_
        refine lv_lconst (v := 1) hx hb d_PatternBookModel_openBinary_126 (by decide) ?_
        refine lv_iload_n hx hb d_PatternBookModel_openBinary_127 rfl (lv_at hl 2 rfl) ?_
        refine lv_iconst (v := 1) hx hb d_PatternBookModel_openBinary_128 (by decide) ?_
        refine lv_isub hx hb d_PatternBookModel_openBinary_129 ?_
        refine lv_bipush (v := 32) hx hb d_PatternBookModel_openBinary_130 (by decide) ?_
        refine lv_irem hx hb d_PatternBookModel_openBinary_132 (by decide) ?_
        refine lv_lshl (v := lshl_ (1:Int64) ((u1 - (1:Int32)) - (u1 - (1:Int32)) / (32:Int32) * (32:Int32))) hx hb d_PatternBookModel_openBinary_133 rfl ?_
        refine lv_lor hx hb d_PatternBookModel_openBinary_134 ?_
        have hq14 := hk
        refine va_last hx hb hK hP hD hS 1 0 rfl rfl hq14 d_PatternBookModel_openBinary_135 (fun H locs hP hD hS => ?_)
        have hP : va_P D classes [(mo, .inr (6, [.int co, .int kd, .int sg, .int u9, .ref wa, .long hi, .long lo, .long lh, .long ll, .ref sa, .ref ma])), (wa, .inl (cW, 12, .inr (.inl (vp_updL u4 (Int32.toNatClampNeg ((u1 - (1:Int32)) / (32:Int32))) ((u4 (Int32.toNatClampNeg ((u1 - (1:Int32)) / (32:Int32)))) ||| (lshl_ (1:Int64) ((u1 - (1:Int32)) - (u1 - (1:Int32)) / (32:Int32) * (32:Int32))))))))] H := hP
        have hD : va_D A [(mo, .inr (6, [.int co, .int kd, .int sg, .int u9, .ref wa, .long hi, .long lo, .long lh, .long ll, .ref sa, .ref ma])), (wa, .inl (cW, 12, .inr (.inl (vp_updL u4 (Int32.toNatClampNeg ((u1 - (1:Int32)) / (32:Int32))) ((u4 (Int32.toNatClampNeg ((u1 - (1:Int32)) / (32:Int32)))) ||| (lshl_ (1:Int64) ((u1 - (1:Int32)) - (u1 - (1:Int32)) / (32:Int32) * (32:Int32))))))))] := hD
        refine W.vret hx hb hr ?_ hS.2.2 d_PatternBookModel_openBinary_136
        exact uEnd (kd, u9, (vp_updL u4 (Int32.toNatClampNeg ((u1 - (1:Int32)) / (32:Int32))) ((u4 (Int32.toNatClampNeg ((u1 - (1:Int32)) / (32:Int32)))) ||| (lshl_ (1:Int64) ((u1 - (1:Int32)) - (u1 - (1:Int32)) / (32:Int32) * (32:Int32)))))) (hP.sub [0, 1] rfl) (hK.sub [0] rfl) (hD.sub [0, 1] (by decide) rfl) hS (by have eu1 := hu1.symm; subst eu1; have eu2 := hu2.symm; subst eu2; have eu3 := hu3.symm; subst eu3; have eu4 := hu4.symm; subst eu4; have eu9 := hu9.symm; subst eu9; exact ((if_neg c_5).trans ((if_pos c_6).trans ((if_neg c_10).trans (rfl)))).symm) rfl
      · refine W.vret hx hb hr ?_ hS.2.2 d_PatternBookModel_openBinary_113
        exact uEnd (kd, u9, u4) (hP.sub [0, 1] rfl) (hK.sub [0] rfl) (hD.sub [0, 1] (by decide) rfl) hS (by have eu1 := hu1.symm; subst eu1; have eu2 := hu2.symm; subst eu2; have eu3 := hu3.symm; subst eu3; have eu4 := hu4.symm; subst eu4; have eu9 := hu9.symm; subst eu9; exact ((if_neg c_5).trans ((if_pos c_6).trans ((if_pos c_10).trans (rfl)))).symm) rfl
  · have hk := hk.1
    refine lv_aload_n hx hb d_PatternBookModel_openBinary_40 rfl (lv_at hl 3 rfl) ?_
    refine lv_iconst (v := 0) hx hb d_PatternBookModel_openBinary_41 (by decide) ?_
    refine uCall (WR := []) (RT := []) (va_runV (As := [.int (0:Int32)]) (rest := []) ⟨hx, hb, hml, hown, hts⟩ (c_M_isZero l D mo wa sa ma cW H.size co kd sg ex hi lo lh ll u4) ⟨uCB 1 hts k_314 k_257 k_315 (by decide +kernel) rfl rfl ⟨Nat.le_of_ble_eq_true rfl, Nat.le_of_ble_eq_true rfl⟩, hts _ k_316, hts _ k_317⟩ (uPreV (ci := 6) (q0 := 0) hK hP hD hN [0, 1] rfl (by decide) [0] rfl rfl rfl) rfl rfl hl.1 rfl (lv_room (Nat.le_of_ble_eq_true rfl)) d_PatternBookModel_openBinary_42 ⟨(Nat.le_of_ble_eq_true rfl), (Nat.le_of_ble_eq_true rfl)⟩) hK hP hD hS hA [0, 1] [] rfl rfl (by decide) (by decide) [] rfl (fun u11 H locs hu11 hP hD hK hS => ?_)
    have hP : va_P D classes [(mo, .inr (6, [.int co, .int kd, .int sg, .int ex, .ref wa, .long hi, .long lo, .long lh, .long ll, .ref sa, .ref ma])), (wa, .inl (cW, 12, .inr (.inl u4)))] H := hP
    have hD : va_D A [(mo, .inr (6, [.int co, .int kd, .int sg, .int ex, .ref wa, .long hi, .long lo, .long lh, .long ll, .ref sa, .ref ma])), (wa, .inl (cW, 12, .inr (.inl u4)))] := hD
    have hK : va_K D classes [(cW, .long)] s := hK
    refine W.eq (g2 := F0 m 45 ls [.int (bI u11)]) rfl ?_
    refine lv_if_eq (tgt := 54) hx hb d_PatternBookModel_openBinary_45 (by decide) (fun c_12 => ?_) (fun c_12 => ?_)
    · refine lv_aload_n hx hb d_PatternBookModel_openBinary_54 rfl (lv_at hl 3 rfl) ?_
      refine lv_aload_n hx hb d_PatternBookModel_openBinary_55 rfl (lv_at hl 3 rfl) ?_
      refine lv_iload_n hx hb d_PatternBookModel_openBinary_56 rfl (lv_at hl 2 rfl) ?_
      refine lv_iconst (v := 2) hx hb d_PatternBookModel_openBinary_57 (by decide) ?_
      refine lv_isub hx hb d_PatternBookModel_openBinary_58 ?_
      refine uCall (WR := [(wa, .inl (cW, 12, .inr (.inl u4)))]) (RT := [(cW, .long)]) (va_runV (As := [.int (u1 - (2:Int32))]) (rest := [.ref mo]) ⟨hx, hb, hml, hown, hts⟩ (c_M_bit l D mo wa sa ma H.size (u1 - (2:Int32)) co kd sg ex hi lo lh ll) ⟨uCB 1 hts k_275 k_257 k_276 (by decide +kernel) rfl rfl ⟨Nat.le_of_ble_eq_true rfl, Nat.le_of_ble_eq_true rfl⟩, hts _ k_277, hts _ k_278⟩ (uPreV (ci := 6) (q0 := 0) hK hP hD hN [0] rfl (by decide) [] rfl rfl rfl) rfl rfl hl.1 rfl (lv_room (Nat.le_of_ble_eq_true rfl)) d_PatternBookModel_openBinary_59 ⟨(Nat.le_of_ble_eq_true rfl), (Nat.le_of_ble_eq_true rfl)⟩) hK hP hD hS hA [0] [1] rfl rfl (by decide) (by decide) [0] rfl (fun u13 H locs hu13 hP hD hK hS => ?_)
      have hP : va_P D classes [(wa, .inl (cW, 12, .inr (.inl u4))), (mo, .inr (6, [.int co, .int kd, .int sg, .int ex, .ref wa, .long hi, .long lo, .long lh, .long ll, .ref sa, .ref ma]))] H := hP
      have hD : va_D A [(wa, .inl (cW, 12, .inr (.inl u4))), (mo, .inr (6, [.int co, .int kd, .int sg, .int ex, .ref wa, .long hi, .long lo, .long lh, .long ll, .ref sa, .ref ma]))] := hD
      have hK : va_K D classes [(cW, .long)] s := hK
      refine W.eq (g2 := F0 m 62 ls [.int u13, .ref mo]) rfl ?_
      refine lv_iconst (v := 1) hx hb d_PatternBookModel_openBinary_62 (by decide) ?_
      refine lv_icmp_ne (tgt := 70) hx hb d_PatternBookModel_openBinary_63 (by decide) (fun c_14 => ?_) (fun c_14 => ?_)
      · refine lv_iconst (v := 3) hx hb d_PatternBookModel_openBinary_70 (by decide) ?_
        refine va_put (D := D) (ci := 6) (v := .int (3:Int32)) (ty := .int) (C := R_PatternBookModel) (T := F_PatternBookModel) (N := 11) hx hb hts i_PatternBookModel t_PatternBookModel t_PatternBookModel_ok n_PatternBookModel hown hK hP hD hS 1 rfl rfl 1 (by decide) (hts _ k_318) (fun _ h9 => h9) rfl (by decide +kernel) rfl rfl (Nat.le_of_ble_eq_true rfl) d_PatternBookModel_openBinary_71 (fun H locs hP hD hS => ?_)
        have hP : va_P D classes [(wa, .inl (cW, 12, .inr (.inl u4))), (mo, .inr (6, [.int co, .int (3:Int32), .int sg, .int ex, .ref wa, .long hi, .long lo, .long lh, .long ll, .ref sa, .ref ma]))] H := hP
        have hD : va_D A [(wa, .inl (cW, 12, .inr (.inl u4))), (mo, .inr (6, [.int co, .int (3:Int32), .int sg, .int ex, .ref wa, .long hi, .long lo, .long lh, .long ll, .ref sa, .ref ma]))] := hD
        refine lv_aload_n hx hb d_PatternBookModel_openBinary_74 rfl (lv_at hl 3 rfl) ?_
        refine lv_iconst (v := 0) hx hb d_PatternBookModel_openBinary_75 (by decide) ?_
        refine lv_iload_n hx hb d_PatternBookModel_openBinary_76 rfl (lv_at hl 2 rfl) ?_
        refine lv_iconst (v := 2) hx hb d_PatternBookModel_openBinary_77 (by decide) ?_
        refine lv_isub hx hb d_PatternBookModel_openBinary_78 ?_
        have ho19 := hk
        refine uCall (WR := []) (RT := []) (va_runV (As := [.int (0:Int32), .int (u1 - (2:Int32))]) (rest := []) ⟨hx, hb, hml, hown, hts⟩ (c_M_take l D mo wa sa ma cW H.size (0:Int32) (u1 - (2:Int32)) co (3:Int32) sg ex hi lo lh ll u4 ho19) ⟨uCB 2 hts k_290 k_257 k_291 (by decide +kernel) rfl rfl ⟨Nat.le_of_ble_eq_true rfl, Nat.le_of_ble_eq_true rfl⟩, hts _ k_292, hts _ k_293⟩ (uPreV (ci := 6) (q0 := 1) hK hP hD hN [1, 0] rfl (by decide) [0] rfl rfl rfl) rfl rfl hl.1 rfl (lv_room (Nat.le_of_ble_eq_true rfl)) d_PatternBookModel_openBinary_79 ⟨(Nat.le_of_ble_eq_true rfl), (Nat.le_of_ble_eq_true rfl)⟩) hK hP hD hS hA [1, 0] [] rfl rfl (by decide) (by decide) [] rfl (fun u15 H locs hu15 hP hD hK hS => ?_)
        have hP : va_P D classes [(mo, .inr (6, [.int co, .int (3:Int32), .int sg, .int ex, .ref wa, .long hi, .long lo, .long lh, .long ll, .ref sa, .ref ma])), (wa, .inl (cW, 12, .inr (.inl u15)))] H := hP
        have hD : va_D A [(mo, .inr (6, [.int co, .int (3:Int32), .int sg, .int ex, .ref wa, .long hi, .long lo, .long lh, .long ll, .ref sa, .ref ma])), (wa, .inl (cW, 12, .inr (.inl u15)))] := hD
        have hK : va_K D classes [(cW, .long)] s := hK
        refine W.eq (g2 := F0 m 82 ls []) rfl ?_
        refine W.vret hx hb hr ?_ hS.2.2 d_PatternBookModel_openBinary_82
        exact uEnd ((3:Int32), ex, u15) (hP.sub [0, 1] rfl) (hK.sub [0] rfl) (hD.sub [0, 1] (by decide) rfl) hS (by have eu1 := hu1.symm; subst eu1; have eu2 := hu2.symm; subst eu2; have eu3 := hu3.symm; subst eu3; have eu4 := hu4.symm; subst eu4; have eu11 := hu11.symm; subst eu11; have eu13 := hu13.symm; subst eu13; have eu15 := hu15.symm; subst eu15; exact ((if_pos c_5).trans ((if_pos c_12).trans ((if_neg c_14).trans (rfl)))).symm) rfl
      · refine lv_iconst (v := 2) hx hb d_PatternBookModel_openBinary_66 (by decide) ?_
        refine lv_goto (tgt := 71) hx hb d_PatternBookModel_openBinary_67 (by decide) ?_
        refine va_put (D := D) (ci := 6) (v := .int (2:Int32)) (ty := .int) (C := R_PatternBookModel) (T := F_PatternBookModel) (N := 11) hx hb hts i_PatternBookModel t_PatternBookModel t_PatternBookModel_ok n_PatternBookModel hown hK hP hD hS 1 rfl rfl 1 (by decide) (hts _ k_318) (fun _ h9 => h9) rfl (by decide +kernel) rfl rfl (Nat.le_of_ble_eq_true rfl) d_PatternBookModel_openBinary_71 (fun H locs hP hD hS => ?_)
        have hP : va_P D classes [(wa, .inl (cW, 12, .inr (.inl u4))), (mo, .inr (6, [.int co, .int (2:Int32), .int sg, .int ex, .ref wa, .long hi, .long lo, .long lh, .long ll, .ref sa, .ref ma]))] H := hP
        have hD : va_D A [(wa, .inl (cW, 12, .inr (.inl u4))), (mo, .inr (6, [.int co, .int (2:Int32), .int sg, .int ex, .ref wa, .long hi, .long lo, .long lh, .long ll, .ref sa, .ref ma]))] := hD
        refine lv_aload_n hx hb d_PatternBookModel_openBinary_74 rfl (lv_at hl 3 rfl) ?_
        refine lv_iconst (v := 0) hx hb d_PatternBookModel_openBinary_75 (by decide) ?_
        refine lv_iload_n hx hb d_PatternBookModel_openBinary_76 rfl (lv_at hl 2 rfl) ?_
        refine lv_iconst (v := 2) hx hb d_PatternBookModel_openBinary_77 (by decide) ?_
        refine lv_isub hx hb d_PatternBookModel_openBinary_78 ?_
        have ho20 := hk
        refine uCall (WR := []) (RT := []) (va_runV (As := [.int (0:Int32), .int (u1 - (2:Int32))]) (rest := []) ⟨hx, hb, hml, hown, hts⟩ (c_M_take l D mo wa sa ma cW H.size (0:Int32) (u1 - (2:Int32)) co (2:Int32) sg ex hi lo lh ll u4 ho20) ⟨uCB 2 hts k_290 k_257 k_291 (by decide +kernel) rfl rfl ⟨Nat.le_of_ble_eq_true rfl, Nat.le_of_ble_eq_true rfl⟩, hts _ k_292, hts _ k_293⟩ (uPreV (ci := 6) (q0 := 1) hK hP hD hN [1, 0] rfl (by decide) [0] rfl rfl rfl) rfl rfl hl.1 rfl (lv_room (Nat.le_of_ble_eq_true rfl)) d_PatternBookModel_openBinary_79 ⟨(Nat.le_of_ble_eq_true rfl), (Nat.le_of_ble_eq_true rfl)⟩) hK hP hD hS hA [1, 0] [] rfl rfl (by decide) (by decide) [] rfl (fun u16 H locs hu16 hP hD hK hS => ?_)
        have hP : va_P D classes [(mo, .inr (6, [.int co, .int (2:Int32), .int sg, .int ex, .ref wa, .long hi, .long lo, .long lh, .long ll, .ref sa, .ref ma])), (wa, .inl (cW, 12, .inr (.inl u16)))] H := hP
        have hD : va_D A [(mo, .inr (6, [.int co, .int (2:Int32), .int sg, .int ex, .ref wa, .long hi, .long lo, .long lh, .long ll, .ref sa, .ref ma])), (wa, .inl (cW, 12, .inr (.inl u16)))] := hD
        have hK : va_K D classes [(cW, .long)] s := hK
        refine W.eq (g2 := F0 m 82 ls []) rfl ?_
        refine W.vret hx hb hr ?_ hS.2.2 d_PatternBookModel_openBinary_82
        exact uEnd ((2:Int32), ex, u16) (hP.sub [0, 1] rfl) (hK.sub [0] rfl) (hD.sub [0, 1] (by decide) rfl) hS (by have eu1 := hu1.symm; subst eu1; have eu2 := hu2.symm; subst eu2; have eu3 := hu3.symm; subst eu3; have eu4 := hu4.symm; subst eu4; have eu11 := hu11.symm; subst eu11; have eu13 := hu13.symm; subst eu13; have eu16 := hu16.symm; subst eu16; exact ((if_pos c_5).trans ((if_pos c_12).trans ((if_pos c_14).trans (rfl)))).symm) rfl
    · refine lv_aload_n hx hb d_PatternBookModel_openBinary_48 rfl (lv_at hl 3 rfl) ?_
      refine lv_iconst (v := 1) hx hb d_PatternBookModel_openBinary_49 (by decide) ?_
      refine va_put (D := D) (ci := 6) (v := .int (1:Int32)) (ty := .int) (C := R_PatternBookModel) (T := F_PatternBookModel) (N := 11) hx hb hts i_PatternBookModel t_PatternBookModel t_PatternBookModel_ok n_PatternBookModel hown hK hP hD hS 0 rfl rfl 1 (by decide) (hts _ k_318) (fun _ h9 => h9) rfl (by decide +kernel) rfl rfl (Nat.le_of_ble_eq_true rfl) d_PatternBookModel_openBinary_50 (fun H locs hP hD hS => ?_)
      have hP : va_P D classes [(mo, .inr (6, [.int co, .int (1:Int32), .int sg, .int ex, .ref wa, .long hi, .long lo, .long lh, .long ll, .ref sa, .ref ma])), (wa, .inl (cW, 12, .inr (.inl u4)))] H := hP
      have hD : va_D A [(mo, .inr (6, [.int co, .int (1:Int32), .int sg, .int ex, .ref wa, .long hi, .long lo, .long lh, .long ll, .ref sa, .ref ma])), (wa, .inl (cW, 12, .inr (.inl u4)))] := hD
      refine W.vret hx hb hr ?_ hS.2.2 d_PatternBookModel_openBinary_53
      exact uEnd ((1:Int32), ex, u4) (hP.sub [0, 1] rfl) (hK.sub [0] rfl) (hD.sub [0, 1] (by decide) rfl) hS (by have eu1 := hu1.symm; subst eu1; have eu2 := hu2.symm; subst eu2; have eu3 := hu3.symm; subst eu3; have eu4 := hu4.symm; subst eu4; have eu11 := hu11.symm; subst eu11; exact ((if_pos c_5).trans ((if_neg c_12).trans (rfl))).symm) rfl
set_option maxHeartbeats 4000000 in
set_option maxRecDepth 100000 in
/-- PatternBookModel.openDecimal(I)V -/
theorem c_M_openDecimal (l : Launch) (D : va_G) (mo : Nat) (wa : Nat) (sa : Nat) (ma : Nat) (cW : ClassId) (cS : ClassId) (sz : Nat) (x : Int32) (co : Int32) (kd : Int32) (sg : Int32) (ex : Int32) (hi : Int64) (lo : Int64) (lh : Int64) (ll : Int64) (w : Nat → Int64) (sp : Nat → Int32) (hk : mok_M_openDecimal x lh ll) : Met l y_PatternBookModel_openDecimal (wsOf y_PatternBookModel_openDecimal b_PatternBookModel_openDecimal 10 none) ({ frames := 3, cells := 0, slots := 0, locals := 77 }) (uP D classes [(mo, .inr (6, [.int co, .int kd, .int sg, .int ex, .ref wa, .long hi, .long lo, .long lh, .long ll, .ref sa, .ref ma])), (wa, .inl (cW, 12, .inr (.inl w))), (sa, .inl (cS, 1024, .inl sp))] [(cW, .long), (cS, .int)] sz [.ref mo, .int x]) (uQ D classes (fun _ : Int32 × Int32 × (Nat → Int64) => none) (fun u => u = (sl m_M_openDecimal) x kd ex lh ll w sp) (va_A [(mo, .inr (6, [.int co, .int kd, .int sg, .int ex, .ref wa, .long hi, .long lo, .long lh, .long ll, .ref sa, .ref ma])), (wa, .inl (cW, 12, .inr (.inl w))), (sa, .inl (cS, 1024, .inl sp))] sz) (fun _ => [(cW, .long), (cS, .int)]) (fun u => [(mo, .inr (6, [.int co, .int u.1, .int sg, .int u.2.1, .ref wa, .long hi, .long lo, .long lh, .long ll, .ref sa, .ref ma])), (wa, .inl (cW, 12, .inr (.inl u.2.2))), (sa, .inl (cS, 1024, .inl sp))])) 0 0 (va_A [(mo, .inr (6, [.int co, .int kd, .int sg, .int ex, .ref wa, .long hi, .long lo, .long lh, .long ll, .ref sa, .ref ma])), (wa, .inl (cW, 12, .inr (.inl w))), (sa, .inl (cS, 1024, .inl sp))] sz) := by
  rw [sl_eq m_M_openDecimal]
  refine uBegin (by decide +kernel) (Nat.le_of_ble_eq_true rfl) ?_
  intro p e s m below meth c A ls H locs hx hb hr hts hown hlocks hml hin hA hP hK hD hN hS hl
  have hl : lv_has ls 10 [(0, .ref mo), (1, .int x)] := hl
  unfold mok_M_openDecimal at hk
  refine lv_iload_n hx hb d_PatternBookModel_openDecimal_0 rfl (lv_at hl 1 rfl) ?_
  refine uCall (WR := [(mo, .inr (6, [.int co, .int kd, .int sg, .int ex, .ref wa, .long hi, .long lo, .long lh, .long ll, .ref sa, .ref ma])), (wa, .inl (cW, 12, .inr (.inl w))), (sa, .inl (cS, 1024, .inl sp))]) (RT := [(cW, .long), (cS, .int)]) (va_runS (As := [.int x]) (rest := []) ⟨hx, hb, hml, hown, hts⟩ (c_M_width l D H.size x) ⟨uCB 1 hts k_287 k_257 k_288 (by decide +kernel) rfl rfl ⟨Nat.le_of_ble_eq_true rfl, Nat.le_of_ble_eq_true rfl⟩, hts _ k_289⟩ (uPreS hK hP hD hN [] rfl (by decide) [] rfl) rfl rfl hl.1 rfl (lv_room (Nat.le_of_ble_eq_true rfl)) d_PatternBookModel_openDecimal_1 ⟨(Nat.le_of_ble_eq_true rfl), (Nat.le_of_ble_eq_true rfl)⟩) hK hP hD hS hA [] [0, 1, 2] rfl rfl (by decide) (by decide) [0, 1] rfl (fun u1 H locs hu1 hP hD hK hS => ?_)
  have hP : va_P D classes [(mo, .inr (6, [.int co, .int kd, .int sg, .int ex, .ref wa, .long hi, .long lo, .long lh, .long ll, .ref sa, .ref ma])), (wa, .inl (cW, 12, .inr (.inl w))), (sa, .inl (cS, 1024, .inl sp))] H := hP
  have hD : va_D A [(mo, .inr (6, [.int co, .int kd, .int sg, .int ex, .ref wa, .long hi, .long lo, .long lh, .long ll, .ref sa, .ref ma])), (wa, .inl (cW, 12, .inr (.inl w))), (sa, .inl (cS, 1024, .inl sp))] := hD
  have hK : va_K D classes [(cW, .long), (cS, .int)] s := hK
  refine W.eq (g2 := F0 m 4 ls [.int u1]) rfl ?_
  have hk := hk u1 hu1
  refine lv_istore_n (lv' := [(2, .int u1), (0, .ref mo), (1, .int x)]) hx hb d_PatternBookModel_openDecimal_4 rfl hl (by decide) rfl (fun ls hl => ?_)
  refine lv_iload_n hx hb d_PatternBookModel_openDecimal_5 rfl (lv_at hl 2 rfl) ?_
  refine uCall (WR := [(mo, .inr (6, [.int co, .int kd, .int sg, .int ex, .ref wa, .long hi, .long lo, .long lh, .long ll, .ref sa, .ref ma])), (wa, .inl (cW, 12, .inr (.inl w))), (sa, .inl (cS, 1024, .inl sp))]) (RT := [(cW, .long), (cS, .int)]) (va_runS (As := [.int x]) (rest := []) ⟨hx, hb, hml, hown, hts⟩ (c_M_tail l D H.size x) ⟨uCB 1 hts k_302 k_257 k_303 (by decide +kernel) rfl rfl ⟨Nat.le_of_ble_eq_true rfl, Nat.le_of_ble_eq_true rfl⟩, hts _ k_304⟩ (uPreS hK hP hD hN [] rfl (by decide) [] rfl) rfl rfl hl.1 rfl (lv_room (Nat.le_of_ble_eq_true rfl)) d_PatternBookModel_openDecimal_6 ⟨(Nat.le_of_ble_eq_true rfl), (Nat.le_of_ble_eq_true rfl)⟩) hK hP hD hS hA [] [0, 1, 2] rfl rfl (by decide) (by decide) [0, 1] rfl (fun u2 H locs hu2 hP hD hK hS => ?_)
  have hP : va_P D classes [(mo, .inr (6, [.int co, .int kd, .int sg, .int ex, .ref wa, .long hi, .long lo, .long lh, .long ll, .ref sa, .ref ma])), (wa, .inl (cW, 12, .inr (.inl w))), (sa, .inl (cS, 1024, .inl sp))] H := hP
  have hD : va_D A [(mo, .inr (6, [.int co, .int kd, .int sg, .int ex, .ref wa, .long hi, .long lo, .long lh, .long ll, .ref sa, .ref ma])), (wa, .inl (cW, 12, .inr (.inl w))), (sa, .inl (cS, 1024, .inl sp))] := hD
  have hK : va_K D classes [(cW, .long), (cS, .int)] s := hK
  refine W.eq (g2 := F0 m 9 ls [.int u2]) rfl ?_
  have hk := hk u2 hu2
  refine lv_istore_n (lv' := [(3, .int u2), (2, .int u1), (0, .ref mo), (1, .int x)]) hx hb d_PatternBookModel_openDecimal_9 rfl hl (by decide) rfl (fun ls hl => ?_)
  refine lv_iload_n hx hb d_PatternBookModel_openDecimal_10 rfl (lv_at hl 1 rfl) ?_
  refine lv_iconst (v := 1) hx hb d_PatternBookModel_openDecimal_11 (by decide) ?_
  refine lv_isub hx hb d_PatternBookModel_openDecimal_12 ?_
  refine lv_iload_n hx hb d_PatternBookModel_openDecimal_13 rfl (lv_at hl 0 rfl) ?_
  refine lv_isub hx hb d_PatternBookModel_openDecimal_14 ?_
  refine lv_istore (lv' := [(4, .int ((u1 - (1:Int32)) - u2)), (3, .int u2), (2, .int u1), (0, .ref mo), (1, .int x)]) hx hb d_PatternBookModel_openDecimal_15 hl (by decide) rfl (fun ls hl => ?_)
  refine lv_aload_n hx hb d_PatternBookModel_openDecimal_17 rfl (lv_at hl 3 rfl) ?_
  refine lv_iload_n hx hb d_PatternBookModel_openDecimal_18 rfl (lv_at hl 2 rfl) ?_
  refine lv_bipush (v := 6) hx hb d_PatternBookModel_openDecimal_19 (by decide) ?_
  refine lv_isub hx hb d_PatternBookModel_openDecimal_21 ?_
  refine lv_iconst (v := 5) hx hb d_PatternBookModel_openDecimal_22 (by decide) ?_
  have ho3 := hk.1
  have hk := hk.2
  refine uCall (WR := [(wa, .inl (cW, 12, .inr (.inl w))), (sa, .inl (cS, 1024, .inl sp))]) (RT := [(cW, .long), (cS, .int)]) (va_runV (As := [.int (u1 - (6:Int32)), .int (5:Int32)]) (rest := []) ⟨hx, hb, hml, hown, hts⟩ (c_M_field l D mo wa sa ma H.size (u1 - (6:Int32)) (5:Int32) co kd sg ex hi lo lh ll ho3) ⟨uCB 2 hts k_306 k_257 k_307 (by decide +kernel) rfl rfl ⟨Nat.le_of_ble_eq_true rfl, Nat.le_of_ble_eq_true rfl⟩, hts _ k_308, hts _ k_309⟩ (uPreV (ci := 6) (q0 := 0) hK hP hD hN [0] rfl (by decide) [] rfl rfl rfl) rfl rfl hl.1 rfl (lv_room (Nat.le_of_ble_eq_true rfl)) d_PatternBookModel_openDecimal_23 ⟨(Nat.le_of_ble_eq_true rfl), (Nat.le_of_ble_eq_true rfl)⟩) hK hP hD hS hA [0] [1, 2] rfl rfl (by decide) (by decide) [0, 1] rfl (fun u3 H locs hu3 hP hD hK hS => ?_)
  have hP : va_P D classes [(wa, .inl (cW, 12, .inr (.inl w))), (sa, .inl (cS, 1024, .inl sp)), (mo, .inr (6, [.int co, .int kd, .int sg, .int ex, .ref wa, .long hi, .long lo, .long lh, .long ll, .ref sa, .ref ma]))] H := hP
  have hD : va_D A [(wa, .inl (cW, 12, .inr (.inl w))), (sa, .inl (cS, 1024, .inl sp)), (mo, .inr (6, [.int co, .int kd, .int sg, .int ex, .ref wa, .long hi, .long lo, .long lh, .long ll, .ref sa, .ref ma]))] := hD
  have hK : va_K D classes [(cW, .long), (cS, .int)] s := hK
  refine W.eq (g2 := F0 m 26 ls [.int u3]) rfl ?_
  refine lv_istore (lv' := [(5, .int u3), (4, .int ((u1 - (1:Int32)) - u2)), (3, .int u2), (2, .int u1), (0, .ref mo), (1, .int x)]) hx hb d_PatternBookModel_openDecimal_26 hl (by decide) rfl (fun ls hl => ?_)
  refine lv_iload_n hx hb d_PatternBookModel_openDecimal_28 rfl (lv_at hl 5 rfl) ?_
  refine lv_bipush (v := 6) hx hb d_PatternBookModel_openDecimal_29 (by decide) ?_
  refine lv_icmp_le (tgt := 38) hx hb d_PatternBookModel_openDecimal_31 (by decide) (fun c_4 => ?_) (fun c_4 => ?_)
  · have hk := hk.1 c_4
    refine lv_iconst (v := 0) hx hb d_PatternBookModel_openDecimal_38 (by decide) ?_
    refine lv_istore (lv' := [(6, .int (0:Int32)), (5, .int u3), (4, .int ((u1 - (1:Int32)) - u2)), (3, .int u2), (2, .int u1), (0, .ref mo), (1, .int x)]) hx hb d_PatternBookModel_openDecimal_39 hl (by decide) rfl (fun ls hl => ?_)
    refine lv_aload_n hx hb d_PatternBookModel_openDecimal_41 rfl (lv_at hl 5 rfl) ?_
    refine lv_iconst (v := 0) hx hb d_PatternBookModel_openDecimal_42 (by decide) ?_
    refine lv_lconst (v := 0) hx hb d_PatternBookModel_openDecimal_43 (by decide) ?_
    refine uCall (WR := [(sa, .inl (cS, 1024, .inl sp))]) (RT := [(cS, .int)]) (va_runV (As := [.int (0:Int32), .long (0:Int64)]) (rest := []) ⟨hx, hb, hml, hown, hts⟩ (c_M_be0 l D mo wa sa ma cW H.size (0:Int64) co kd sg ex hi lo lh ll w) ⟨uCB 2 hts k_265 k_257 k_266 (by decide +kernel) rfl rfl ⟨Nat.le_of_ble_eq_true rfl, Nat.le_of_ble_eq_true rfl⟩, hts _ k_267, hts _ k_268⟩ (uPreV (ci := 6) (q0 := 2) hK hP hD hN [2, 0] rfl (by decide) [0] rfl rfl rfl) rfl rfl hl.1 rfl (lv_room (Nat.le_of_ble_eq_true rfl)) d_PatternBookModel_openDecimal_44 ⟨(Nat.le_of_ble_eq_true rfl), (Nat.le_of_ble_eq_true rfl)⟩) hK hP hD hS hA [2, 0] [1] rfl rfl (by decide) (by decide) [1] rfl (fun u5 H locs hu5 hP hD hK hS => ?_)
    have hP : va_P D classes [(sa, .inl (cS, 1024, .inl sp)), (mo, .inr (6, [.int co, .int kd, .int sg, .int ex, .ref wa, .long hi, .long lo, .long lh, .long ll, .ref sa, .ref ma])), (wa, .inl (cW, 12, .inr (.inl u5)))] H := hP
    have hD : va_D A [(sa, .inl (cS, 1024, .inl sp)), (mo, .inr (6, [.int co, .int kd, .int sg, .int ex, .ref wa, .long hi, .long lo, .long lh, .long ll, .ref sa, .ref ma])), (wa, .inl (cW, 12, .inr (.inl u5)))] := hD
    have hK : va_K D classes [(cS, .int), (cW, .long)] s := hK
    refine W.eq (g2 := F0 m 47 ls []) rfl ?_
    refine lv_iload hx hb d_PatternBookModel_openDecimal_47 (lv_at hl 1 rfl) ?_
    refine lv_bipush (v := 30) hx hb d_PatternBookModel_openDecimal_49 (by decide) ?_
    refine lv_icmp_ne (tgt := 60) hx hb d_PatternBookModel_openDecimal_51 (by decide) (fun c_6 => ?_) (fun c_6 => ?_)
    · refine lv_iload hx hb d_PatternBookModel_openDecimal_60 (lv_at hl 1 rfl) ?_
      refine lv_bipush (v := 31) hx hb d_PatternBookModel_openDecimal_62 (by decide) ?_
      refine lv_icmp_ne (tgt := 115) hx hb d_PatternBookModel_openDecimal_64 (by decide) (fun c_7 => ?_) (fun c_7 => ?_)
      · have hk := hk.2
        refine lv_iload hx hb d_PatternBookModel_openDecimal_115 (lv_at hl 1 rfl) ?_
        refine lv_bipush (v := 24) hx hb d_PatternBookModel_openDecimal_117 (by decide) ?_
        refine lv_icmp_ge (tgt := 126) hx hb d_PatternBookModel_openDecimal_119 (by decide) (fun c_8 => ?_) (fun c_8 => ?_)
        · have hk := hk.1
          refine lv_iconst (v := 0) hx hb d_PatternBookModel_openDecimal_126 (by decide) ?_
          refine lv_istore (lv' := [(7, .int (0:Int32)), (6, .int (0:Int32)), (5, .int u3), (4, .int ((u1 - (1:Int32)) - u2)), (3, .int u2), (2, .int u1), (0, .ref mo), (1, .int x)]) hx hb d_PatternBookModel_openDecimal_127 hl (by decide) rfl (fun ls hl => ?_)
          refine lv_iload hx hb d_PatternBookModel_openDecimal_129 (lv_at hl 1 rfl) ?_
          refine lv_if_eq (tgt := 211) hx hb d_PatternBookModel_openDecimal_131 (by decide) (fun c_9 => ?_) (fun c_9 => ?_)
          · refine lv_aload_n hx hb d_PatternBookModel_openDecimal_211 rfl (lv_at hl 6 rfl) ?_
            refine lv_iload hx hb d_PatternBookModel_openDecimal_212 (lv_at hl 0 rfl) ?_
            refine lv_if_eq (tgt := 223) hx hb d_PatternBookModel_openDecimal_214 (by decide) (fun c_10 => ?_) (fun c_10 => ?_)
            · refine lv_iload_n hx hb d_PatternBookModel_openDecimal_223 rfl (lv_at hl 4 rfl) ?_
              refine lv_iconst (v := 1) hx hb d_PatternBookModel_openDecimal_224 (by decide) ?_
              refine lv_iadd hx hb d_PatternBookModel_openDecimal_225 ?_
              refine lv_iload hx hb d_PatternBookModel_openDecimal_226 (lv_at hl 3 rfl) ?_
              refine lv_iconst (v := 3) hx hb d_PatternBookModel_openDecimal_228 (by decide) ?_
              refine lv_isub hx hb d_PatternBookModel_openDecimal_229 ?_
              have ho11 := hk.1
              have hk := hk.2
              refine uCall (WR := [(sa, .inl (cS, 1024, .inl sp)), (wa, .inl (cW, 12, .inr (.inl u5)))]) (RT := [(cS, .int), (cW, .long)]) (va_runV (As := [.int (u2 + (1:Int32)), .int (((u1 - (1:Int32)) - u2) - (3:Int32))]) (rest := []) ⟨hx, hb, hml, hown, hts⟩ (c_M_field l D mo wa sa ma H.size (u2 + (1:Int32)) (((u1 - (1:Int32)) - u2) - (3:Int32)) co kd sg ex hi lo lh ll ho11) ⟨uCB 2 hts k_306 k_257 k_307 (by decide +kernel) rfl rfl ⟨Nat.le_of_ble_eq_true rfl, Nat.le_of_ble_eq_true rfl⟩, hts _ k_308, hts _ k_309⟩ (uPreV (ci := 6) (q0 := 1) hK hP hD hN [1] rfl (by decide) [] rfl rfl rfl) rfl rfl hl.1 rfl (lv_room (Nat.le_of_ble_eq_true rfl)) d_PatternBookModel_openDecimal_230 ⟨(Nat.le_of_ble_eq_true rfl), (Nat.le_of_ble_eq_true rfl)⟩) hK hP hD hS hA [1] [0, 2] rfl rfl (by decide) (by decide) [0, 1] rfl (fun u11 H locs hu11 hP hD hK hS => ?_)
              have hP : va_P D classes [(sa, .inl (cS, 1024, .inl sp)), (wa, .inl (cW, 12, .inr (.inl u5))), (mo, .inr (6, [.int co, .int kd, .int sg, .int ex, .ref wa, .long hi, .long lo, .long lh, .long ll, .ref sa, .ref ma]))] H := hP
              have hD : va_D A [(sa, .inl (cS, 1024, .inl sp)), (wa, .inl (cW, 12, .inr (.inl u5))), (mo, .inr (6, [.int co, .int kd, .int sg, .int ex, .ref wa, .long hi, .long lo, .long lh, .long ll, .ref sa, .ref ma]))] := hD
              have hK : va_K D classes [(cS, .int), (cW, .long)] s := hK
              refine W.eq (g2 := F0 m 233 ls [.int u11]) rfl ?_
              refine lv_istore (lv' := [(8, .int u11), (7, .int (0:Int32)), (6, .int (0:Int32)), (5, .int u3), (4, .int ((u1 - (1:Int32)) - u2)), (3, .int u2), (2, .int u1), (0, .ref mo), (1, .int x)]) hx hb d_PatternBookModel_openDecimal_233 hl (by decide) rfl (fun ls hl => ?_)
              refine lv_aload_n hx hb d_PatternBookModel_openDecimal_235 rfl (lv_at hl 7 rfl) ?_
              refine lv_iload hx hb d_PatternBookModel_openDecimal_236 (lv_at hl 1 rfl) ?_
              refine lv_if_eq (tgt := 245) hx hb d_PatternBookModel_openDecimal_238 (by decide) (fun c_12 => ?_) (fun c_12 => ?_)
              · refine lv_iconst (v := 4) hx hb d_PatternBookModel_openDecimal_245 (by decide) ?_
                refine lv_iload hx hb d_PatternBookModel_openDecimal_246 (lv_at hl 1 rfl) ?_
                refine lv_if_eq (tgt := 257) hx hb d_PatternBookModel_openDecimal_248 (by decide) (fun c_13 => ?_) (fun c_13 => ?_)
                · refine lv_iload_n hx hb d_PatternBookModel_openDecimal_257 rfl (lv_at hl 5 rfl) ?_
                  refine lv_iconst (v := 1) hx hb d_PatternBookModel_openDecimal_258 (by decide) ?_
                  refine lv_iadd hx hb d_PatternBookModel_openDecimal_259 ?_
                  refine lv_iload_n hx hb d_PatternBookModel_openDecimal_260 rfl (lv_at hl 8 rfl) ?_
                  refine uCall (WR := [(sa, .inl (cS, 1024, .inl sp)), (wa, .inl (cW, 12, .inr (.inl u5))), (mo, .inr (6, [.int co, .int kd, .int sg, .int ex, .ref wa, .long hi, .long lo, .long lh, .long ll, .ref sa, .ref ma]))]) (RT := [(cS, .int), (cW, .long)]) (va_runS (As := [.int x]) (rest := [.int (u2 + (1:Int32)), .int (4:Int32), .ref mo]) ⟨hx, hb, hml, hown, hts⟩ (c_M_digitsOf l D H.size x) ⟨uCB 1 hts k_260 k_257 k_261 (by decide +kernel) rfl rfl ⟨Nat.le_of_ble_eq_true rfl, Nat.le_of_ble_eq_true rfl⟩, hts _ k_262⟩ (uPreS hK hP hD hN [] rfl (by decide) [] rfl) rfl rfl hl.1 rfl (lv_room (Nat.le_of_ble_eq_true rfl)) d_PatternBookModel_openDecimal_261 ⟨(Nat.le_of_ble_eq_true rfl), (Nat.le_of_ble_eq_true rfl)⟩) hK hP hD hS hA [] [0, 1, 2] rfl rfl (by decide) (by decide) [0, 1] rfl (fun u14 H locs hu14 hP hD hK hS => ?_)
                  have hP : va_P D classes [(sa, .inl (cS, 1024, .inl sp)), (wa, .inl (cW, 12, .inr (.inl u5))), (mo, .inr (6, [.int co, .int kd, .int sg, .int ex, .ref wa, .long hi, .long lo, .long lh, .long ll, .ref sa, .ref ma]))] H := hP
                  have hD : va_D A [(sa, .inl (cS, 1024, .inl sp)), (wa, .inl (cW, 12, .inr (.inl u5))), (mo, .inr (6, [.int co, .int kd, .int sg, .int ex, .ref wa, .long hi, .long lo, .long lh, .long ll, .ref sa, .ref ma]))] := hD
                  have hK : va_K D classes [(cS, .int), (cW, .long)] s := hK
                  refine W.eq (g2 := F0 m 264 ls [.int u14, .int (u2 + (1:Int32)), .int (4:Int32), .ref mo]) rfl ?_
                  have hk := hk u14 hu14
                  refine lv_iload hx hb d_PatternBookModel_openDecimal_264 (lv_at hl 1 rfl) ?_
                  refine lv_if_eq (tgt := 273) hx hb d_PatternBookModel_openDecimal_266 (by decide) (fun c_15 => ?_) (fun c_15 => ?_)
                  · refine lv_iload_n hx hb d_PatternBookModel_openDecimal_273 rfl (lv_at hl 5 rfl) ?_
                    refine lv_iconst (v := 1) hx hb d_PatternBookModel_openDecimal_274 (by decide) ?_
                    refine lv_iadd hx hb d_PatternBookModel_openDecimal_275 ?_
                    have ho16 := hk
                    refine uCall (WR := [(sa, .inl (cS, 1024, .inl sp))]) (RT := [(cS, .int)]) (va_runV (As := [.int (4:Int32), .int (u2 + (1:Int32)), .int u14, .int (u2 + (1:Int32))]) (rest := []) ⟨hx, hb, hml, hown, hts⟩ (c_M_takeAtMost l D mo wa sa ma cW H.size (4:Int32) (u2 + (1:Int32)) u14 (u2 + (1:Int32)) co kd sg ex hi lo lh ll u5 ho16) ⟨uCB 4 hts k_319 k_257 k_320 (by decide +kernel) rfl rfl ⟨Nat.le_of_ble_eq_true rfl, Nat.le_of_ble_eq_true rfl⟩, hts _ k_321, hts _ k_322⟩ (uPreV (ci := 6) (q0 := 2) hK hP hD hN [2, 1] rfl (by decide) [1] rfl rfl rfl) rfl rfl hl.1 rfl (lv_room (Nat.le_of_ble_eq_true rfl)) d_PatternBookModel_openDecimal_276 ⟨(Nat.le_of_ble_eq_true rfl), (Nat.le_of_ble_eq_true rfl)⟩) hK hP hD hS hA [2, 1] [0] rfl rfl (by decide) (by decide) [0] rfl (fun u16 H locs hu16 hP hD hK hS => ?_)
                    have hP : va_P D classes [(sa, .inl (cS, 1024, .inl sp)), (mo, .inr (6, [.int co, .int kd, .int sg, .int ex, .ref wa, .long hi, .long lo, .long lh, .long ll, .ref sa, .ref ma])), (wa, .inl (cW, 12, .inr (.inl u16)))] H := hP
                    have hD : va_D A [(sa, .inl (cS, 1024, .inl sp)), (mo, .inr (6, [.int co, .int kd, .int sg, .int ex, .ref wa, .long hi, .long lo, .long lh, .long ll, .ref sa, .ref ma])), (wa, .inl (cW, 12, .inr (.inl u16)))] := hD
                    have hK : va_K D classes [(cS, .int), (cW, .long)] s := hK
                    refine W.eq (g2 := F0 m 279 ls []) rfl ?_
                    refine lv_aload_n hx hb d_PatternBookModel_openDecimal_279 rfl (lv_at hl 7 rfl) ?_
                    refine lv_iload hx hb d_PatternBookModel_openDecimal_280 (lv_at hl 0 rfl) ?_
                    refine lv_iload_n hx hb d_PatternBookModel_openDecimal_282 rfl (lv_at hl 8 rfl) ?_
                    refine uCall (WR := [(sa, .inl (cS, 1024, .inl sp)), (mo, .inr (6, [.int co, .int kd, .int sg, .int ex, .ref wa, .long hi, .long lo, .long lh, .long ll, .ref sa, .ref ma])), (wa, .inl (cW, 12, .inr (.inl u16)))]) (RT := [(cS, .int), (cW, .long)]) (va_runS (As := [.int x]) (rest := [.int u11, .ref mo]) ⟨hx, hb, hml, hown, hts⟩ (c_M_least l D H.size x) ⟨uCB 1 hts k_310 k_257 k_311 (by decide +kernel) rfl rfl ⟨Nat.le_of_ble_eq_true rfl, Nat.le_of_ble_eq_true rfl⟩, hts _ k_312⟩ (uPreS hK hP hD hN [] rfl (by decide) [] rfl) rfl rfl hl.1 rfl (lv_room (Nat.le_of_ble_eq_true rfl)) d_PatternBookModel_openDecimal_283 ⟨(Nat.le_of_ble_eq_true rfl), (Nat.le_of_ble_eq_true rfl)⟩) hK hP hD hS hA [] [0, 1, 2] rfl rfl (by decide) (by decide) [0, 1] rfl (fun u17 H locs hu17 hP hD hK hS => ?_)
                    have hP : va_P D classes [(sa, .inl (cS, 1024, .inl sp)), (mo, .inr (6, [.int co, .int kd, .int sg, .int ex, .ref wa, .long hi, .long lo, .long lh, .long ll, .ref sa, .ref ma])), (wa, .inl (cW, 12, .inr (.inl u16)))] H := hP
                    have hD : va_D A [(sa, .inl (cS, 1024, .inl sp)), (mo, .inr (6, [.int co, .int kd, .int sg, .int ex, .ref wa, .long hi, .long lo, .long lh, .long ll, .ref sa, .ref ma])), (wa, .inl (cW, 12, .inr (.inl u16)))] := hD
                    have hK : va_K D classes [(cS, .int), (cW, .long)] s := hK
                    refine W.eq (g2 := F0 m 286 ls [.int u17, .int u11, .ref mo]) rfl ?_
                    refine lv_iadd hx hb d_PatternBookModel_openDecimal_286 ?_
                    refine va_put (D := D) (ci := 6) (v := .int (u11 + u17)) (ty := .int) (C := R_PatternBookModel) (T := F_PatternBookModel) (N := 11) hx hb hts i_PatternBookModel t_PatternBookModel t_PatternBookModel_ok n_PatternBookModel hown hK hP hD hS 1 rfl rfl 3 (by decide) (hts _ k_313) (fun _ h9 => h9) rfl (by decide +kernel) rfl rfl (Nat.le_of_ble_eq_true rfl) d_PatternBookModel_openDecimal_287 (fun H locs hP hD hS => ?_)
                    have hP : va_P D classes [(sa, .inl (cS, 1024, .inl sp)), (mo, .inr (6, [.int co, .int kd, .int sg, .int (u11 + u17), .ref wa, .long hi, .long lo, .long lh, .long ll, .ref sa, .ref ma])), (wa, .inl (cW, 12, .inr (.inl u16)))] H := hP
                    have hD : va_D A [(sa, .inl (cS, 1024, .inl sp)), (mo, .inr (6, [.int co, .int kd, .int sg, .int (u11 + u17), .ref wa, .long hi, .long lo, .long lh, .long ll, .ref sa, .ref ma])), (wa, .inl (cW, 12, .inr (.inl u16)))] := hD
                    refine W.vret hx hb hr ?_ hS.2.2 d_PatternBookModel_openDecimal_290
                    exact uEnd (kd, (u11 + u17), u16) (hP.sub [1, 2, 0] rfl) (hK.sub [1, 0] rfl) (hD.sub [1, 2, 0] (by decide) rfl) hS (by have eu1 := hu1.symm; subst eu1; have eu2 := hu2.symm; subst eu2; have eu3 := hu3.symm; subst eu3; have eu5 := hu5.symm; subst eu5; have eu11 := hu11.symm; subst eu11; have eu14 := hu14.symm; subst eu14; have eu16 := hu16.symm; subst eu16; have eu17 := hu17.symm; subst eu17; exact ((if_pos c_4).trans ((if_neg c_6).trans ((if_neg c_7).trans ((if_pos c_8).trans (rfl))))).symm) rfl
                  · exact absurd (by decide) c_15
                · exact absurd (by decide) c_13
              · exact absurd (by decide) c_12
            · exact absurd (by decide) c_10
          · exact absurd (by decide) c_9
        · have hk := hk.2
          refine lv_iconst (v := 1) hx hb d_PatternBookModel_openDecimal_122 (by decide) ?_
          refine lv_goto (tgt := 127) hx hb d_PatternBookModel_openDecimal_123 (by decide) ?_
          refine lv_istore (lv' := [(7, .int (1:Int32)), (6, .int (0:Int32)), (5, .int u3), (4, .int ((u1 - (1:Int32)) - u2)), (3, .int u2), (2, .int u1), (0, .ref mo), (1, .int x)]) hx hb d_PatternBookModel_openDecimal_127 hl (by decide) rfl (fun ls hl => ?_)
          refine lv_iload hx hb d_PatternBookModel_openDecimal_129 (lv_at hl 1 rfl) ?_
          refine lv_if_eq (tgt := 211) hx hb d_PatternBookModel_openDecimal_131 (by decide) (fun c_18 => ?_) (fun c_18 => ?_)
          · refine lv_aload_n hx hb d_PatternBookModel_openDecimal_211 rfl (lv_at hl 6 rfl) ?_
            refine lv_iload hx hb d_PatternBookModel_openDecimal_212 (lv_at hl 0 rfl) ?_
            refine lv_if_eq (tgt := 223) hx hb d_PatternBookModel_openDecimal_214 (by decide) (fun c_19 => ?_) (fun c_19 => ?_)
            · exact absurd c_19 (by decide)
            · refine lv_iload_n hx hb d_PatternBookModel_openDecimal_217 rfl (lv_at hl 4 rfl) ?_
              refine lv_iconst (v := 3) hx hb d_PatternBookModel_openDecimal_218 (by decide) ?_
              refine lv_iadd hx hb d_PatternBookModel_openDecimal_219 ?_
              refine lv_goto (tgt := 226) hx hb d_PatternBookModel_openDecimal_220 (by decide) ?_
              refine lv_iload hx hb d_PatternBookModel_openDecimal_226 (lv_at hl 3 rfl) ?_
              refine lv_iconst (v := 3) hx hb d_PatternBookModel_openDecimal_228 (by decide) ?_
              refine lv_isub hx hb d_PatternBookModel_openDecimal_229 ?_
              have ho20 := hk.1
              have hk := hk.2
              refine uCall (WR := [(sa, .inl (cS, 1024, .inl sp)), (wa, .inl (cW, 12, .inr (.inl u5)))]) (RT := [(cS, .int), (cW, .long)]) (va_runV (As := [.int (u2 + (3:Int32)), .int (((u1 - (1:Int32)) - u2) - (3:Int32))]) (rest := []) ⟨hx, hb, hml, hown, hts⟩ (c_M_field l D mo wa sa ma H.size (u2 + (3:Int32)) (((u1 - (1:Int32)) - u2) - (3:Int32)) co kd sg ex hi lo lh ll ho20) ⟨uCB 2 hts k_306 k_257 k_307 (by decide +kernel) rfl rfl ⟨Nat.le_of_ble_eq_true rfl, Nat.le_of_ble_eq_true rfl⟩, hts _ k_308, hts _ k_309⟩ (uPreV (ci := 6) (q0 := 1) hK hP hD hN [1] rfl (by decide) [] rfl rfl rfl) rfl rfl hl.1 rfl (lv_room (Nat.le_of_ble_eq_true rfl)) d_PatternBookModel_openDecimal_230 ⟨(Nat.le_of_ble_eq_true rfl), (Nat.le_of_ble_eq_true rfl)⟩) hK hP hD hS hA [1] [0, 2] rfl rfl (by decide) (by decide) [0, 1] rfl (fun u20 H locs hu20 hP hD hK hS => ?_)
              have hP : va_P D classes [(sa, .inl (cS, 1024, .inl sp)), (wa, .inl (cW, 12, .inr (.inl u5))), (mo, .inr (6, [.int co, .int kd, .int sg, .int ex, .ref wa, .long hi, .long lo, .long lh, .long ll, .ref sa, .ref ma]))] H := hP
              have hD : va_D A [(sa, .inl (cS, 1024, .inl sp)), (wa, .inl (cW, 12, .inr (.inl u5))), (mo, .inr (6, [.int co, .int kd, .int sg, .int ex, .ref wa, .long hi, .long lo, .long lh, .long ll, .ref sa, .ref ma]))] := hD
              have hK : va_K D classes [(cS, .int), (cW, .long)] s := hK
              refine W.eq (g2 := F0 m 233 ls [.int u20]) rfl ?_
              refine lv_istore (lv' := [(8, .int u20), (7, .int (1:Int32)), (6, .int (0:Int32)), (5, .int u3), (4, .int ((u1 - (1:Int32)) - u2)), (3, .int u2), (2, .int u1), (0, .ref mo), (1, .int x)]) hx hb d_PatternBookModel_openDecimal_233 hl (by decide) rfl (fun ls hl => ?_)
              refine lv_aload_n hx hb d_PatternBookModel_openDecimal_235 rfl (lv_at hl 7 rfl) ?_
              refine lv_iload hx hb d_PatternBookModel_openDecimal_236 (lv_at hl 1 rfl) ?_
              refine lv_if_eq (tgt := 245) hx hb d_PatternBookModel_openDecimal_238 (by decide) (fun c_21 => ?_) (fun c_21 => ?_)
              · exact absurd c_21 (by decide)
              · refine lv_iconst (v := 0) hx hb d_PatternBookModel_openDecimal_241 (by decide) ?_
                refine lv_goto (tgt := 246) hx hb d_PatternBookModel_openDecimal_242 (by decide) ?_
                refine lv_iload hx hb d_PatternBookModel_openDecimal_246 (lv_at hl 1 rfl) ?_
                refine lv_if_eq (tgt := 257) hx hb d_PatternBookModel_openDecimal_248 (by decide) (fun c_22 => ?_) (fun c_22 => ?_)
                · exact absurd c_22 (by decide)
                · refine lv_iload_n hx hb d_PatternBookModel_openDecimal_251 rfl (lv_at hl 5 rfl) ?_
                  refine lv_iconst (v := 3) hx hb d_PatternBookModel_openDecimal_252 (by decide) ?_
                  refine lv_iadd hx hb d_PatternBookModel_openDecimal_253 ?_
                  refine lv_goto (tgt := 260) hx hb d_PatternBookModel_openDecimal_254 (by decide) ?_
                  refine lv_iload_n hx hb d_PatternBookModel_openDecimal_260 rfl (lv_at hl 8 rfl) ?_
                  refine uCall (WR := [(sa, .inl (cS, 1024, .inl sp)), (wa, .inl (cW, 12, .inr (.inl u5))), (mo, .inr (6, [.int co, .int kd, .int sg, .int ex, .ref wa, .long hi, .long lo, .long lh, .long ll, .ref sa, .ref ma]))]) (RT := [(cS, .int), (cW, .long)]) (va_runS (As := [.int x]) (rest := [.int (u2 + (3:Int32)), .int (0:Int32), .ref mo]) ⟨hx, hb, hml, hown, hts⟩ (c_M_digitsOf l D H.size x) ⟨uCB 1 hts k_260 k_257 k_261 (by decide +kernel) rfl rfl ⟨Nat.le_of_ble_eq_true rfl, Nat.le_of_ble_eq_true rfl⟩, hts _ k_262⟩ (uPreS hK hP hD hN [] rfl (by decide) [] rfl) rfl rfl hl.1 rfl (lv_room (Nat.le_of_ble_eq_true rfl)) d_PatternBookModel_openDecimal_261 ⟨(Nat.le_of_ble_eq_true rfl), (Nat.le_of_ble_eq_true rfl)⟩) hK hP hD hS hA [] [0, 1, 2] rfl rfl (by decide) (by decide) [0, 1] rfl (fun u23 H locs hu23 hP hD hK hS => ?_)
                  have hP : va_P D classes [(sa, .inl (cS, 1024, .inl sp)), (wa, .inl (cW, 12, .inr (.inl u5))), (mo, .inr (6, [.int co, .int kd, .int sg, .int ex, .ref wa, .long hi, .long lo, .long lh, .long ll, .ref sa, .ref ma]))] H := hP
                  have hD : va_D A [(sa, .inl (cS, 1024, .inl sp)), (wa, .inl (cW, 12, .inr (.inl u5))), (mo, .inr (6, [.int co, .int kd, .int sg, .int ex, .ref wa, .long hi, .long lo, .long lh, .long ll, .ref sa, .ref ma]))] := hD
                  have hK : va_K D classes [(cS, .int), (cW, .long)] s := hK
                  refine W.eq (g2 := F0 m 264 ls [.int u23, .int (u2 + (3:Int32)), .int (0:Int32), .ref mo]) rfl ?_
                  have hk := hk u23 hu23
                  refine lv_iload hx hb d_PatternBookModel_openDecimal_264 (lv_at hl 1 rfl) ?_
                  refine lv_if_eq (tgt := 273) hx hb d_PatternBookModel_openDecimal_266 (by decide) (fun c_24 => ?_) (fun c_24 => ?_)
                  · exact absurd c_24 (by decide)
                  · refine lv_iconst (v := 0) hx hb d_PatternBookModel_openDecimal_269 (by decide) ?_
                    refine lv_goto (tgt := 276) hx hb d_PatternBookModel_openDecimal_270 (by decide) ?_
                    have ho25 := hk
                    refine uCall (WR := [(sa, .inl (cS, 1024, .inl sp))]) (RT := [(cS, .int)]) (va_runV (As := [.int (0:Int32), .int (u2 + (3:Int32)), .int u23, .int (0:Int32)]) (rest := []) ⟨hx, hb, hml, hown, hts⟩ (c_M_takeAtMost l D mo wa sa ma cW H.size (0:Int32) (u2 + (3:Int32)) u23 (0:Int32) co kd sg ex hi lo lh ll u5 ho25) ⟨uCB 4 hts k_319 k_257 k_320 (by decide +kernel) rfl rfl ⟨Nat.le_of_ble_eq_true rfl, Nat.le_of_ble_eq_true rfl⟩, hts _ k_321, hts _ k_322⟩ (uPreV (ci := 6) (q0 := 2) hK hP hD hN [2, 1] rfl (by decide) [1] rfl rfl rfl) rfl rfl hl.1 rfl (lv_room (Nat.le_of_ble_eq_true rfl)) d_PatternBookModel_openDecimal_276 ⟨(Nat.le_of_ble_eq_true rfl), (Nat.le_of_ble_eq_true rfl)⟩) hK hP hD hS hA [2, 1] [0] rfl rfl (by decide) (by decide) [0] rfl (fun u25 H locs hu25 hP hD hK hS => ?_)
                    have hP : va_P D classes [(sa, .inl (cS, 1024, .inl sp)), (mo, .inr (6, [.int co, .int kd, .int sg, .int ex, .ref wa, .long hi, .long lo, .long lh, .long ll, .ref sa, .ref ma])), (wa, .inl (cW, 12, .inr (.inl u25)))] H := hP
                    have hD : va_D A [(sa, .inl (cS, 1024, .inl sp)), (mo, .inr (6, [.int co, .int kd, .int sg, .int ex, .ref wa, .long hi, .long lo, .long lh, .long ll, .ref sa, .ref ma])), (wa, .inl (cW, 12, .inr (.inl u25)))] := hD
                    have hK : va_K D classes [(cS, .int), (cW, .long)] s := hK
                    refine W.eq (g2 := F0 m 279 ls []) rfl ?_
                    refine lv_aload_n hx hb d_PatternBookModel_openDecimal_279 rfl (lv_at hl 7 rfl) ?_
                    refine lv_iload hx hb d_PatternBookModel_openDecimal_280 (lv_at hl 0 rfl) ?_
                    refine lv_iload_n hx hb d_PatternBookModel_openDecimal_282 rfl (lv_at hl 8 rfl) ?_
                    refine uCall (WR := [(sa, .inl (cS, 1024, .inl sp)), (mo, .inr (6, [.int co, .int kd, .int sg, .int ex, .ref wa, .long hi, .long lo, .long lh, .long ll, .ref sa, .ref ma])), (wa, .inl (cW, 12, .inr (.inl u25)))]) (RT := [(cS, .int), (cW, .long)]) (va_runS (As := [.int x]) (rest := [.int u20, .ref mo]) ⟨hx, hb, hml, hown, hts⟩ (c_M_least l D H.size x) ⟨uCB 1 hts k_310 k_257 k_311 (by decide +kernel) rfl rfl ⟨Nat.le_of_ble_eq_true rfl, Nat.le_of_ble_eq_true rfl⟩, hts _ k_312⟩ (uPreS hK hP hD hN [] rfl (by decide) [] rfl) rfl rfl hl.1 rfl (lv_room (Nat.le_of_ble_eq_true rfl)) d_PatternBookModel_openDecimal_283 ⟨(Nat.le_of_ble_eq_true rfl), (Nat.le_of_ble_eq_true rfl)⟩) hK hP hD hS hA [] [0, 1, 2] rfl rfl (by decide) (by decide) [0, 1] rfl (fun u26 H locs hu26 hP hD hK hS => ?_)
                    have hP : va_P D classes [(sa, .inl (cS, 1024, .inl sp)), (mo, .inr (6, [.int co, .int kd, .int sg, .int ex, .ref wa, .long hi, .long lo, .long lh, .long ll, .ref sa, .ref ma])), (wa, .inl (cW, 12, .inr (.inl u25)))] H := hP
                    have hD : va_D A [(sa, .inl (cS, 1024, .inl sp)), (mo, .inr (6, [.int co, .int kd, .int sg, .int ex, .ref wa, .long hi, .long lo, .long lh, .long ll, .ref sa, .ref ma])), (wa, .inl (cW, 12, .inr (.inl u25)))] := hD
                    have hK : va_K D classes [(cS, .int), (cW, .long)] s := hK
                    refine W.eq (g2 := F0 m 286 ls [.int u26, .int u20, .ref mo]) rfl ?_
                    refine lv_iadd hx hb d_PatternBookModel_openDecimal_286 ?_
                    refine va_put (D := D) (ci := 6) (v := .int (u20 + u26)) (ty := .int) (C := R_PatternBookModel) (T := F_PatternBookModel) (N := 11) hx hb hts i_PatternBookModel t_PatternBookModel t_PatternBookModel_ok n_PatternBookModel hown hK hP hD hS 1 rfl rfl 3 (by decide) (hts _ k_313) (fun _ h9 => h9) rfl (by decide +kernel) rfl rfl (Nat.le_of_ble_eq_true rfl) d_PatternBookModel_openDecimal_287 (fun H locs hP hD hS => ?_)
                    have hP : va_P D classes [(sa, .inl (cS, 1024, .inl sp)), (mo, .inr (6, [.int co, .int kd, .int sg, .int (u20 + u26), .ref wa, .long hi, .long lo, .long lh, .long ll, .ref sa, .ref ma])), (wa, .inl (cW, 12, .inr (.inl u25)))] H := hP
                    have hD : va_D A [(sa, .inl (cS, 1024, .inl sp)), (mo, .inr (6, [.int co, .int kd, .int sg, .int (u20 + u26), .ref wa, .long hi, .long lo, .long lh, .long ll, .ref sa, .ref ma])), (wa, .inl (cW, 12, .inr (.inl u25)))] := hD
                    refine W.vret hx hb hr ?_ hS.2.2 d_PatternBookModel_openDecimal_290
                    exact uEnd (kd, (u20 + u26), u25) (hP.sub [1, 2, 0] rfl) (hK.sub [1, 0] rfl) (hD.sub [1, 2, 0] (by decide) rfl) hS (by have eu1 := hu1.symm; subst eu1; have eu2 := hu2.symm; subst eu2; have eu3 := hu3.symm; subst eu3; have eu5 := hu5.symm; subst eu5; have eu20 := hu20.symm; subst eu20; have eu23 := hu23.symm; subst eu23; have eu25 := hu25.symm; subst eu25; have eu26 := hu26.symm; subst eu26; exact ((if_pos c_4).trans ((if_neg c_6).trans ((if_neg c_7).trans ((if_neg c_8).trans (rfl))))).symm) rfl
          · exact absurd (by decide) c_18
      · have hk := hk.1
        refine lv_aload_n hx hb d_PatternBookModel_openDecimal_67 rfl (lv_at hl 5 rfl) ?_
        refine lv_aload_n hx hb d_PatternBookModel_openDecimal_68 rfl (lv_at hl 5 rfl) ?_
        refine lv_iload_n hx hb d_PatternBookModel_openDecimal_69 rfl (lv_at hl 4 rfl) ?_
        refine lv_bipush (v := 7) hx hb d_PatternBookModel_openDecimal_70 (by decide) ?_
        refine lv_isub hx hb d_PatternBookModel_openDecimal_72 ?_
        refine uCall (WR := [(sa, .inl (cS, 1024, .inl sp)), (wa, .inl (cW, 12, .inr (.inl u5)))]) (RT := [(cS, .int), (cW, .long)]) (va_runV (As := [.int (u1 - (7:Int32))]) (rest := [.ref mo]) ⟨hx, hb, hml, hown, hts⟩ (c_M_bit l D mo wa sa ma H.size (u1 - (7:Int32)) co kd sg ex hi lo lh ll) ⟨uCB 1 hts k_275 k_257 k_276 (by decide +kernel) rfl rfl ⟨Nat.le_of_ble_eq_true rfl, Nat.le_of_ble_eq_true rfl⟩, hts _ k_277, hts _ k_278⟩ (uPreV (ci := 6) (q0 := 1) hK hP hD hN [1] rfl (by decide) [] rfl rfl rfl) rfl rfl hl.1 rfl (lv_room (Nat.le_of_ble_eq_true rfl)) d_PatternBookModel_openDecimal_73 ⟨(Nat.le_of_ble_eq_true rfl), (Nat.le_of_ble_eq_true rfl)⟩) hK hP hD hS hA [1] [0, 2] rfl rfl (by decide) (by decide) [0, 1] rfl (fun u27 H locs hu27 hP hD hK hS => ?_)
        have hP : va_P D classes [(sa, .inl (cS, 1024, .inl sp)), (wa, .inl (cW, 12, .inr (.inl u5))), (mo, .inr (6, [.int co, .int kd, .int sg, .int ex, .ref wa, .long hi, .long lo, .long lh, .long ll, .ref sa, .ref ma]))] H := hP
        have hD : va_D A [(sa, .inl (cS, 1024, .inl sp)), (wa, .inl (cW, 12, .inr (.inl u5))), (mo, .inr (6, [.int co, .int kd, .int sg, .int ex, .ref wa, .long hi, .long lo, .long lh, .long ll, .ref sa, .ref ma]))] := hD
        have hK : va_K D classes [(cS, .int), (cW, .long)] s := hK
        refine W.eq (g2 := F0 m 76 ls [.int u27, .ref mo]) rfl ?_
        refine lv_iconst (v := 1) hx hb d_PatternBookModel_openDecimal_76 (by decide) ?_
        refine lv_icmp_ne (tgt := 84) hx hb d_PatternBookModel_openDecimal_77 (by decide) (fun c_28 => ?_) (fun c_28 => ?_)
        · have hk := hk.2
          refine lv_iconst (v := 2) hx hb d_PatternBookModel_openDecimal_84 (by decide) ?_
          refine va_put (D := D) (ci := 6) (v := .int (2:Int32)) (ty := .int) (C := R_PatternBookModel) (T := F_PatternBookModel) (N := 11) hx hb hts i_PatternBookModel t_PatternBookModel t_PatternBookModel_ok n_PatternBookModel hown hK hP hD hS 2 rfl rfl 1 (by decide) (hts _ k_318) (fun _ h9 => h9) rfl (by decide +kernel) rfl rfl (Nat.le_of_ble_eq_true rfl) d_PatternBookModel_openDecimal_85 (fun H locs hP hD hS => ?_)
          have hP : va_P D classes [(sa, .inl (cS, 1024, .inl sp)), (wa, .inl (cW, 12, .inr (.inl u5))), (mo, .inr (6, [.int co, .int (2:Int32), .int sg, .int ex, .ref wa, .long hi, .long lo, .long lh, .long ll, .ref sa, .ref ma]))] H := hP
          have hD : va_D A [(sa, .inl (cS, 1024, .inl sp)), (wa, .inl (cW, 12, .inr (.inl u5))), (mo, .inr (6, [.int co, .int (2:Int32), .int sg, .int ex, .ref wa, .long hi, .long lo, .long lh, .long ll, .ref sa, .ref ma]))] := hD
          refine lv_iload hx hb d_PatternBookModel_openDecimal_88 (lv_at hl 0 rfl) ?_
          refine lv_if_eq (tgt := 101) hx hb d_PatternBookModel_openDecimal_90 (by decide) (fun c_29 => ?_) (fun c_29 => ?_)
          · refine lv_aload_n hx hb d_PatternBookModel_openDecimal_101 rfl (lv_at hl 5 rfl) ?_
            refine lv_iconst (v := 0) hx hb d_PatternBookModel_openDecimal_102 (by decide) ?_
            refine lv_iload_n hx hb d_PatternBookModel_openDecimal_103 rfl (lv_at hl 3 rfl) ?_
            refine lv_iload_n hx hb d_PatternBookModel_openDecimal_104 rfl (lv_at hl 6 rfl) ?_
            refine uCall (WR := [(sa, .inl (cS, 1024, .inl sp)), (wa, .inl (cW, 12, .inr (.inl u5))), (mo, .inr (6, [.int co, .int (2:Int32), .int sg, .int ex, .ref wa, .long hi, .long lo, .long lh, .long ll, .ref sa, .ref ma]))]) (RT := [(cS, .int), (cW, .long)]) (va_runS (As := [.int x]) (rest := [.int u2, .int (0:Int32), .ref mo]) ⟨hx, hb, hml, hown, hts⟩ (c_M_digitsOf l D H.size x) ⟨uCB 1 hts k_260 k_257 k_261 (by decide +kernel) rfl rfl ⟨Nat.le_of_ble_eq_true rfl, Nat.le_of_ble_eq_true rfl⟩, hts _ k_262⟩ (uPreS hK hP hD hN [] rfl (by decide) [] rfl) rfl rfl hl.1 rfl (lv_room (Nat.le_of_ble_eq_true rfl)) d_PatternBookModel_openDecimal_105 ⟨(Nat.le_of_ble_eq_true rfl), (Nat.le_of_ble_eq_true rfl)⟩) hK hP hD hS hA [] [0, 1, 2] rfl rfl (by decide) (by decide) [0, 1] rfl (fun u30 H locs hu30 hP hD hK hS => ?_)
            have hP : va_P D classes [(sa, .inl (cS, 1024, .inl sp)), (wa, .inl (cW, 12, .inr (.inl u5))), (mo, .inr (6, [.int co, .int (2:Int32), .int sg, .int ex, .ref wa, .long hi, .long lo, .long lh, .long ll, .ref sa, .ref ma]))] H := hP
            have hD : va_D A [(sa, .inl (cS, 1024, .inl sp)), (wa, .inl (cW, 12, .inr (.inl u5))), (mo, .inr (6, [.int co, .int (2:Int32), .int sg, .int ex, .ref wa, .long hi, .long lo, .long lh, .long ll, .ref sa, .ref ma]))] := hD
            have hK : va_K D classes [(cS, .int), (cW, .long)] s := hK
            refine W.eq (g2 := F0 m 108 ls [.int u30, .int u2, .int (0:Int32), .ref mo]) rfl ?_
            have hk := hk u30 hu30
            refine lv_iconst (v := 1) hx hb d_PatternBookModel_openDecimal_108 (by decide) ?_
            refine lv_isub hx hb d_PatternBookModel_openDecimal_109 ?_
            refine lv_iconst (v := 0) hx hb d_PatternBookModel_openDecimal_110 (by decide) ?_
            have ho31 := hk
            refine uCall (WR := [(sa, .inl (cS, 1024, .inl sp))]) (RT := [(cS, .int)]) (va_runV (As := [.int (0:Int32), .int u2, .int (u30 - (1:Int32)), .int (0:Int32)]) (rest := []) ⟨hx, hb, hml, hown, hts⟩ (c_M_takeAtMost l D mo wa sa ma cW H.size (0:Int32) u2 (u30 - (1:Int32)) (0:Int32) co (2:Int32) sg ex hi lo lh ll u5 ho31) ⟨uCB 4 hts k_319 k_257 k_320 (by decide +kernel) rfl rfl ⟨Nat.le_of_ble_eq_true rfl, Nat.le_of_ble_eq_true rfl⟩, hts _ k_321, hts _ k_322⟩ (uPreV (ci := 6) (q0 := 2) hK hP hD hN [2, 1] rfl (by decide) [1] rfl rfl rfl) rfl rfl hl.1 rfl (lv_room (Nat.le_of_ble_eq_true rfl)) d_PatternBookModel_openDecimal_111 ⟨(Nat.le_of_ble_eq_true rfl), (Nat.le_of_ble_eq_true rfl)⟩) hK hP hD hS hA [2, 1] [0] rfl rfl (by decide) (by decide) [0] rfl (fun u31 H locs hu31 hP hD hK hS => ?_)
            have hP : va_P D classes [(sa, .inl (cS, 1024, .inl sp)), (mo, .inr (6, [.int co, .int (2:Int32), .int sg, .int ex, .ref wa, .long hi, .long lo, .long lh, .long ll, .ref sa, .ref ma])), (wa, .inl (cW, 12, .inr (.inl u31)))] H := hP
            have hD : va_D A [(sa, .inl (cS, 1024, .inl sp)), (mo, .inr (6, [.int co, .int (2:Int32), .int sg, .int ex, .ref wa, .long hi, .long lo, .long lh, .long ll, .ref sa, .ref ma])), (wa, .inl (cW, 12, .inr (.inl u31)))] := hD
            have hK : va_K D classes [(cS, .int), (cW, .long)] s := hK
            refine W.eq (g2 := F0 m 114 ls []) rfl ?_
            refine W.vret hx hb hr ?_ hS.2.2 d_PatternBookModel_openDecimal_114
            exact uEnd ((2:Int32), ex, u31) (hP.sub [1, 2, 0] rfl) (hK.sub [1, 0] rfl) (hD.sub [1, 2, 0] (by decide) rfl) hS (by have eu1 := hu1.symm; subst eu1; have eu2 := hu2.symm; subst eu2; have eu3 := hu3.symm; subst eu3; have eu5 := hu5.symm; subst eu5; have eu27 := hu27.symm; subst eu27; have eu30 := hu30.symm; subst eu30; have eu31 := hu31.symm; subst eu31; exact ((if_pos c_4).trans ((if_neg c_6).trans ((if_pos c_7).trans ((if_neg c_28).trans (rfl))))).symm) rfl
          · exact absurd (by decide) c_29
        · have hk := hk.1
          refine lv_iconst (v := 3) hx hb d_PatternBookModel_openDecimal_80 (by decide) ?_
          refine lv_goto (tgt := 85) hx hb d_PatternBookModel_openDecimal_81 (by decide) ?_
          refine va_put (D := D) (ci := 6) (v := .int (3:Int32)) (ty := .int) (C := R_PatternBookModel) (T := F_PatternBookModel) (N := 11) hx hb hts i_PatternBookModel t_PatternBookModel t_PatternBookModel_ok n_PatternBookModel hown hK hP hD hS 2 rfl rfl 1 (by decide) (hts _ k_318) (fun _ h9 => h9) rfl (by decide +kernel) rfl rfl (Nat.le_of_ble_eq_true rfl) d_PatternBookModel_openDecimal_85 (fun H locs hP hD hS => ?_)
          have hP : va_P D classes [(sa, .inl (cS, 1024, .inl sp)), (wa, .inl (cW, 12, .inr (.inl u5))), (mo, .inr (6, [.int co, .int (3:Int32), .int sg, .int ex, .ref wa, .long hi, .long lo, .long lh, .long ll, .ref sa, .ref ma]))] H := hP
          have hD : va_D A [(sa, .inl (cS, 1024, .inl sp)), (wa, .inl (cW, 12, .inr (.inl u5))), (mo, .inr (6, [.int co, .int (3:Int32), .int sg, .int ex, .ref wa, .long hi, .long lo, .long lh, .long ll, .ref sa, .ref ma]))] := hD
          refine lv_iload hx hb d_PatternBookModel_openDecimal_88 (lv_at hl 0 rfl) ?_
          refine lv_if_eq (tgt := 101) hx hb d_PatternBookModel_openDecimal_90 (by decide) (fun c_32 => ?_) (fun c_32 => ?_)
          · refine lv_aload_n hx hb d_PatternBookModel_openDecimal_101 rfl (lv_at hl 5 rfl) ?_
            refine lv_iconst (v := 0) hx hb d_PatternBookModel_openDecimal_102 (by decide) ?_
            refine lv_iload_n hx hb d_PatternBookModel_openDecimal_103 rfl (lv_at hl 3 rfl) ?_
            refine lv_iload_n hx hb d_PatternBookModel_openDecimal_104 rfl (lv_at hl 6 rfl) ?_
            refine uCall (WR := [(sa, .inl (cS, 1024, .inl sp)), (wa, .inl (cW, 12, .inr (.inl u5))), (mo, .inr (6, [.int co, .int (3:Int32), .int sg, .int ex, .ref wa, .long hi, .long lo, .long lh, .long ll, .ref sa, .ref ma]))]) (RT := [(cS, .int), (cW, .long)]) (va_runS (As := [.int x]) (rest := [.int u2, .int (0:Int32), .ref mo]) ⟨hx, hb, hml, hown, hts⟩ (c_M_digitsOf l D H.size x) ⟨uCB 1 hts k_260 k_257 k_261 (by decide +kernel) rfl rfl ⟨Nat.le_of_ble_eq_true rfl, Nat.le_of_ble_eq_true rfl⟩, hts _ k_262⟩ (uPreS hK hP hD hN [] rfl (by decide) [] rfl) rfl rfl hl.1 rfl (lv_room (Nat.le_of_ble_eq_true rfl)) d_PatternBookModel_openDecimal_105 ⟨(Nat.le_of_ble_eq_true rfl), (Nat.le_of_ble_eq_true rfl)⟩) hK hP hD hS hA [] [0, 1, 2] rfl rfl (by decide) (by decide) [0, 1] rfl (fun u33 H locs hu33 hP hD hK hS => ?_)
            have hP : va_P D classes [(sa, .inl (cS, 1024, .inl sp)), (wa, .inl (cW, 12, .inr (.inl u5))), (mo, .inr (6, [.int co, .int (3:Int32), .int sg, .int ex, .ref wa, .long hi, .long lo, .long lh, .long ll, .ref sa, .ref ma]))] H := hP
            have hD : va_D A [(sa, .inl (cS, 1024, .inl sp)), (wa, .inl (cW, 12, .inr (.inl u5))), (mo, .inr (6, [.int co, .int (3:Int32), .int sg, .int ex, .ref wa, .long hi, .long lo, .long lh, .long ll, .ref sa, .ref ma]))] := hD
            have hK : va_K D classes [(cS, .int), (cW, .long)] s := hK
            refine W.eq (g2 := F0 m 108 ls [.int u33, .int u2, .int (0:Int32), .ref mo]) rfl ?_
            have hk := hk u33 hu33
            refine lv_iconst (v := 1) hx hb d_PatternBookModel_openDecimal_108 (by decide) ?_
            refine lv_isub hx hb d_PatternBookModel_openDecimal_109 ?_
            refine lv_iconst (v := 0) hx hb d_PatternBookModel_openDecimal_110 (by decide) ?_
            have ho34 := hk
            refine uCall (WR := [(sa, .inl (cS, 1024, .inl sp))]) (RT := [(cS, .int)]) (va_runV (As := [.int (0:Int32), .int u2, .int (u33 - (1:Int32)), .int (0:Int32)]) (rest := []) ⟨hx, hb, hml, hown, hts⟩ (c_M_takeAtMost l D mo wa sa ma cW H.size (0:Int32) u2 (u33 - (1:Int32)) (0:Int32) co (3:Int32) sg ex hi lo lh ll u5 ho34) ⟨uCB 4 hts k_319 k_257 k_320 (by decide +kernel) rfl rfl ⟨Nat.le_of_ble_eq_true rfl, Nat.le_of_ble_eq_true rfl⟩, hts _ k_321, hts _ k_322⟩ (uPreV (ci := 6) (q0 := 2) hK hP hD hN [2, 1] rfl (by decide) [1] rfl rfl rfl) rfl rfl hl.1 rfl (lv_room (Nat.le_of_ble_eq_true rfl)) d_PatternBookModel_openDecimal_111 ⟨(Nat.le_of_ble_eq_true rfl), (Nat.le_of_ble_eq_true rfl)⟩) hK hP hD hS hA [2, 1] [0] rfl rfl (by decide) (by decide) [0] rfl (fun u34 H locs hu34 hP hD hK hS => ?_)
            have hP : va_P D classes [(sa, .inl (cS, 1024, .inl sp)), (mo, .inr (6, [.int co, .int (3:Int32), .int sg, .int ex, .ref wa, .long hi, .long lo, .long lh, .long ll, .ref sa, .ref ma])), (wa, .inl (cW, 12, .inr (.inl u34)))] H := hP
            have hD : va_D A [(sa, .inl (cS, 1024, .inl sp)), (mo, .inr (6, [.int co, .int (3:Int32), .int sg, .int ex, .ref wa, .long hi, .long lo, .long lh, .long ll, .ref sa, .ref ma])), (wa, .inl (cW, 12, .inr (.inl u34)))] := hD
            have hK : va_K D classes [(cS, .int), (cW, .long)] s := hK
            refine W.eq (g2 := F0 m 114 ls []) rfl ?_
            refine W.vret hx hb hr ?_ hS.2.2 d_PatternBookModel_openDecimal_114
            exact uEnd ((3:Int32), ex, u34) (hP.sub [1, 2, 0] rfl) (hK.sub [1, 0] rfl) (hD.sub [1, 2, 0] (by decide) rfl) hS (by have eu1 := hu1.symm; subst eu1; have eu2 := hu2.symm; subst eu2; have eu3 := hu3.symm; subst eu3; have eu5 := hu5.symm; subst eu5; have eu27 := hu27.symm; subst eu27; have eu33 := hu33.symm; subst eu33; have eu34 := hu34.symm; subst eu34; exact ((if_pos c_4).trans ((if_neg c_6).trans ((if_pos c_7).trans ((if_pos c_28).trans (rfl))))).symm) rfl
          · exact absurd (by decide) c_32
    · refine lv_aload_n hx hb d_PatternBookModel_openDecimal_54 rfl (lv_at hl 5 rfl) ?_
      refine lv_iconst (v := 1) hx hb d_PatternBookModel_openDecimal_55 (by decide) ?_
      refine va_put (D := D) (ci := 6) (v := .int (1:Int32)) (ty := .int) (C := R_PatternBookModel) (T := F_PatternBookModel) (N := 11) hx hb hts i_PatternBookModel t_PatternBookModel t_PatternBookModel_ok n_PatternBookModel hown hK hP hD hS 1 rfl rfl 1 (by decide) (hts _ k_318) (fun _ h9 => h9) rfl (by decide +kernel) rfl rfl (Nat.le_of_ble_eq_true rfl) d_PatternBookModel_openDecimal_56 (fun H locs hP hD hS => ?_)
      have hP : va_P D classes [(sa, .inl (cS, 1024, .inl sp)), (mo, .inr (6, [.int co, .int (1:Int32), .int sg, .int ex, .ref wa, .long hi, .long lo, .long lh, .long ll, .ref sa, .ref ma])), (wa, .inl (cW, 12, .inr (.inl u5)))] H := hP
      have hD : va_D A [(sa, .inl (cS, 1024, .inl sp)), (mo, .inr (6, [.int co, .int (1:Int32), .int sg, .int ex, .ref wa, .long hi, .long lo, .long lh, .long ll, .ref sa, .ref ma])), (wa, .inl (cW, 12, .inr (.inl u5)))] := hD
      refine W.vret hx hb hr ?_ hS.2.2 d_PatternBookModel_openDecimal_59
      exact uEnd ((1:Int32), ex, u5) (hP.sub [1, 2, 0] rfl) (hK.sub [1, 0] rfl) (hD.sub [1, 2, 0] (by decide) rfl) hS (by have eu1 := hu1.symm; subst eu1; have eu2 := hu2.symm; subst eu2; have eu3 := hu3.symm; subst eu3; have eu5 := hu5.symm; subst eu5; exact ((if_pos c_4).trans ((if_pos c_6).trans (rfl))).symm) rfl
  · have hk := hk.2 c_4
    refine lv_iconst (v := 1) hx hb d_PatternBookModel_openDecimal_34 (by decide) ?_
    refine lv_goto (tgt := 39) hx hb d_PatternBookModel_openDecimal_35 (by decide) ?_
    refine lv_istore (lv' := [(6, .int (1:Int32)), (5, .int u3), (4, .int ((u1 - (1:Int32)) - u2)), (3, .int u2), (2, .int u1), (0, .ref mo), (1, .int x)]) hx hb d_PatternBookModel_openDecimal_39 hl (by decide) rfl (fun ls hl => ?_)
    refine lv_aload_n hx hb d_PatternBookModel_openDecimal_41 rfl (lv_at hl 5 rfl) ?_
    refine lv_iconst (v := 0) hx hb d_PatternBookModel_openDecimal_42 (by decide) ?_
    refine lv_lconst (v := 0) hx hb d_PatternBookModel_openDecimal_43 (by decide) ?_
    refine uCall (WR := [(sa, .inl (cS, 1024, .inl sp))]) (RT := [(cS, .int)]) (va_runV (As := [.int (0:Int32), .long (0:Int64)]) (rest := []) ⟨hx, hb, hml, hown, hts⟩ (c_M_be0 l D mo wa sa ma cW H.size (0:Int64) co kd sg ex hi lo lh ll w) ⟨uCB 2 hts k_265 k_257 k_266 (by decide +kernel) rfl rfl ⟨Nat.le_of_ble_eq_true rfl, Nat.le_of_ble_eq_true rfl⟩, hts _ k_267, hts _ k_268⟩ (uPreV (ci := 6) (q0 := 2) hK hP hD hN [2, 0] rfl (by decide) [0] rfl rfl rfl) rfl rfl hl.1 rfl (lv_room (Nat.le_of_ble_eq_true rfl)) d_PatternBookModel_openDecimal_44 ⟨(Nat.le_of_ble_eq_true rfl), (Nat.le_of_ble_eq_true rfl)⟩) hK hP hD hS hA [2, 0] [1] rfl rfl (by decide) (by decide) [1] rfl (fun u35 H locs hu35 hP hD hK hS => ?_)
    have hP : va_P D classes [(sa, .inl (cS, 1024, .inl sp)), (mo, .inr (6, [.int co, .int kd, .int sg, .int ex, .ref wa, .long hi, .long lo, .long lh, .long ll, .ref sa, .ref ma])), (wa, .inl (cW, 12, .inr (.inl u35)))] H := hP
    have hD : va_D A [(sa, .inl (cS, 1024, .inl sp)), (mo, .inr (6, [.int co, .int kd, .int sg, .int ex, .ref wa, .long hi, .long lo, .long lh, .long ll, .ref sa, .ref ma])), (wa, .inl (cW, 12, .inr (.inl u35)))] := hD
    have hK : va_K D classes [(cS, .int), (cW, .long)] s := hK
    refine W.eq (g2 := F0 m 47 ls []) rfl ?_
    refine lv_iload hx hb d_PatternBookModel_openDecimal_47 (lv_at hl 1 rfl) ?_
    refine lv_bipush (v := 30) hx hb d_PatternBookModel_openDecimal_49 (by decide) ?_
    refine lv_icmp_ne (tgt := 60) hx hb d_PatternBookModel_openDecimal_51 (by decide) (fun c_36 => ?_) (fun c_36 => ?_)
    · refine lv_iload hx hb d_PatternBookModel_openDecimal_60 (lv_at hl 1 rfl) ?_
      refine lv_bipush (v := 31) hx hb d_PatternBookModel_openDecimal_62 (by decide) ?_
      refine lv_icmp_ne (tgt := 115) hx hb d_PatternBookModel_openDecimal_64 (by decide) (fun c_37 => ?_) (fun c_37 => ?_)
      · have hk := hk.2
        refine lv_iload hx hb d_PatternBookModel_openDecimal_115 (lv_at hl 1 rfl) ?_
        refine lv_bipush (v := 24) hx hb d_PatternBookModel_openDecimal_117 (by decide) ?_
        refine lv_icmp_ge (tgt := 126) hx hb d_PatternBookModel_openDecimal_119 (by decide) (fun c_38 => ?_) (fun c_38 => ?_)
        · refine lv_iconst (v := 0) hx hb d_PatternBookModel_openDecimal_126 (by decide) ?_
          refine lv_istore (lv' := [(7, .int (0:Int32)), (6, .int (1:Int32)), (5, .int u3), (4, .int ((u1 - (1:Int32)) - u2)), (3, .int u2), (2, .int u1), (0, .ref mo), (1, .int x)]) hx hb d_PatternBookModel_openDecimal_127 hl (by decide) rfl (fun ls hl => ?_)
          refine lv_iload hx hb d_PatternBookModel_openDecimal_129 (lv_at hl 1 rfl) ?_
          refine lv_if_eq (tgt := 211) hx hb d_PatternBookModel_openDecimal_131 (by decide) (fun c_39 => ?_) (fun c_39 => ?_)
          · exact absurd c_39 (by decide)
          · refine lv_iload hx hb d_PatternBookModel_openDecimal_134 (lv_at hl 0 rfl) ?_
            refine lv_if_eq (tgt := 147) hx hb d_PatternBookModel_openDecimal_136 (by decide) (fun c_40 => ?_) (fun c_40 => ?_)
            · refine lv_iload hx hb d_PatternBookModel_openDecimal_147 (lv_at hl 2 rfl) ?_
              refine lv_iconst (v := 2) hx hb d_PatternBookModel_openDecimal_149 (by decide) ?_
              refine lv_idiv hx hb d_PatternBookModel_openDecimal_150 (by decide) ?_
              refine lv_iconst (v := 4) hx hb d_PatternBookModel_openDecimal_151 (by decide) ?_
              refine lv_irem hx hb d_PatternBookModel_openDecimal_152 (by decide) ?_
              refine lv_istore (lv' := [(9, .int ((u3 / (2:Int32)) - (u3 / (2:Int32)) / (4:Int32) * (4:Int32))), (7, .int (0:Int32)), (6, .int (1:Int32)), (5, .int u3), (4, .int ((u1 - (1:Int32)) - u2)), (3, .int u2), (2, .int u1), (0, .ref mo), (1, .int x)]) hx hb d_PatternBookModel_openDecimal_153 hl (by decide) rfl (fun ls hl => ?_)
              refine lv_iload hx hb d_PatternBookModel_openDecimal_155 (lv_at hl 0 rfl) ?_
              refine lv_iconst (v := 1) hx hb d_PatternBookModel_openDecimal_157 (by decide) ?_
              refine lv_iload hx hb d_PatternBookModel_openDecimal_158 (lv_at hl 4 rfl) ?_
              refine lv_iconst (v := 5) hx hb d_PatternBookModel_openDecimal_160 (by decide) ?_
              refine lv_isub hx hb d_PatternBookModel_openDecimal_161 ?_
              refine lv_ishl hx hb d_PatternBookModel_openDecimal_162 ?_
              refine lv_imul hx hb d_PatternBookModel_openDecimal_163 ?_
              refine lv_aload_n hx hb d_PatternBookModel_openDecimal_164 rfl (lv_at hl 7 rfl) ?_
              refine lv_iload_n hx hb d_PatternBookModel_openDecimal_165 rfl (lv_at hl 5 rfl) ?_
              refine lv_iload hx hb d_PatternBookModel_openDecimal_166 (lv_at hl 4 rfl) ?_
              refine lv_iconst (v := 5) hx hb d_PatternBookModel_openDecimal_168 (by decide) ?_
              refine lv_isub hx hb d_PatternBookModel_openDecimal_169 ?_
              have ho41 := hk.1
              have hk := hk.2
              refine uCall (WR := [(sa, .inl (cS, 1024, .inl sp)), (wa, .inl (cW, 12, .inr (.inl u35)))]) (RT := [(cS, .int), (cW, .long)]) (va_runV (As := [.int u2, .int (((u1 - (1:Int32)) - u2) - (5:Int32))]) (rest := [.int (((u3 / (2:Int32)) - (u3 / (2:Int32)) / (4:Int32) * (4:Int32)) * ((1:Int32) <<< ((((u1 - (1:Int32)) - u2) - (5:Int32)) &&& 31)))]) ⟨hx, hb, hml, hown, hts⟩ (c_M_field l D mo wa sa ma H.size u2 (((u1 - (1:Int32)) - u2) - (5:Int32)) co kd sg ex hi lo lh ll ho41) ⟨uCB 2 hts k_306 k_257 k_307 (by decide +kernel) rfl rfl ⟨Nat.le_of_ble_eq_true rfl, Nat.le_of_ble_eq_true rfl⟩, hts _ k_308, hts _ k_309⟩ (uPreV (ci := 6) (q0 := 1) hK hP hD hN [1] rfl (by decide) [] rfl rfl rfl) rfl rfl hl.1 rfl (lv_room (Nat.le_of_ble_eq_true rfl)) d_PatternBookModel_openDecimal_170 ⟨(Nat.le_of_ble_eq_true rfl), (Nat.le_of_ble_eq_true rfl)⟩) hK hP hD hS hA [1] [0, 2] rfl rfl (by decide) (by decide) [0, 1] rfl (fun u41 H locs hu41 hP hD hK hS => ?_)
              have hP : va_P D classes [(sa, .inl (cS, 1024, .inl sp)), (wa, .inl (cW, 12, .inr (.inl u35))), (mo, .inr (6, [.int co, .int kd, .int sg, .int ex, .ref wa, .long hi, .long lo, .long lh, .long ll, .ref sa, .ref ma]))] H := hP
              have hD : va_D A [(sa, .inl (cS, 1024, .inl sp)), (wa, .inl (cW, 12, .inr (.inl u35))), (mo, .inr (6, [.int co, .int kd, .int sg, .int ex, .ref wa, .long hi, .long lo, .long lh, .long ll, .ref sa, .ref ma]))] := hD
              have hK : va_K D classes [(cS, .int), (cW, .long)] s := hK
              refine W.eq (g2 := F0 m 173 ls [.int u41, .int (((u3 / (2:Int32)) - (u3 / (2:Int32)) / (4:Int32) * (4:Int32)) * ((1:Int32) <<< ((((u1 - (1:Int32)) - u2) - (5:Int32)) &&& 31)))]) rfl ?_
              refine lv_iadd hx hb d_PatternBookModel_openDecimal_173 ?_
              refine lv_topi (fun z42 hz42 => ?_)
              refine lv_istore (lv' := [(8, .int z42), (9, .int ((u3 / (2:Int32)) - (u3 / (2:Int32)) / (4:Int32) * (4:Int32))), (7, .int (0:Int32)), (6, .int (1:Int32)), (5, .int u3), (4, .int ((u1 - (1:Int32)) - u2)), (3, .int u2), (2, .int u1), (0, .ref mo), (1, .int x)]) hx hb d_PatternBookModel_openDecimal_174 hl (by decide) rfl (fun ls hl => ?_)
              refine lv_aload_n hx hb d_PatternBookModel_openDecimal_176 rfl (lv_at hl 8 rfl) ?_
              refine lv_iconst (v := 0) hx hb d_PatternBookModel_openDecimal_177 (by decide) ?_
              refine lv_iload hx hb d_PatternBookModel_openDecimal_178 (lv_at hl 2 rfl) ?_
              refine lv_if_eq (tgt := 192) hx hb d_PatternBookModel_openDecimal_180 (by decide) (fun c_43 => ?_) (fun c_43 => ?_)
              · refine lv_bipush (v := 8) hx hb d_PatternBookModel_openDecimal_192 (by decide) ?_
                refine lv_iload hx hb d_PatternBookModel_openDecimal_194 (lv_at hl 4 rfl) ?_
                refine lv_iconst (v := 2) hx hb d_PatternBookModel_openDecimal_196 (by decide) ?_
                refine lv_irem hx hb d_PatternBookModel_openDecimal_197 (by decide) ?_
                refine lv_iadd hx hb d_PatternBookModel_openDecimal_198 ?_
                refine lv_i2l hx hb d_PatternBookModel_openDecimal_199 rfl ?_
                refine uCall (WR := [(sa, .inl (cS, 1024, .inl sp))]) (RT := [(cS, .int)]) (va_runV (As := [.int (0:Int32), .long (Int32.toInt64 ((8:Int32) + (u3 - u3 / (2:Int32) * (2:Int32))))]) (rest := []) ⟨hx, hb, hml, hown, hts⟩ (c_M_be0 l D mo wa sa ma cW H.size (Int32.toInt64 ((8:Int32) + (u3 - u3 / (2:Int32) * (2:Int32)))) co kd sg ex hi lo lh ll u35) ⟨uCB 2 hts k_265 k_257 k_266 (by decide +kernel) rfl rfl ⟨Nat.le_of_ble_eq_true rfl, Nat.le_of_ble_eq_true rfl⟩, hts _ k_267, hts _ k_268⟩ (uPreV (ci := 6) (q0 := 2) hK hP hD hN [2, 1] rfl (by decide) [1] rfl rfl rfl) rfl rfl hl.1 rfl (lv_room (Nat.le_of_ble_eq_true rfl)) d_PatternBookModel_openDecimal_200 ⟨(Nat.le_of_ble_eq_true rfl), (Nat.le_of_ble_eq_true rfl)⟩) hK hP hD hS hA [2, 1] [0] rfl rfl (by decide) (by decide) [0] rfl (fun u44 H locs hu44 hP hD hK hS => ?_)
                have hP : va_P D classes [(sa, .inl (cS, 1024, .inl sp)), (mo, .inr (6, [.int co, .int kd, .int sg, .int ex, .ref wa, .long hi, .long lo, .long lh, .long ll, .ref sa, .ref ma])), (wa, .inl (cW, 12, .inr (.inl u44)))] H := hP
                have hD : va_D A [(sa, .inl (cS, 1024, .inl sp)), (mo, .inr (6, [.int co, .int kd, .int sg, .int ex, .ref wa, .long hi, .long lo, .long lh, .long ll, .ref sa, .ref ma])), (wa, .inl (cW, 12, .inr (.inl u44)))] := hD
                have hK : va_K D classes [(cS, .int), (cW, .long)] s := hK
                refine W.eq (g2 := F0 m 203 ls []) rfl ?_
                refine lv_aload_n hx hb d_PatternBookModel_openDecimal_203 rfl (lv_at hl 8 rfl) ?_
                refine lv_iload_n hx hb d_PatternBookModel_openDecimal_204 rfl (lv_at hl 9 rfl) ?_
                have ho45 := hk
                refine uCall (WR := []) (RT := []) (va_runV (As := [.int x]) (rest := []) ⟨hx, hb, hml, hown, hts⟩ (c_M_takeDigits l D mo wa sa ma cW cS H.size x co kd sg ex hi lo lh ll u44 sp ho45) ⟨uCB 1 hts k_323 k_257 k_324 (by decide +kernel) rfl rfl ⟨Nat.le_of_ble_eq_true rfl, Nat.le_of_ble_eq_true rfl⟩, hts _ k_325, hts _ k_326⟩ (uPreV (ci := 6) (q0 := 1) hK hP hD hN [1, 2, 0] rfl (by decide) [1, 0] rfl rfl rfl) rfl rfl hl.1 rfl (lv_room (Nat.le_of_ble_eq_true rfl)) d_PatternBookModel_openDecimal_205 ⟨(Nat.le_of_ble_eq_true rfl), (Nat.le_of_ble_eq_true rfl)⟩) hK hP hD hS hA [1, 2, 0] [] rfl rfl (by decide) (by decide) [] rfl (fun u45 H locs hu45 hP hD hK hS => ?_)
                have hP : va_P D classes [(mo, .inr (6, [.int co, .int kd, .int sg, .int ex, .ref wa, .long hi, .long lo, .long lh, .long ll, .ref sa, .ref ma])), (wa, .inl (cW, 12, .inr (.inl u45))), (sa, .inl (cS, 1024, .inl sp))] H := hP
                have hD : va_D A [(mo, .inr (6, [.int co, .int kd, .int sg, .int ex, .ref wa, .long hi, .long lo, .long lh, .long ll, .ref sa, .ref ma])), (wa, .inl (cW, 12, .inr (.inl u45))), (sa, .inl (cS, 1024, .inl sp))] := hD
                have hK : va_K D classes [(cW, .long), (cS, .int)] s := hK
                refine W.eq (g2 := F0 m 208 ls []) rfl ?_
                refine lv_goto (tgt := 279) hx hb d_PatternBookModel_openDecimal_208 (by decide) ?_
                refine lv_aload_n hx hb d_PatternBookModel_openDecimal_279 rfl (lv_at hl 8 rfl) ?_
                refine lv_iload hx hb d_PatternBookModel_openDecimal_280 (lv_at hl 0 rfl) ?_
                refine lv_iload_n hx hb d_PatternBookModel_openDecimal_282 rfl (lv_at hl 9 rfl) ?_
                refine uCall (WR := [(mo, .inr (6, [.int co, .int kd, .int sg, .int ex, .ref wa, .long hi, .long lo, .long lh, .long ll, .ref sa, .ref ma])), (wa, .inl (cW, 12, .inr (.inl u45))), (sa, .inl (cS, 1024, .inl sp))]) (RT := [(cW, .long), (cS, .int)]) (va_runS (As := [.int x]) (rest := [.int z42, .ref mo]) ⟨hx, hb, hml, hown, hts⟩ (c_M_least l D H.size x) ⟨uCB 1 hts k_310 k_257 k_311 (by decide +kernel) rfl rfl ⟨Nat.le_of_ble_eq_true rfl, Nat.le_of_ble_eq_true rfl⟩, hts _ k_312⟩ (uPreS hK hP hD hN [] rfl (by decide) [] rfl) rfl rfl hl.1 rfl (lv_room (Nat.le_of_ble_eq_true rfl)) d_PatternBookModel_openDecimal_283 ⟨(Nat.le_of_ble_eq_true rfl), (Nat.le_of_ble_eq_true rfl)⟩) hK hP hD hS hA [] [0, 1, 2] rfl rfl (by decide) (by decide) [0, 1] rfl (fun u46 H locs hu46 hP hD hK hS => ?_)
                have hP : va_P D classes [(mo, .inr (6, [.int co, .int kd, .int sg, .int ex, .ref wa, .long hi, .long lo, .long lh, .long ll, .ref sa, .ref ma])), (wa, .inl (cW, 12, .inr (.inl u45))), (sa, .inl (cS, 1024, .inl sp))] H := hP
                have hD : va_D A [(mo, .inr (6, [.int co, .int kd, .int sg, .int ex, .ref wa, .long hi, .long lo, .long lh, .long ll, .ref sa, .ref ma])), (wa, .inl (cW, 12, .inr (.inl u45))), (sa, .inl (cS, 1024, .inl sp))] := hD
                have hK : va_K D classes [(cW, .long), (cS, .int)] s := hK
                refine W.eq (g2 := F0 m 286 ls [.int u46, .int z42, .ref mo]) rfl ?_
                refine lv_iadd hx hb d_PatternBookModel_openDecimal_286 ?_
                refine va_put (D := D) (ci := 6) (v := .int (z42 + u46)) (ty := .int) (C := R_PatternBookModel) (T := F_PatternBookModel) (N := 11) hx hb hts i_PatternBookModel t_PatternBookModel t_PatternBookModel_ok n_PatternBookModel hown hK hP hD hS 0 rfl rfl 3 (by decide) (hts _ k_313) (fun _ h9 => h9) rfl (by decide +kernel) rfl rfl (Nat.le_of_ble_eq_true rfl) d_PatternBookModel_openDecimal_287 (fun H locs hP hD hS => ?_)
                have hP : va_P D classes [(mo, .inr (6, [.int co, .int kd, .int sg, .int (z42 + u46), .ref wa, .long hi, .long lo, .long lh, .long ll, .ref sa, .ref ma])), (wa, .inl (cW, 12, .inr (.inl u45))), (sa, .inl (cS, 1024, .inl sp))] H := hP
                have hD : va_D A [(mo, .inr (6, [.int co, .int kd, .int sg, .int (z42 + u46), .ref wa, .long hi, .long lo, .long lh, .long ll, .ref sa, .ref ma])), (wa, .inl (cW, 12, .inr (.inl u45))), (sa, .inl (cS, 1024, .inl sp))] := hD
                refine W.vret hx hb hr ?_ hS.2.2 d_PatternBookModel_openDecimal_290
                exact uEnd (kd, (z42 + u46), u45) (hP.sub [0, 1, 2] rfl) (hK.sub [0, 1] rfl) (hD.sub [0, 1, 2] (by decide) rfl) hS (by have eu1 := hu1.symm; subst eu1; have eu2 := hu2.symm; subst eu2; have eu3 := hu3.symm; subst eu3; have eu35 := hu35.symm; subst eu35; have eu41 := hu41.symm; subst eu41; have ez42 := hz42.symm; subst ez42; have eu44 := hu44.symm; subst eu44; have eu45 := hu45.symm; subst eu45; have eu46 := hu46.symm; subst eu46; exact ((if_neg c_4).trans ((if_neg c_36).trans ((if_neg c_37).trans ((if_pos c_38).trans (rfl))))).symm) rfl
              · exact absurd (by decide) c_43
            · exact absurd (by decide) c_40
        · refine lv_iconst (v := 1) hx hb d_PatternBookModel_openDecimal_122 (by decide) ?_
          refine lv_goto (tgt := 127) hx hb d_PatternBookModel_openDecimal_123 (by decide) ?_
          refine lv_istore (lv' := [(7, .int (1:Int32)), (6, .int (1:Int32)), (5, .int u3), (4, .int ((u1 - (1:Int32)) - u2)), (3, .int u2), (2, .int u1), (0, .ref mo), (1, .int x)]) hx hb d_PatternBookModel_openDecimal_127 hl (by decide) rfl (fun ls hl => ?_)
          refine lv_iload hx hb d_PatternBookModel_openDecimal_129 (lv_at hl 1 rfl) ?_
          refine lv_if_eq (tgt := 211) hx hb d_PatternBookModel_openDecimal_131 (by decide) (fun c_47 => ?_) (fun c_47 => ?_)
          · exact absurd c_47 (by decide)
          · refine lv_iload hx hb d_PatternBookModel_openDecimal_134 (lv_at hl 0 rfl) ?_
            refine lv_if_eq (tgt := 147) hx hb d_PatternBookModel_openDecimal_136 (by decide) (fun c_48 => ?_) (fun c_48 => ?_)
            · exact absurd c_48 (by decide)
            · refine lv_iload hx hb d_PatternBookModel_openDecimal_139 (lv_at hl 2 rfl) ?_
              refine lv_bipush (v := 8) hx hb d_PatternBookModel_openDecimal_141 (by decide) ?_
              refine lv_idiv hx hb d_PatternBookModel_openDecimal_143 (by decide) ?_
              refine lv_goto (tgt := 153) hx hb d_PatternBookModel_openDecimal_144 (by decide) ?_
              refine lv_istore (lv' := [(9, .int (u3 / (8:Int32))), (7, .int (1:Int32)), (6, .int (1:Int32)), (5, .int u3), (4, .int ((u1 - (1:Int32)) - u2)), (3, .int u2), (2, .int u1), (0, .ref mo), (1, .int x)]) hx hb d_PatternBookModel_openDecimal_153 hl (by decide) rfl (fun ls hl => ?_)
              refine lv_iload hx hb d_PatternBookModel_openDecimal_155 (lv_at hl 0 rfl) ?_
              refine lv_iconst (v := 1) hx hb d_PatternBookModel_openDecimal_157 (by decide) ?_
              refine lv_iload hx hb d_PatternBookModel_openDecimal_158 (lv_at hl 4 rfl) ?_
              refine lv_iconst (v := 5) hx hb d_PatternBookModel_openDecimal_160 (by decide) ?_
              refine lv_isub hx hb d_PatternBookModel_openDecimal_161 ?_
              refine lv_ishl hx hb d_PatternBookModel_openDecimal_162 ?_
              refine lv_imul hx hb d_PatternBookModel_openDecimal_163 ?_
              refine lv_aload_n hx hb d_PatternBookModel_openDecimal_164 rfl (lv_at hl 7 rfl) ?_
              refine lv_iload_n hx hb d_PatternBookModel_openDecimal_165 rfl (lv_at hl 5 rfl) ?_
              refine lv_iload hx hb d_PatternBookModel_openDecimal_166 (lv_at hl 4 rfl) ?_
              refine lv_iconst (v := 5) hx hb d_PatternBookModel_openDecimal_168 (by decide) ?_
              refine lv_isub hx hb d_PatternBookModel_openDecimal_169 ?_
              have ho49 := hk.1
              have hk := hk.2
              refine uCall (WR := [(sa, .inl (cS, 1024, .inl sp)), (wa, .inl (cW, 12, .inr (.inl u35)))]) (RT := [(cS, .int), (cW, .long)]) (va_runV (As := [.int u2, .int (((u1 - (1:Int32)) - u2) - (5:Int32))]) (rest := [.int ((u3 / (8:Int32)) * ((1:Int32) <<< ((((u1 - (1:Int32)) - u2) - (5:Int32)) &&& 31)))]) ⟨hx, hb, hml, hown, hts⟩ (c_M_field l D mo wa sa ma H.size u2 (((u1 - (1:Int32)) - u2) - (5:Int32)) co kd sg ex hi lo lh ll ho49) ⟨uCB 2 hts k_306 k_257 k_307 (by decide +kernel) rfl rfl ⟨Nat.le_of_ble_eq_true rfl, Nat.le_of_ble_eq_true rfl⟩, hts _ k_308, hts _ k_309⟩ (uPreV (ci := 6) (q0 := 1) hK hP hD hN [1] rfl (by decide) [] rfl rfl rfl) rfl rfl hl.1 rfl (lv_room (Nat.le_of_ble_eq_true rfl)) d_PatternBookModel_openDecimal_170 ⟨(Nat.le_of_ble_eq_true rfl), (Nat.le_of_ble_eq_true rfl)⟩) hK hP hD hS hA [1] [0, 2] rfl rfl (by decide) (by decide) [0, 1] rfl (fun u49 H locs hu49 hP hD hK hS => ?_)
              have hP : va_P D classes [(sa, .inl (cS, 1024, .inl sp)), (wa, .inl (cW, 12, .inr (.inl u35))), (mo, .inr (6, [.int co, .int kd, .int sg, .int ex, .ref wa, .long hi, .long lo, .long lh, .long ll, .ref sa, .ref ma]))] H := hP
              have hD : va_D A [(sa, .inl (cS, 1024, .inl sp)), (wa, .inl (cW, 12, .inr (.inl u35))), (mo, .inr (6, [.int co, .int kd, .int sg, .int ex, .ref wa, .long hi, .long lo, .long lh, .long ll, .ref sa, .ref ma]))] := hD
              have hK : va_K D classes [(cS, .int), (cW, .long)] s := hK
              refine W.eq (g2 := F0 m 173 ls [.int u49, .int ((u3 / (8:Int32)) * ((1:Int32) <<< ((((u1 - (1:Int32)) - u2) - (5:Int32)) &&& 31)))]) rfl ?_
              refine lv_iadd hx hb d_PatternBookModel_openDecimal_173 ?_
              refine lv_topi (fun z50 hz50 => ?_)
              refine lv_istore (lv' := [(8, .int z50), (9, .int (u3 / (8:Int32))), (7, .int (1:Int32)), (6, .int (1:Int32)), (5, .int u3), (4, .int ((u1 - (1:Int32)) - u2)), (3, .int u2), (2, .int u1), (0, .ref mo), (1, .int x)]) hx hb d_PatternBookModel_openDecimal_174 hl (by decide) rfl (fun ls hl => ?_)
              refine lv_aload_n hx hb d_PatternBookModel_openDecimal_176 rfl (lv_at hl 8 rfl) ?_
              refine lv_iconst (v := 0) hx hb d_PatternBookModel_openDecimal_177 (by decide) ?_
              refine lv_iload hx hb d_PatternBookModel_openDecimal_178 (lv_at hl 2 rfl) ?_
              refine lv_if_eq (tgt := 192) hx hb d_PatternBookModel_openDecimal_180 (by decide) (fun c_51 => ?_) (fun c_51 => ?_)
              · exact absurd c_51 (by decide)
              · refine lv_iload hx hb d_PatternBookModel_openDecimal_183 (lv_at hl 4 rfl) ?_
                refine lv_bipush (v := 8) hx hb d_PatternBookModel_openDecimal_185 (by decide) ?_
                refine lv_irem hx hb d_PatternBookModel_openDecimal_187 (by decide) ?_
                refine lv_i2l hx hb d_PatternBookModel_openDecimal_188 rfl ?_
                refine lv_goto (tgt := 200) hx hb d_PatternBookModel_openDecimal_189 (by decide) ?_
                refine uCall (WR := [(sa, .inl (cS, 1024, .inl sp))]) (RT := [(cS, .int)]) (va_runV (As := [.int (0:Int32), .long (Int32.toInt64 (u3 - u3 / (8:Int32) * (8:Int32)))]) (rest := []) ⟨hx, hb, hml, hown, hts⟩ (c_M_be0 l D mo wa sa ma cW H.size (Int32.toInt64 (u3 - u3 / (8:Int32) * (8:Int32))) co kd sg ex hi lo lh ll u35) ⟨uCB 2 hts k_265 k_257 k_266 (by decide +kernel) rfl rfl ⟨Nat.le_of_ble_eq_true rfl, Nat.le_of_ble_eq_true rfl⟩, hts _ k_267, hts _ k_268⟩ (uPreV (ci := 6) (q0 := 2) hK hP hD hN [2, 1] rfl (by decide) [1] rfl rfl rfl) rfl rfl hl.1 rfl (lv_room (Nat.le_of_ble_eq_true rfl)) d_PatternBookModel_openDecimal_200 ⟨(Nat.le_of_ble_eq_true rfl), (Nat.le_of_ble_eq_true rfl)⟩) hK hP hD hS hA [2, 1] [0] rfl rfl (by decide) (by decide) [0] rfl (fun u52 H locs hu52 hP hD hK hS => ?_)
                have hP : va_P D classes [(sa, .inl (cS, 1024, .inl sp)), (mo, .inr (6, [.int co, .int kd, .int sg, .int ex, .ref wa, .long hi, .long lo, .long lh, .long ll, .ref sa, .ref ma])), (wa, .inl (cW, 12, .inr (.inl u52)))] H := hP
                have hD : va_D A [(sa, .inl (cS, 1024, .inl sp)), (mo, .inr (6, [.int co, .int kd, .int sg, .int ex, .ref wa, .long hi, .long lo, .long lh, .long ll, .ref sa, .ref ma])), (wa, .inl (cW, 12, .inr (.inl u52)))] := hD
                have hK : va_K D classes [(cS, .int), (cW, .long)] s := hK
                refine W.eq (g2 := F0 m 203 ls []) rfl ?_
                refine lv_aload_n hx hb d_PatternBookModel_openDecimal_203 rfl (lv_at hl 8 rfl) ?_
                refine lv_iload_n hx hb d_PatternBookModel_openDecimal_204 rfl (lv_at hl 9 rfl) ?_
                have ho53 := hk
                refine uCall (WR := []) (RT := []) (va_runV (As := [.int x]) (rest := []) ⟨hx, hb, hml, hown, hts⟩ (c_M_takeDigits l D mo wa sa ma cW cS H.size x co kd sg ex hi lo lh ll u52 sp ho53) ⟨uCB 1 hts k_323 k_257 k_324 (by decide +kernel) rfl rfl ⟨Nat.le_of_ble_eq_true rfl, Nat.le_of_ble_eq_true rfl⟩, hts _ k_325, hts _ k_326⟩ (uPreV (ci := 6) (q0 := 1) hK hP hD hN [1, 2, 0] rfl (by decide) [1, 0] rfl rfl rfl) rfl rfl hl.1 rfl (lv_room (Nat.le_of_ble_eq_true rfl)) d_PatternBookModel_openDecimal_205 ⟨(Nat.le_of_ble_eq_true rfl), (Nat.le_of_ble_eq_true rfl)⟩) hK hP hD hS hA [1, 2, 0] [] rfl rfl (by decide) (by decide) [] rfl (fun u53 H locs hu53 hP hD hK hS => ?_)
                have hP : va_P D classes [(mo, .inr (6, [.int co, .int kd, .int sg, .int ex, .ref wa, .long hi, .long lo, .long lh, .long ll, .ref sa, .ref ma])), (wa, .inl (cW, 12, .inr (.inl u53))), (sa, .inl (cS, 1024, .inl sp))] H := hP
                have hD : va_D A [(mo, .inr (6, [.int co, .int kd, .int sg, .int ex, .ref wa, .long hi, .long lo, .long lh, .long ll, .ref sa, .ref ma])), (wa, .inl (cW, 12, .inr (.inl u53))), (sa, .inl (cS, 1024, .inl sp))] := hD
                have hK : va_K D classes [(cW, .long), (cS, .int)] s := hK
                refine W.eq (g2 := F0 m 208 ls []) rfl ?_
                refine lv_goto (tgt := 279) hx hb d_PatternBookModel_openDecimal_208 (by decide) ?_
                refine lv_aload_n hx hb d_PatternBookModel_openDecimal_279 rfl (lv_at hl 8 rfl) ?_
                refine lv_iload hx hb d_PatternBookModel_openDecimal_280 (lv_at hl 0 rfl) ?_
                refine lv_iload_n hx hb d_PatternBookModel_openDecimal_282 rfl (lv_at hl 9 rfl) ?_
                refine uCall (WR := [(mo, .inr (6, [.int co, .int kd, .int sg, .int ex, .ref wa, .long hi, .long lo, .long lh, .long ll, .ref sa, .ref ma])), (wa, .inl (cW, 12, .inr (.inl u53))), (sa, .inl (cS, 1024, .inl sp))]) (RT := [(cW, .long), (cS, .int)]) (va_runS (As := [.int x]) (rest := [.int z50, .ref mo]) ⟨hx, hb, hml, hown, hts⟩ (c_M_least l D H.size x) ⟨uCB 1 hts k_310 k_257 k_311 (by decide +kernel) rfl rfl ⟨Nat.le_of_ble_eq_true rfl, Nat.le_of_ble_eq_true rfl⟩, hts _ k_312⟩ (uPreS hK hP hD hN [] rfl (by decide) [] rfl) rfl rfl hl.1 rfl (lv_room (Nat.le_of_ble_eq_true rfl)) d_PatternBookModel_openDecimal_283 ⟨(Nat.le_of_ble_eq_true rfl), (Nat.le_of_ble_eq_true rfl)⟩) hK hP hD hS hA [] [0, 1, 2] rfl rfl (by decide) (by decide) [0, 1] rfl (fun u54 H locs hu54 hP hD hK hS => ?_)
                have hP : va_P D classes [(mo, .inr (6, [.int co, .int kd, .int sg, .int ex, .ref wa, .long hi, .long lo, .long lh, .long ll, .ref sa, .ref ma])), (wa, .inl (cW, 12, .inr (.inl u53))), (sa, .inl (cS, 1024, .inl sp))] H := hP
                have hD : va_D A [(mo, .inr (6, [.int co, .int kd, .int sg, .int ex, .ref wa, .long hi, .long lo, .long lh, .long ll, .ref sa, .ref ma])), (wa, .inl (cW, 12, .inr (.inl u53))), (sa, .inl (cS, 1024, .inl sp))] := hD
                have hK : va_K D classes [(cW, .long), (cS, .int)] s := hK
                refine W.eq (g2 := F0 m 286 ls [.int u54, .int z50, .ref mo]) rfl ?_
                refine lv_iadd hx hb d_PatternBookModel_openDecimal_286 ?_
                refine va_put (D := D) (ci := 6) (v := .int (z50 + u54)) (ty := .int) (C := R_PatternBookModel) (T := F_PatternBookModel) (N := 11) hx hb hts i_PatternBookModel t_PatternBookModel t_PatternBookModel_ok n_PatternBookModel hown hK hP hD hS 0 rfl rfl 3 (by decide) (hts _ k_313) (fun _ h9 => h9) rfl (by decide +kernel) rfl rfl (Nat.le_of_ble_eq_true rfl) d_PatternBookModel_openDecimal_287 (fun H locs hP hD hS => ?_)
                have hP : va_P D classes [(mo, .inr (6, [.int co, .int kd, .int sg, .int (z50 + u54), .ref wa, .long hi, .long lo, .long lh, .long ll, .ref sa, .ref ma])), (wa, .inl (cW, 12, .inr (.inl u53))), (sa, .inl (cS, 1024, .inl sp))] H := hP
                have hD : va_D A [(mo, .inr (6, [.int co, .int kd, .int sg, .int (z50 + u54), .ref wa, .long hi, .long lo, .long lh, .long ll, .ref sa, .ref ma])), (wa, .inl (cW, 12, .inr (.inl u53))), (sa, .inl (cS, 1024, .inl sp))] := hD
                refine W.vret hx hb hr ?_ hS.2.2 d_PatternBookModel_openDecimal_290
                exact uEnd (kd, (z50 + u54), u53) (hP.sub [0, 1, 2] rfl) (hK.sub [0, 1] rfl) (hD.sub [0, 1, 2] (by decide) rfl) hS (by have eu1 := hu1.symm; subst eu1; have eu2 := hu2.symm; subst eu2; have eu3 := hu3.symm; subst eu3; have eu35 := hu35.symm; subst eu35; have eu49 := hu49.symm; subst eu49; have ez50 := hz50.symm; subst ez50; have eu52 := hu52.symm; subst eu52; have eu53 := hu53.symm; subst eu53; have eu54 := hu54.symm; subst eu54; exact ((if_neg c_4).trans ((if_neg c_36).trans ((if_neg c_37).trans ((if_neg c_38).trans (rfl))))).symm) rfl
      · have hk := hk.1
        refine lv_aload_n hx hb d_PatternBookModel_openDecimal_67 rfl (lv_at hl 5 rfl) ?_
        refine lv_aload_n hx hb d_PatternBookModel_openDecimal_68 rfl (lv_at hl 5 rfl) ?_
        refine lv_iload_n hx hb d_PatternBookModel_openDecimal_69 rfl (lv_at hl 4 rfl) ?_
        refine lv_bipush (v := 7) hx hb d_PatternBookModel_openDecimal_70 (by decide) ?_
        refine lv_isub hx hb d_PatternBookModel_openDecimal_72 ?_
        refine uCall (WR := [(sa, .inl (cS, 1024, .inl sp)), (wa, .inl (cW, 12, .inr (.inl u35)))]) (RT := [(cS, .int), (cW, .long)]) (va_runV (As := [.int (u1 - (7:Int32))]) (rest := [.ref mo]) ⟨hx, hb, hml, hown, hts⟩ (c_M_bit l D mo wa sa ma H.size (u1 - (7:Int32)) co kd sg ex hi lo lh ll) ⟨uCB 1 hts k_275 k_257 k_276 (by decide +kernel) rfl rfl ⟨Nat.le_of_ble_eq_true rfl, Nat.le_of_ble_eq_true rfl⟩, hts _ k_277, hts _ k_278⟩ (uPreV (ci := 6) (q0 := 1) hK hP hD hN [1] rfl (by decide) [] rfl rfl rfl) rfl rfl hl.1 rfl (lv_room (Nat.le_of_ble_eq_true rfl)) d_PatternBookModel_openDecimal_73 ⟨(Nat.le_of_ble_eq_true rfl), (Nat.le_of_ble_eq_true rfl)⟩) hK hP hD hS hA [1] [0, 2] rfl rfl (by decide) (by decide) [0, 1] rfl (fun u55 H locs hu55 hP hD hK hS => ?_)
        have hP : va_P D classes [(sa, .inl (cS, 1024, .inl sp)), (wa, .inl (cW, 12, .inr (.inl u35))), (mo, .inr (6, [.int co, .int kd, .int sg, .int ex, .ref wa, .long hi, .long lo, .long lh, .long ll, .ref sa, .ref ma]))] H := hP
        have hD : va_D A [(sa, .inl (cS, 1024, .inl sp)), (wa, .inl (cW, 12, .inr (.inl u35))), (mo, .inr (6, [.int co, .int kd, .int sg, .int ex, .ref wa, .long hi, .long lo, .long lh, .long ll, .ref sa, .ref ma]))] := hD
        have hK : va_K D classes [(cS, .int), (cW, .long)] s := hK
        refine W.eq (g2 := F0 m 76 ls [.int u55, .ref mo]) rfl ?_
        refine lv_iconst (v := 1) hx hb d_PatternBookModel_openDecimal_76 (by decide) ?_
        refine lv_icmp_ne (tgt := 84) hx hb d_PatternBookModel_openDecimal_77 (by decide) (fun c_56 => ?_) (fun c_56 => ?_)
        · refine lv_iconst (v := 2) hx hb d_PatternBookModel_openDecimal_84 (by decide) ?_
          refine va_put (D := D) (ci := 6) (v := .int (2:Int32)) (ty := .int) (C := R_PatternBookModel) (T := F_PatternBookModel) (N := 11) hx hb hts i_PatternBookModel t_PatternBookModel t_PatternBookModel_ok n_PatternBookModel hown hK hP hD hS 2 rfl rfl 1 (by decide) (hts _ k_318) (fun _ h9 => h9) rfl (by decide +kernel) rfl rfl (Nat.le_of_ble_eq_true rfl) d_PatternBookModel_openDecimal_85 (fun H locs hP hD hS => ?_)
          have hP : va_P D classes [(sa, .inl (cS, 1024, .inl sp)), (wa, .inl (cW, 12, .inr (.inl u35))), (mo, .inr (6, [.int co, .int (2:Int32), .int sg, .int ex, .ref wa, .long hi, .long lo, .long lh, .long ll, .ref sa, .ref ma]))] H := hP
          have hD : va_D A [(sa, .inl (cS, 1024, .inl sp)), (wa, .inl (cW, 12, .inr (.inl u35))), (mo, .inr (6, [.int co, .int (2:Int32), .int sg, .int ex, .ref wa, .long hi, .long lo, .long lh, .long ll, .ref sa, .ref ma]))] := hD
          refine lv_iload hx hb d_PatternBookModel_openDecimal_88 (lv_at hl 0 rfl) ?_
          refine lv_if_eq (tgt := 101) hx hb d_PatternBookModel_openDecimal_90 (by decide) (fun c_57 => ?_) (fun c_57 => ?_)
          · exact absurd c_57 (by decide)
          · refine lv_aload_n hx hb d_PatternBookModel_openDecimal_93 rfl (lv_at hl 5 rfl) ?_
            refine lv_iload_n hx hb d_PatternBookModel_openDecimal_94 rfl (lv_at hl 6 rfl) ?_
            have ho58 := hk
            refine uCall (WR := []) (RT := []) (va_runV (As := [.int x]) (rest := []) ⟨hx, hb, hml, hown, hts⟩ (c_M_takeDigits l D mo wa sa ma cW cS H.size x co (2:Int32) sg ex hi lo lh ll u35 sp ho58) ⟨uCB 1 hts k_323 k_257 k_324 (by decide +kernel) rfl rfl ⟨Nat.le_of_ble_eq_true rfl, Nat.le_of_ble_eq_true rfl⟩, hts _ k_325, hts _ k_326⟩ (uPreV (ci := 6) (q0 := 2) hK hP hD hN [2, 1, 0] rfl (by decide) [1, 0] rfl rfl rfl) rfl rfl hl.1 rfl (lv_room (Nat.le_of_ble_eq_true rfl)) d_PatternBookModel_openDecimal_95 ⟨(Nat.le_of_ble_eq_true rfl), (Nat.le_of_ble_eq_true rfl)⟩) hK hP hD hS hA [2, 1, 0] [] rfl rfl (by decide) (by decide) [] rfl (fun u58 H locs hu58 hP hD hK hS => ?_)
            have hP : va_P D classes [(mo, .inr (6, [.int co, .int (2:Int32), .int sg, .int ex, .ref wa, .long hi, .long lo, .long lh, .long ll, .ref sa, .ref ma])), (wa, .inl (cW, 12, .inr (.inl u58))), (sa, .inl (cS, 1024, .inl sp))] H := hP
            have hD : va_D A [(mo, .inr (6, [.int co, .int (2:Int32), .int sg, .int ex, .ref wa, .long hi, .long lo, .long lh, .long ll, .ref sa, .ref ma])), (wa, .inl (cW, 12, .inr (.inl u58))), (sa, .inl (cS, 1024, .inl sp))] := hD
            have hK : va_K D classes [(cW, .long), (cS, .int)] s := hK
            refine W.eq (g2 := F0 m 98 ls []) rfl ?_
            refine lv_goto (tgt := 114) hx hb d_PatternBookModel_openDecimal_98 (by decide) ?_
            refine W.vret hx hb hr ?_ hS.2.2 d_PatternBookModel_openDecimal_114
            exact uEnd ((2:Int32), ex, u58) (hP.sub [0, 1, 2] rfl) (hK.sub [0, 1] rfl) (hD.sub [0, 1, 2] (by decide) rfl) hS (by have eu1 := hu1.symm; subst eu1; have eu2 := hu2.symm; subst eu2; have eu3 := hu3.symm; subst eu3; have eu35 := hu35.symm; subst eu35; have eu55 := hu55.symm; subst eu55; have eu58 := hu58.symm; subst eu58; exact ((if_neg c_4).trans ((if_neg c_36).trans ((if_pos c_37).trans ((if_neg c_56).trans (rfl))))).symm) rfl
        · refine lv_iconst (v := 3) hx hb d_PatternBookModel_openDecimal_80 (by decide) ?_
          refine lv_goto (tgt := 85) hx hb d_PatternBookModel_openDecimal_81 (by decide) ?_
          refine va_put (D := D) (ci := 6) (v := .int (3:Int32)) (ty := .int) (C := R_PatternBookModel) (T := F_PatternBookModel) (N := 11) hx hb hts i_PatternBookModel t_PatternBookModel t_PatternBookModel_ok n_PatternBookModel hown hK hP hD hS 2 rfl rfl 1 (by decide) (hts _ k_318) (fun _ h9 => h9) rfl (by decide +kernel) rfl rfl (Nat.le_of_ble_eq_true rfl) d_PatternBookModel_openDecimal_85 (fun H locs hP hD hS => ?_)
          have hP : va_P D classes [(sa, .inl (cS, 1024, .inl sp)), (wa, .inl (cW, 12, .inr (.inl u35))), (mo, .inr (6, [.int co, .int (3:Int32), .int sg, .int ex, .ref wa, .long hi, .long lo, .long lh, .long ll, .ref sa, .ref ma]))] H := hP
          have hD : va_D A [(sa, .inl (cS, 1024, .inl sp)), (wa, .inl (cW, 12, .inr (.inl u35))), (mo, .inr (6, [.int co, .int (3:Int32), .int sg, .int ex, .ref wa, .long hi, .long lo, .long lh, .long ll, .ref sa, .ref ma]))] := hD
          refine lv_iload hx hb d_PatternBookModel_openDecimal_88 (lv_at hl 0 rfl) ?_
          refine lv_if_eq (tgt := 101) hx hb d_PatternBookModel_openDecimal_90 (by decide) (fun c_59 => ?_) (fun c_59 => ?_)
          · exact absurd c_59 (by decide)
          · refine lv_aload_n hx hb d_PatternBookModel_openDecimal_93 rfl (lv_at hl 5 rfl) ?_
            refine lv_iload_n hx hb d_PatternBookModel_openDecimal_94 rfl (lv_at hl 6 rfl) ?_
            have ho60 := hk
            refine uCall (WR := []) (RT := []) (va_runV (As := [.int x]) (rest := []) ⟨hx, hb, hml, hown, hts⟩ (c_M_takeDigits l D mo wa sa ma cW cS H.size x co (3:Int32) sg ex hi lo lh ll u35 sp ho60) ⟨uCB 1 hts k_323 k_257 k_324 (by decide +kernel) rfl rfl ⟨Nat.le_of_ble_eq_true rfl, Nat.le_of_ble_eq_true rfl⟩, hts _ k_325, hts _ k_326⟩ (uPreV (ci := 6) (q0 := 2) hK hP hD hN [2, 1, 0] rfl (by decide) [1, 0] rfl rfl rfl) rfl rfl hl.1 rfl (lv_room (Nat.le_of_ble_eq_true rfl)) d_PatternBookModel_openDecimal_95 ⟨(Nat.le_of_ble_eq_true rfl), (Nat.le_of_ble_eq_true rfl)⟩) hK hP hD hS hA [2, 1, 0] [] rfl rfl (by decide) (by decide) [] rfl (fun u60 H locs hu60 hP hD hK hS => ?_)
            have hP : va_P D classes [(mo, .inr (6, [.int co, .int (3:Int32), .int sg, .int ex, .ref wa, .long hi, .long lo, .long lh, .long ll, .ref sa, .ref ma])), (wa, .inl (cW, 12, .inr (.inl u60))), (sa, .inl (cS, 1024, .inl sp))] H := hP
            have hD : va_D A [(mo, .inr (6, [.int co, .int (3:Int32), .int sg, .int ex, .ref wa, .long hi, .long lo, .long lh, .long ll, .ref sa, .ref ma])), (wa, .inl (cW, 12, .inr (.inl u60))), (sa, .inl (cS, 1024, .inl sp))] := hD
            have hK : va_K D classes [(cW, .long), (cS, .int)] s := hK
            refine W.eq (g2 := F0 m 98 ls []) rfl ?_
            refine lv_goto (tgt := 114) hx hb d_PatternBookModel_openDecimal_98 (by decide) ?_
            refine W.vret hx hb hr ?_ hS.2.2 d_PatternBookModel_openDecimal_114
            exact uEnd ((3:Int32), ex, u60) (hP.sub [0, 1, 2] rfl) (hK.sub [0, 1] rfl) (hD.sub [0, 1, 2] (by decide) rfl) hS (by have eu1 := hu1.symm; subst eu1; have eu2 := hu2.symm; subst eu2; have eu3 := hu3.symm; subst eu3; have eu35 := hu35.symm; subst eu35; have eu55 := hu55.symm; subst eu55; have eu60 := hu60.symm; subst eu60; exact ((if_neg c_4).trans ((if_neg c_36).trans ((if_pos c_37).trans ((if_pos c_56).trans (rfl))))).symm) rfl
    · refine lv_aload_n hx hb d_PatternBookModel_openDecimal_54 rfl (lv_at hl 5 rfl) ?_
      refine lv_iconst (v := 1) hx hb d_PatternBookModel_openDecimal_55 (by decide) ?_
      refine va_put (D := D) (ci := 6) (v := .int (1:Int32)) (ty := .int) (C := R_PatternBookModel) (T := F_PatternBookModel) (N := 11) hx hb hts i_PatternBookModel t_PatternBookModel t_PatternBookModel_ok n_PatternBookModel hown hK hP hD hS 1 rfl rfl 1 (by decide) (hts _ k_318) (fun _ h9 => h9) rfl (by decide +kernel) rfl rfl (Nat.le_of_ble_eq_true rfl) d_PatternBookModel_openDecimal_56 (fun H locs hP hD hS => ?_)
      have hP : va_P D classes [(sa, .inl (cS, 1024, .inl sp)), (mo, .inr (6, [.int co, .int (1:Int32), .int sg, .int ex, .ref wa, .long hi, .long lo, .long lh, .long ll, .ref sa, .ref ma])), (wa, .inl (cW, 12, .inr (.inl u35)))] H := hP
      have hD : va_D A [(sa, .inl (cS, 1024, .inl sp)), (mo, .inr (6, [.int co, .int (1:Int32), .int sg, .int ex, .ref wa, .long hi, .long lo, .long lh, .long ll, .ref sa, .ref ma])), (wa, .inl (cW, 12, .inr (.inl u35)))] := hD
      refine W.vret hx hb hr ?_ hS.2.2 d_PatternBookModel_openDecimal_59
      exact uEnd ((1:Int32), ex, u35) (hP.sub [1, 2, 0] rfl) (hK.sub [1, 0] rfl) (hD.sub [1, 2, 0] (by decide) rfl) hS (by have eu1 := hu1.symm; subst eu1; have eu2 := hu2.symm; subst eu2; have eu3 := hu3.symm; subst eu3; have eu35 := hu35.symm; subst eu35; exact ((if_neg c_4).trans ((if_pos c_36).trans (rfl))).symm) rfl
set_option maxHeartbeats 4000000 in
set_option maxRecDepth 100000 in
/-- PatternBookModel.open(I)V -/
theorem c_M_open (l : Launch) (D : va_G) (mo : Nat) (wa : Nat) (sa : Nat) (ma : Nat) (cW : ClassId) (cS : ClassId) (sz : Nat) (x : Int32) (co : Int32) (kd : Int32) (sg : Int32) (ex : Int32) (hi : Int64) (lo : Int64) (lh : Int64) (ll : Int64) (w : Nat → Int64) (sp : Nat → Int32) (hk : mok_M_open x lh ll) : Met l y_PatternBookModel_open (wsOf y_PatternBookModel_open b_PatternBookModel_open 2 none) ({ frames := 4, cells := 0, slots := 0, locals := 106 }) (uP D classes [(mo, .inr (6, [.int co, .int kd, .int sg, .int ex, .ref wa, .long hi, .long lo, .long lh, .long ll, .ref sa, .ref ma])), (wa, .inl (cW, 12, .inr (.inl w))), (sa, .inl (cS, 1024, .inl sp))] [(cW, .long), (cS, .int)] sz [.ref mo, .int x]) (uQ D classes (fun _ : Int32 × Int32 × Int32 × Int64 × Int64 × (Nat → Int64) => none) (fun u => u = (sl m_M_open) x lh ll w sp) (va_A [(mo, .inr (6, [.int co, .int kd, .int sg, .int ex, .ref wa, .long hi, .long lo, .long lh, .long ll, .ref sa, .ref ma])), (wa, .inl (cW, 12, .inr (.inl w))), (sa, .inl (cS, 1024, .inl sp))] sz) (fun _ => [(cW, .long), (cS, .int)]) (fun u => [(mo, .inr (6, [.int co, .int u.1, .int u.2.1, .int u.2.2.1, .ref wa, .long hi, .long lo, .long u.2.2.2.1, .long u.2.2.2.2.1, .ref sa, .ref ma])), (wa, .inl (cW, 12, .inr (.inl u.2.2.2.2.2))), (sa, .inl (cS, 1024, .inl sp))])) 0 0 (va_A [(mo, .inr (6, [.int co, .int kd, .int sg, .int ex, .ref wa, .long hi, .long lo, .long lh, .long ll, .ref sa, .ref ma])), (wa, .inl (cW, 12, .inr (.inl w))), (sa, .inl (cS, 1024, .inl sp))] sz) := by
  rw [sl_eq m_M_open]
  refine uBegin (by decide +kernel) (Nat.le_of_ble_eq_true rfl) ?_
  intro p e s m below meth c A ls H locs hx hb hr hts hown hlocks hml hin hA hP hK hD hN hS hl
  have hl : lv_has ls 2 [(0, .ref mo), (1, .int x)] := hl
  unfold mok_M_open at hk
  refine lv_aload_n hx hb d_PatternBookModel_open_0 rfl (lv_at hl 0 rfl) ?_
  refine lv_iload_n hx hb d_PatternBookModel_open_1 rfl (lv_at hl 1 rfl) ?_
  refine uCall (WR := [(wa, .inl (cW, 12, .inr (.inl w))), (sa, .inl (cS, 1024, .inl sp))]) (RT := [(cW, .long), (cS, .int)]) (va_runV (As := [.int x]) (rest := []) ⟨hx, hb, hml, hown, hts⟩ (c_M_mask l D mo wa sa ma H.size x co kd sg ex hi lo lh ll) ⟨uCB 1 hts k_327 k_257 k_328 (by decide +kernel) rfl rfl ⟨Nat.le_of_ble_eq_true rfl, Nat.le_of_ble_eq_true rfl⟩, hts _ k_329, hts _ k_330⟩ (uPreV (ci := 6) (q0 := 0) hK hP hD hN [0] rfl (by decide) [] rfl rfl rfl) rfl rfl hl.1 rfl (lv_room (Nat.le_of_ble_eq_true rfl)) d_PatternBookModel_open_2 ⟨(Nat.le_of_ble_eq_true rfl), (Nat.le_of_ble_eq_true rfl)⟩) hK hP hD hS hA [0] [1, 2] rfl rfl (by decide) (by decide) [0, 1] rfl (fun u1 H locs hu1 hP hD hK hS => ?_)
  have hP : va_P D classes [(wa, .inl (cW, 12, .inr (.inl w))), (sa, .inl (cS, 1024, .inl sp)), (mo, .inr (6, [.int co, .int kd, .int sg, .int ex, .ref wa, .long hi, .long lo, .long u1.1, .long u1.2, .ref sa, .ref ma]))] H := hP
  have hD : va_D A [(wa, .inl (cW, 12, .inr (.inl w))), (sa, .inl (cS, 1024, .inl sp)), (mo, .inr (6, [.int co, .int kd, .int sg, .int ex, .ref wa, .long hi, .long lo, .long u1.1, .long u1.2, .ref sa, .ref ma]))] := hD
  have hK : va_K D classes [(cW, .long), (cS, .int)] s := hK
  refine W.eq (g2 := F0 m 5 ls []) rfl ?_
  have hk := hk u1 hu1
  refine lv_aload_n hx hb d_PatternBookModel_open_5 rfl (lv_at hl 0 rfl) ?_
  refine lv_aload_n hx hb d_PatternBookModel_open_6 rfl (lv_at hl 0 rfl) ?_
  refine lv_iload_n hx hb d_PatternBookModel_open_7 rfl (lv_at hl 1 rfl) ?_
  refine uCall (WR := [(wa, .inl (cW, 12, .inr (.inl w))), (sa, .inl (cS, 1024, .inl sp)), (mo, .inr (6, [.int co, .int kd, .int sg, .int ex, .ref wa, .long hi, .long lo, .long u1.1, .long u1.2, .ref sa, .ref ma]))]) (RT := [(cW, .long), (cS, .int)]) (va_runS (As := [.int x]) (rest := [.ref mo, .ref mo]) ⟨hx, hb, hml, hown, hts⟩ (c_M_width l D H.size x) ⟨uCB 1 hts k_287 k_257 k_288 (by decide +kernel) rfl rfl ⟨Nat.le_of_ble_eq_true rfl, Nat.le_of_ble_eq_true rfl⟩, hts _ k_289⟩ (uPreS hK hP hD hN [] rfl (by decide) [] rfl) rfl rfl hl.1 rfl (lv_room (Nat.le_of_ble_eq_true rfl)) d_PatternBookModel_open_8 ⟨(Nat.le_of_ble_eq_true rfl), (Nat.le_of_ble_eq_true rfl)⟩) hK hP hD hS hA [] [0, 1, 2] rfl rfl (by decide) (by decide) [0, 1] rfl (fun u2 H locs hu2 hP hD hK hS => ?_)
  have hP : va_P D classes [(wa, .inl (cW, 12, .inr (.inl w))), (sa, .inl (cS, 1024, .inl sp)), (mo, .inr (6, [.int co, .int kd, .int sg, .int ex, .ref wa, .long hi, .long lo, .long u1.1, .long u1.2, .ref sa, .ref ma]))] H := hP
  have hD : va_D A [(wa, .inl (cW, 12, .inr (.inl w))), (sa, .inl (cS, 1024, .inl sp)), (mo, .inr (6, [.int co, .int kd, .int sg, .int ex, .ref wa, .long hi, .long lo, .long u1.1, .long u1.2, .ref sa, .ref ma]))] := hD
  have hK : va_K D classes [(cW, .long), (cS, .int)] s := hK
  refine W.eq (g2 := F0 m 11 ls [.int u2, .ref mo, .ref mo]) rfl ?_
  refine lv_iconst (v := 1) hx hb d_PatternBookModel_open_11 (by decide) ?_
  refine lv_isub hx hb d_PatternBookModel_open_12 ?_
  refine uCall (WR := [(wa, .inl (cW, 12, .inr (.inl w))), (sa, .inl (cS, 1024, .inl sp))]) (RT := [(cW, .long), (cS, .int)]) (va_runV (As := [.int (u2 - (1:Int32))]) (rest := [.ref mo]) ⟨hx, hb, hml, hown, hts⟩ (c_M_bit l D mo wa sa ma H.size (u2 - (1:Int32)) co kd sg ex hi lo u1.1 u1.2) ⟨uCB 1 hts k_275 k_257 k_276 (by decide +kernel) rfl rfl ⟨Nat.le_of_ble_eq_true rfl, Nat.le_of_ble_eq_true rfl⟩, hts _ k_277, hts _ k_278⟩ (uPreV (ci := 6) (q0 := 2) hK hP hD hN [2] rfl (by decide) [] rfl rfl rfl) rfl rfl hl.1 rfl (lv_room (Nat.le_of_ble_eq_true rfl)) d_PatternBookModel_open_13 ⟨(Nat.le_of_ble_eq_true rfl), (Nat.le_of_ble_eq_true rfl)⟩) hK hP hD hS hA [2] [0, 1] rfl rfl (by decide) (by decide) [0, 1] rfl (fun u3 H locs hu3 hP hD hK hS => ?_)
  have hP : va_P D classes [(wa, .inl (cW, 12, .inr (.inl w))), (sa, .inl (cS, 1024, .inl sp)), (mo, .inr (6, [.int co, .int kd, .int sg, .int ex, .ref wa, .long hi, .long lo, .long u1.1, .long u1.2, .ref sa, .ref ma]))] H := hP
  have hD : va_D A [(wa, .inl (cW, 12, .inr (.inl w))), (sa, .inl (cS, 1024, .inl sp)), (mo, .inr (6, [.int co, .int kd, .int sg, .int ex, .ref wa, .long hi, .long lo, .long u1.1, .long u1.2, .ref sa, .ref ma]))] := hD
  have hK : va_K D classes [(cW, .long), (cS, .int)] s := hK
  refine W.eq (g2 := F0 m 16 ls [.int u3, .ref mo]) rfl ?_
  refine va_put (D := D) (ci := 6) (v := .int u3) (ty := .int) (C := R_PatternBookModel) (T := F_PatternBookModel) (N := 11) hx hb hts i_PatternBookModel t_PatternBookModel t_PatternBookModel_ok n_PatternBookModel hown hK hP hD hS 2 rfl rfl 2 (by decide) (hts _ k_331) (fun _ h9 => h9) rfl (by decide +kernel) rfl rfl (Nat.le_of_ble_eq_true rfl) d_PatternBookModel_open_16 (fun H locs hP hD hS => ?_)
  have hP : va_P D classes [(wa, .inl (cW, 12, .inr (.inl w))), (sa, .inl (cS, 1024, .inl sp)), (mo, .inr (6, [.int co, .int kd, .int u3, .int ex, .ref wa, .long hi, .long lo, .long u1.1, .long u1.2, .ref sa, .ref ma]))] H := hP
  have hD : va_D A [(wa, .inl (cW, 12, .inr (.inl w))), (sa, .inl (cS, 1024, .inl sp)), (mo, .inr (6, [.int co, .int kd, .int u3, .int ex, .ref wa, .long hi, .long lo, .long u1.1, .long u1.2, .ref sa, .ref ma]))] := hD
  refine lv_aload_n hx hb d_PatternBookModel_open_19 rfl (lv_at hl 0 rfl) ?_
  refine lv_iconst (v := 0) hx hb d_PatternBookModel_open_20 (by decide) ?_
  refine va_put (D := D) (ci := 6) (v := .int (0:Int32)) (ty := .int) (C := R_PatternBookModel) (T := F_PatternBookModel) (N := 11) hx hb hts i_PatternBookModel t_PatternBookModel t_PatternBookModel_ok n_PatternBookModel hown hK hP hD hS 2 rfl rfl 1 (by decide) (hts _ k_318) (fun _ h9 => h9) rfl (by decide +kernel) rfl rfl (Nat.le_of_ble_eq_true rfl) d_PatternBookModel_open_21 (fun H locs hP hD hS => ?_)
  have hP : va_P D classes [(wa, .inl (cW, 12, .inr (.inl w))), (sa, .inl (cS, 1024, .inl sp)), (mo, .inr (6, [.int co, .int (0:Int32), .int u3, .int ex, .ref wa, .long hi, .long lo, .long u1.1, .long u1.2, .ref sa, .ref ma]))] H := hP
  have hD : va_D A [(wa, .inl (cW, 12, .inr (.inl w))), (sa, .inl (cS, 1024, .inl sp)), (mo, .inr (6, [.int co, .int (0:Int32), .int u3, .int ex, .ref wa, .long hi, .long lo, .long u1.1, .long u1.2, .ref sa, .ref ma]))] := hD
  refine lv_aload_n hx hb d_PatternBookModel_open_24 rfl (lv_at hl 0 rfl) ?_
  refine lv_iconst (v := 0) hx hb d_PatternBookModel_open_25 (by decide) ?_
  refine va_put (D := D) (ci := 6) (v := .int (0:Int32)) (ty := .int) (C := R_PatternBookModel) (T := F_PatternBookModel) (N := 11) hx hb hts i_PatternBookModel t_PatternBookModel t_PatternBookModel_ok n_PatternBookModel hown hK hP hD hS 2 rfl rfl 3 (by decide) (hts _ k_313) (fun _ h9 => h9) rfl (by decide +kernel) rfl rfl (Nat.le_of_ble_eq_true rfl) d_PatternBookModel_open_26 (fun H locs hP hD hS => ?_)
  have hP : va_P D classes [(wa, .inl (cW, 12, .inr (.inl w))), (sa, .inl (cS, 1024, .inl sp)), (mo, .inr (6, [.int co, .int (0:Int32), .int u3, .int (0:Int32), .ref wa, .long hi, .long lo, .long u1.1, .long u1.2, .ref sa, .ref ma]))] H := hP
  have hD : va_D A [(wa, .inl (cW, 12, .inr (.inl w))), (sa, .inl (cS, 1024, .inl sp)), (mo, .inr (6, [.int co, .int (0:Int32), .int u3, .int (0:Int32), .ref wa, .long hi, .long lo, .long u1.1, .long u1.2, .ref sa, .ref ma]))] := hD
  refine lv_iload_n hx hb d_PatternBookModel_open_29 rfl (lv_at hl 1 rfl) ?_
  refine lv_iconst (v := 4) hx hb d_PatternBookModel_open_30 (by decide) ?_
  refine lv_icmp_ge (tgt := 42) hx hb d_PatternBookModel_open_31 (by decide) (fun c_4 => ?_) (fun c_4 => ?_)
  · have hk := hk.1 c_4
    refine lv_aload_n hx hb d_PatternBookModel_open_42 rfl (lv_at hl 0 rfl) ?_
    refine lv_iload_n hx hb d_PatternBookModel_open_43 rfl (lv_at hl 1 rfl) ?_
    have ho5 := hk
    refine uCall (WR := []) (RT := []) (va_runV (As := [.int x]) (rest := []) ⟨hx, hb, hml, hown, hts⟩ (c_M_openDecimal l D mo wa sa ma cW cS H.size x co (0:Int32) u3 (0:Int32) hi lo u1.1 u1.2 w sp ho5) ⟨uCB 1 hts k_332 k_257 k_333 (by decide +kernel) rfl rfl ⟨Nat.le_of_ble_eq_true rfl, Nat.le_of_ble_eq_true rfl⟩, hts _ k_334, hts _ k_335⟩ (uPreV (ci := 6) (q0 := 2) hK hP hD hN [2, 0, 1] rfl (by decide) [0, 1] rfl rfl rfl) rfl rfl hl.1 rfl (lv_room (Nat.le_of_ble_eq_true rfl)) d_PatternBookModel_open_44 ⟨(Nat.le_of_ble_eq_true rfl), (Nat.le_of_ble_eq_true rfl)⟩) hK hP hD hS hA [2, 0, 1] [] rfl rfl (by decide) (by decide) [] rfl (fun u5 H locs hu5 hP hD hK hS => ?_)
    have hP : va_P D classes [(mo, .inr (6, [.int co, .int u5.1, .int u3, .int u5.2.1, .ref wa, .long hi, .long lo, .long u1.1, .long u1.2, .ref sa, .ref ma])), (wa, .inl (cW, 12, .inr (.inl u5.2.2))), (sa, .inl (cS, 1024, .inl sp))] H := hP
    have hD : va_D A [(mo, .inr (6, [.int co, .int u5.1, .int u3, .int u5.2.1, .ref wa, .long hi, .long lo, .long u1.1, .long u1.2, .ref sa, .ref ma])), (wa, .inl (cW, 12, .inr (.inl u5.2.2))), (sa, .inl (cS, 1024, .inl sp))] := hD
    have hK : va_K D classes [(cW, .long), (cS, .int)] s := hK
    refine W.eq (g2 := F0 m 47 ls []) rfl ?_
    refine W.vret hx hb hr ?_ hS.2.2 d_PatternBookModel_open_47
    exact uEnd (u5.1, u3, u5.2.1, u1.1, u1.2, u5.2.2) (hP.sub [0, 1, 2] rfl) (hK.sub [0, 1] rfl) (hD.sub [0, 1, 2] (by decide) rfl) hS (by have eu1 := hu1.symm; subst eu1; have eu2 := hu2.symm; subst eu2; have eu3 := hu3.symm; subst eu3; have eu5 := hu5.symm; subst eu5; exact ((if_pos c_4).trans (rfl)).symm) rfl
  · have hk := hk.2 c_4
    refine lv_aload_n hx hb d_PatternBookModel_open_34 rfl (lv_at hl 0 rfl) ?_
    refine lv_iload_n hx hb d_PatternBookModel_open_35 rfl (lv_at hl 1 rfl) ?_
    have ho6 := hk
    refine uCall (WR := [(sa, .inl (cS, 1024, .inl sp))]) (RT := [(cS, .int)]) (va_runV (As := [.int x]) (rest := []) ⟨hx, hb, hml, hown, hts⟩ (c_M_openBinary l D mo wa sa ma cW H.size x co (0:Int32) u3 (0:Int32) hi lo u1.1 u1.2 w ho6) ⟨uCB 1 hts k_336 k_257 k_337 (by decide +kernel) rfl rfl ⟨Nat.le_of_ble_eq_true rfl, Nat.le_of_ble_eq_true rfl⟩, hts _ k_338, hts _ k_339⟩ (uPreV (ci := 6) (q0 := 2) hK hP hD hN [2, 0] rfl (by decide) [0] rfl rfl rfl) rfl rfl hl.1 rfl (lv_room (Nat.le_of_ble_eq_true rfl)) d_PatternBookModel_open_36 ⟨(Nat.le_of_ble_eq_true rfl), (Nat.le_of_ble_eq_true rfl)⟩) hK hP hD hS hA [2, 0] [1] rfl rfl (by decide) (by decide) [1] rfl (fun u6 H locs hu6 hP hD hK hS => ?_)
    have hP : va_P D classes [(sa, .inl (cS, 1024, .inl sp)), (mo, .inr (6, [.int co, .int u6.1, .int u3, .int u6.2.1, .ref wa, .long hi, .long lo, .long u1.1, .long u1.2, .ref sa, .ref ma])), (wa, .inl (cW, 12, .inr (.inl u6.2.2)))] H := hP
    have hD : va_D A [(sa, .inl (cS, 1024, .inl sp)), (mo, .inr (6, [.int co, .int u6.1, .int u3, .int u6.2.1, .ref wa, .long hi, .long lo, .long u1.1, .long u1.2, .ref sa, .ref ma])), (wa, .inl (cW, 12, .inr (.inl u6.2.2)))] := hD
    have hK : va_K D classes [(cS, .int), (cW, .long)] s := hK
    refine W.eq (g2 := F0 m 39 ls []) rfl ?_
    refine lv_goto (tgt := 47) hx hb d_PatternBookModel_open_39 (by decide) ?_
    refine W.vret hx hb hr ?_ hS.2.2 d_PatternBookModel_open_47
    exact uEnd (u6.1, u3, u6.2.1, u1.1, u1.2, u6.2.2) (hP.sub [1, 2, 0] rfl) (hK.sub [1, 0] rfl) (hD.sub [1, 2, 0] (by decide) rfl) hS (by have eu1 := hu1.symm; subst eu1; have eu2 := hu2.symm; subst eu2; have eu3 := hu3.symm; subst eu3; have eu6 := hu6.symm; subst eu6; exact ((if_neg c_4).trans (rfl)).symm) rfl
set_option maxHeartbeats 4000000 in
set_option maxRecDepth 100000 in
/-- PatternBookModel.fits(I)Z -/
theorem c_M_fits (l : Launch) (D : va_G) (mo : Nat) (wa : Nat) (sa : Nat) (ma : Nat) (cW : ClassId) (sz : Nat) (x : Int32) (co : Int32) (kd : Int32) (sg : Int32) (ex : Int32) (hi : Int64) (lo : Int64) (lh : Int64) (ll : Int64) (w : Nat → Int64) (hk : mok_M_fits x) : Met l y_PatternBookModel_fits (wsOf y_PatternBookModel_fits b_PatternBookModel_fits 3 (some .boolean)) ({ frames := 2, cells := 0, slots := 0, locals := 52 }) (uP D classes [(mo, .inr (6, [.int co, .int kd, .int sg, .int ex, .ref wa, .long hi, .long lo, .long lh, .long ll, .ref sa, .ref ma])), (wa, .inl (cW, 12, .inr (.inl w)))] [(cW, .long)] sz [.ref mo, .int x]) (uQ D classes (fun u : Bool × (Nat → Int64) => some (.int (bI u.1))) (fun u => u = (sl m_M_fits) x kd ex w) (va_A [(mo, .inr (6, [.int co, .int kd, .int sg, .int ex, .ref wa, .long hi, .long lo, .long lh, .long ll, .ref sa, .ref ma])), (wa, .inl (cW, 12, .inr (.inl w)))] sz) (fun _ => [(cW, .long)]) (fun u => [(mo, .inr (6, [.int co, .int kd, .int sg, .int ex, .ref wa, .long hi, .long lo, .long lh, .long ll, .ref sa, .ref ma])), (wa, .inl (cW, 12, .inr (.inl u.2)))])) 0 0 (va_A [(mo, .inr (6, [.int co, .int kd, .int sg, .int ex, .ref wa, .long hi, .long lo, .long lh, .long ll, .ref sa, .ref ma])), (wa, .inl (cW, 12, .inr (.inl w)))] sz) := by
  rw [sl_eq m_M_fits]
  refine uBegin (by decide +kernel) (Nat.le_of_ble_eq_true rfl) ?_
  intro p e s m below meth c A ls H locs hx hb hr hts hown hlocks hml hin hA hP hK hD hN hS hl
  have hl : lv_has ls 3 [(0, .ref mo), (1, .int x)] := hl
  unfold mok_M_fits at hk
  refine lv_iload_n hx hb d_PatternBookModel_fits_0 rfl (lv_at hl 1 rfl) ?_
  refine uCall (WR := [(mo, .inr (6, [.int co, .int kd, .int sg, .int ex, .ref wa, .long hi, .long lo, .long lh, .long ll, .ref sa, .ref ma])), (wa, .inl (cW, 12, .inr (.inl w)))]) (RT := [(cW, .long)]) (va_runS (As := [.int x]) (rest := []) ⟨hx, hb, hml, hown, hts⟩ (c_M_digitsOf l D H.size x) ⟨uCB 1 hts k_260 k_257 k_261 (by decide +kernel) rfl rfl ⟨Nat.le_of_ble_eq_true rfl, Nat.le_of_ble_eq_true rfl⟩, hts _ k_262⟩ (uPreS hK hP hD hN [] rfl (by decide) [] rfl) rfl rfl hl.1 rfl (lv_room (Nat.le_of_ble_eq_true rfl)) d_PatternBookModel_fits_1 ⟨(Nat.le_of_ble_eq_true rfl), (Nat.le_of_ble_eq_true rfl)⟩) hK hP hD hS hA [] [0, 1] rfl rfl (by decide) (by decide) [0] rfl (fun u1 H locs hu1 hP hD hK hS => ?_)
  have hP : va_P D classes [(mo, .inr (6, [.int co, .int kd, .int sg, .int ex, .ref wa, .long hi, .long lo, .long lh, .long ll, .ref sa, .ref ma])), (wa, .inl (cW, 12, .inr (.inl w)))] H := hP
  have hD : va_D A [(mo, .inr (6, [.int co, .int kd, .int sg, .int ex, .ref wa, .long hi, .long lo, .long lh, .long ll, .ref sa, .ref ma])), (wa, .inl (cW, 12, .inr (.inl w)))] := hD
  have hK : va_K D classes [(cW, .long)] s := hK
  refine W.eq (g2 := F0 m 4 ls [.int u1]) rfl ?_
  have hk := hk u1 hu1
  refine lv_istore_n (lv' := [(2, .int u1), (0, .ref mo), (1, .int x)]) hx hb d_PatternBookModel_fits_4 rfl hl (by decide) rfl (fun ls hl => ?_)
  refine lv_aload_n hx hb d_PatternBookModel_fits_5 rfl (lv_at hl 1 rfl) ?_
  refine va_get (D := D) (ci := 6) (v := .int kd) (C := R_PatternBookModel) (T := F_PatternBookModel) (N := 11) hx hb hts i_PatternBookModel hown hK hP 0 rfl rfl 1 (by decide) (hts _ k_318) (fun _ h9 => h9) rfl d_PatternBookModel_fits_6 ?_
  refine lv_iconst (v := 1) hx hb d_PatternBookModel_fits_9 (by decide) ?_
  refine lv_icmp_ne (tgt := 15) hx hb d_PatternBookModel_fits_10 (by decide) (fun c_2 => ?_) (fun c_2 => ?_)
  · refine lv_aload_n hx hb d_PatternBookModel_fits_15 rfl (lv_at hl 1 rfl) ?_
    refine va_get (D := D) (ci := 6) (v := .int kd) (C := R_PatternBookModel) (T := F_PatternBookModel) (N := 11) hx hb hts i_PatternBookModel hown hK hP 0 rfl rfl 1 (by decide) (hts _ k_318) (fun _ h9 => h9) rfl d_PatternBookModel_fits_16 ?_
    refine lv_if_ne (tgt := 112) hx hb d_PatternBookModel_fits_19 (by decide) (fun c_3 => ?_) (fun c_3 => ?_)
    · have hk := hk.2
      refine lv_aload_n hx hb d_PatternBookModel_fits_112 rfl (lv_at hl 1 rfl) ?_
      refine lv_iconst (v := 1) hx hb d_PatternBookModel_fits_113 (by decide) ?_
      refine lv_iload_n hx hb d_PatternBookModel_fits_114 rfl (lv_at hl 2 rfl) ?_
      refine lv_iconst (v := 4) hx hb d_PatternBookModel_fits_115 (by decide) ?_
      refine lv_icmp_ge (tgt := 123) hx hb d_PatternBookModel_fits_116 (by decide) (fun c_4 => ?_) (fun c_4 => ?_)
      · refine lv_bipush (v := 10) hx hb d_PatternBookModel_fits_123 (by decide) ?_
        refine lv_iload_n hx hb d_PatternBookModel_fits_125 rfl (lv_at hl 2 rfl) ?_
        refine lv_iconst (v := 4) hx hb d_PatternBookModel_fits_126 (by decide) ?_
        refine lv_icmp_ge (tgt := 136) hx hb d_PatternBookModel_fits_127 (by decide) (fun c_5 => ?_) (fun c_5 => ?_)
        · have hk := hk.1
          refine lv_iload_n hx hb d_PatternBookModel_fits_136 rfl (lv_at hl 0 rfl) ?_
          refine lv_iconst (v := 1) hx hb d_PatternBookModel_fits_137 (by decide) ?_
          refine lv_isub hx hb d_PatternBookModel_fits_138 ?_
          have ho6 := hk
          refine uCall (WR := []) (RT := []) (va_runV (As := [.int (1:Int32), .int (10:Int32), .int (u1 - (1:Int32))]) (rest := []) ⟨hx, hb, hml, hown, hts⟩ (c_M_power1 l D mo wa sa ma cW H.size (10:Int32) (u1 - (1:Int32)) co kd sg ex hi lo lh ll w ho6) ⟨uCB 3 hts k_294 k_257 k_295 (by decide +kernel) rfl rfl ⟨Nat.le_of_ble_eq_true rfl, Nat.le_of_ble_eq_true rfl⟩, hts _ k_296, hts _ k_297⟩ (uPreV (ci := 6) (q0 := 0) hK hP hD hN [0, 1] rfl (by decide) [0] rfl rfl rfl) rfl rfl hl.1 rfl (lv_room (Nat.le_of_ble_eq_true rfl)) d_PatternBookModel_fits_139 ⟨(Nat.le_of_ble_eq_true rfl), (Nat.le_of_ble_eq_true rfl)⟩) hK hP hD hS hA [0, 1] [] rfl rfl (by decide) (by decide) [] rfl (fun u6 H locs hu6 hP hD hK hS => ?_)
          have hP : va_P D classes [(mo, .inr (6, [.int co, .int kd, .int sg, .int ex, .ref wa, .long hi, .long lo, .long lh, .long ll, .ref sa, .ref ma])), (wa, .inl (cW, 12, .inr (.inl u6)))] H := hP
          have hD : va_D A [(mo, .inr (6, [.int co, .int kd, .int sg, .int ex, .ref wa, .long hi, .long lo, .long lh, .long ll, .ref sa, .ref ma])), (wa, .inl (cW, 12, .inr (.inl u6)))] := hD
          have hK : va_K D classes [(cW, .long)] s := hK
          refine W.eq (g2 := F0 m 142 ls []) rfl ?_
          refine lv_aload_n hx hb d_PatternBookModel_fits_142 rfl (lv_at hl 1 rfl) ?_
          refine lv_iconst (v := 0) hx hb d_PatternBookModel_fits_143 (by decide) ?_
          refine lv_iconst (v := 1) hx hb d_PatternBookModel_fits_144 (by decide) ?_
          refine uCall (WR := []) (RT := []) (va_runV (As := [.int (0:Int32), .int (1:Int32)]) (rest := []) ⟨hx, hb, hml, hown, hts⟩ (c_M_isBelow l D mo wa sa ma cW H.size co kd sg ex hi lo lh ll u6) ⟨uCB 2 hts k_298 k_257 k_299 (by decide +kernel) rfl rfl ⟨Nat.le_of_ble_eq_true rfl, Nat.le_of_ble_eq_true rfl⟩, hts _ k_300, hts _ k_301⟩ (uPreV (ci := 6) (q0 := 0) hK hP hD hN [0, 1] rfl (by decide) [0] rfl rfl rfl) rfl rfl hl.1 rfl (lv_room (Nat.le_of_ble_eq_true rfl)) d_PatternBookModel_fits_145 ⟨(Nat.le_of_ble_eq_true rfl), (Nat.le_of_ble_eq_true rfl)⟩) hK hP hD hS hA [0, 1] [] rfl rfl (by decide) (by decide) [] rfl (fun u7 H locs hu7 hP hD hK hS => ?_)
          have hP : va_P D classes [(mo, .inr (6, [.int co, .int kd, .int sg, .int ex, .ref wa, .long hi, .long lo, .long lh, .long ll, .ref sa, .ref ma])), (wa, .inl (cW, 12, .inr (.inl u6)))] H := hP
          have hD : va_D A [(mo, .inr (6, [.int co, .int kd, .int sg, .int ex, .ref wa, .long hi, .long lo, .long lh, .long ll, .ref sa, .ref ma])), (wa, .inl (cW, 12, .inr (.inl u6)))] := hD
          have hK : va_K D classes [(cW, .long)] s := hK
          refine W.eq (g2 := F0 m 148 ls [.int (bI u7)]) rfl ?_
          refine lv_if_eq (tgt := 176) hx hb d_PatternBookModel_fits_148 (by decide) (fun c_8 => ?_) (fun c_8 => ?_)
          · refine lv_iconst (v := 0) hx hb d_PatternBookModel_fits_176 (by decide) ?_
            refine W.zret hx hb hr rfl ?_ hS.2.2 d_PatternBookModel_fits_177
            exact uEnd (false, u6) (hP.sub [0, 1] rfl) (hK.sub [0] rfl) (hD.sub [0, 1] (by decide) rfl) hS (by have eu1 := hu1.symm; subst eu1; have eu6 := hu6.symm; subst eu6; have eu7 := hu7.symm; subst eu7; exact ((if_neg c_2).trans ((if_neg c_3).trans ((if_pos c_4).trans ((if_pos c_5).trans ((if_pos c_8).trans (rfl)))))).symm) rfl
          · refine lv_iload_n hx hb d_PatternBookModel_fits_151 rfl (lv_at hl 2 rfl) ?_
            refine lv_iconst (v := 4) hx hb d_PatternBookModel_fits_152 (by decide) ?_
            refine lv_icmp_ge (tgt := 172) hx hb d_PatternBookModel_fits_153 (by decide) (fun c_9 => ?_) (fun c_9 => ?_)
            · refine lv_iconst (v := 1) hx hb d_PatternBookModel_fits_172 (by decide) ?_
              refine lv_goto (tgt := 177) hx hb d_PatternBookModel_fits_173 (by decide) ?_
              refine W.zret hx hb hr rfl ?_ hS.2.2 d_PatternBookModel_fits_177
              exact uEnd (true, u6) (hP.sub [0, 1] rfl) (hK.sub [0] rfl) (hD.sub [0, 1] (by decide) rfl) hS (by have eu1 := hu1.symm; subst eu1; have eu6 := hu6.symm; subst eu6; have eu7 := hu7.symm; subst eu7; exact ((if_neg c_2).trans ((if_neg c_3).trans ((if_pos c_4).trans ((if_pos c_5).trans ((if_neg c_8).trans ((if_pos c_9).trans (rfl))))))).symm) rfl
            · refine lv_aload_n hx hb d_PatternBookModel_fits_156 rfl (lv_at hl 1 rfl) ?_
              refine va_get (D := D) (ci := 6) (v := .int kd) (C := R_PatternBookModel) (T := F_PatternBookModel) (N := 11) hx hb hts i_PatternBookModel hown hK hP 0 rfl rfl 1 (by decide) (hts _ k_318) (fun _ h9 => h9) rfl d_PatternBookModel_fits_157 ?_
              refine lv_iconst (v := 3) hx hb d_PatternBookModel_fits_160 (by decide) ?_
              refine lv_icmp_ne (tgt := 172) hx hb d_PatternBookModel_fits_161 (by decide) (fun c_10 => ?_) (fun c_10 => ?_)
              · refine lv_iconst (v := 1) hx hb d_PatternBookModel_fits_172 (by decide) ?_
                refine lv_goto (tgt := 177) hx hb d_PatternBookModel_fits_173 (by decide) ?_
                refine W.zret hx hb hr rfl ?_ hS.2.2 d_PatternBookModel_fits_177
                exact uEnd (true, u6) (hP.sub [0, 1] rfl) (hK.sub [0] rfl) (hD.sub [0, 1] (by decide) rfl) hS (by have eu1 := hu1.symm; subst eu1; have eu6 := hu6.symm; subst eu6; have eu7 := hu7.symm; subst eu7; exact ((if_neg c_2).trans ((if_neg c_3).trans ((if_pos c_4).trans ((if_pos c_5).trans ((if_neg c_8).trans ((if_neg c_9).trans ((if_neg c_10).trans (rfl)))))))).symm) rfl
              · refine lv_aload_n hx hb d_PatternBookModel_fits_164 rfl (lv_at hl 1 rfl) ?_
                refine lv_iconst (v := 0) hx hb d_PatternBookModel_fits_165 (by decide) ?_
                refine uCall (WR := []) (RT := []) (va_runV (As := [.int (0:Int32)]) (rest := []) ⟨hx, hb, hml, hown, hts⟩ (c_M_isZero l D mo wa sa ma cW H.size co kd sg ex hi lo lh ll u6) ⟨uCB 1 hts k_314 k_257 k_315 (by decide +kernel) rfl rfl ⟨Nat.le_of_ble_eq_true rfl, Nat.le_of_ble_eq_true rfl⟩, hts _ k_316, hts _ k_317⟩ (uPreV (ci := 6) (q0 := 0) hK hP hD hN [0, 1] rfl (by decide) [0] rfl rfl rfl) rfl rfl hl.1 rfl (lv_room (Nat.le_of_ble_eq_true rfl)) d_PatternBookModel_fits_166 ⟨(Nat.le_of_ble_eq_true rfl), (Nat.le_of_ble_eq_true rfl)⟩) hK hP hD hS hA [0, 1] [] rfl rfl (by decide) (by decide) [] rfl (fun u11 H locs hu11 hP hD hK hS => ?_)
                have hP : va_P D classes [(mo, .inr (6, [.int co, .int kd, .int sg, .int ex, .ref wa, .long hi, .long lo, .long lh, .long ll, .ref sa, .ref ma])), (wa, .inl (cW, 12, .inr (.inl u6)))] H := hP
                have hD : va_D A [(mo, .inr (6, [.int co, .int kd, .int sg, .int ex, .ref wa, .long hi, .long lo, .long lh, .long ll, .ref sa, .ref ma])), (wa, .inl (cW, 12, .inr (.inl u6)))] := hD
                have hK : va_K D classes [(cW, .long)] s := hK
                refine W.eq (g2 := F0 m 169 ls [.int (bI u11)]) rfl ?_
                refine lv_if_ne (tgt := 176) hx hb d_PatternBookModel_fits_169 (by decide) (fun c_12 => ?_) (fun c_12 => ?_)
                · refine lv_iconst (v := 0) hx hb d_PatternBookModel_fits_176 (by decide) ?_
                  refine W.zret hx hb hr rfl ?_ hS.2.2 d_PatternBookModel_fits_177
                  exact uEnd (false, u6) (hP.sub [0, 1] rfl) (hK.sub [0] rfl) (hD.sub [0, 1] (by decide) rfl) hS (by have eu1 := hu1.symm; subst eu1; have eu6 := hu6.symm; subst eu6; have eu7 := hu7.symm; subst eu7; have eu11 := hu11.symm; subst eu11; exact ((if_neg c_2).trans ((if_neg c_3).trans ((if_pos c_4).trans ((if_pos c_5).trans ((if_neg c_8).trans ((if_neg c_9).trans ((if_pos c_10).trans ((if_neg c_12).trans (rfl))))))))).symm) rfl
                · refine lv_iconst (v := 1) hx hb d_PatternBookModel_fits_172 (by decide) ?_
                  refine lv_goto (tgt := 177) hx hb d_PatternBookModel_fits_173 (by decide) ?_
                  refine W.zret hx hb hr rfl ?_ hS.2.2 d_PatternBookModel_fits_177
                  exact uEnd (true, u6) (hP.sub [0, 1] rfl) (hK.sub [0] rfl) (hD.sub [0, 1] (by decide) rfl) hS (by have eu1 := hu1.symm; subst eu1; have eu6 := hu6.symm; subst eu6; have eu7 := hu7.symm; subst eu7; have eu11 := hu11.symm; subst eu11; exact ((if_neg c_2).trans ((if_neg c_3).trans ((if_pos c_4).trans ((if_pos c_5).trans ((if_neg c_8).trans ((if_neg c_9).trans ((if_pos c_10).trans ((if_pos c_12).trans (rfl))))))))).symm) rfl
        · have hk := hk.2
          refine lv_iload_n hx hb d_PatternBookModel_fits_130 rfl (lv_at hl 0 rfl) ?_
          refine lv_iconst (v := 2) hx hb d_PatternBookModel_fits_131 (by decide) ?_
          refine lv_isub hx hb d_PatternBookModel_fits_132 ?_
          refine lv_goto (tgt := 139) hx hb d_PatternBookModel_fits_133 (by decide) ?_
          have ho13 := hk
          refine uCall (WR := []) (RT := []) (va_runV (As := [.int (1:Int32), .int (10:Int32), .int (u1 - (2:Int32))]) (rest := []) ⟨hx, hb, hml, hown, hts⟩ (c_M_power1 l D mo wa sa ma cW H.size (10:Int32) (u1 - (2:Int32)) co kd sg ex hi lo lh ll w ho13) ⟨uCB 3 hts k_294 k_257 k_295 (by decide +kernel) rfl rfl ⟨Nat.le_of_ble_eq_true rfl, Nat.le_of_ble_eq_true rfl⟩, hts _ k_296, hts _ k_297⟩ (uPreV (ci := 6) (q0 := 0) hK hP hD hN [0, 1] rfl (by decide) [0] rfl rfl rfl) rfl rfl hl.1 rfl (lv_room (Nat.le_of_ble_eq_true rfl)) d_PatternBookModel_fits_139 ⟨(Nat.le_of_ble_eq_true rfl), (Nat.le_of_ble_eq_true rfl)⟩) hK hP hD hS hA [0, 1] [] rfl rfl (by decide) (by decide) [] rfl (fun u13 H locs hu13 hP hD hK hS => ?_)
          have hP : va_P D classes [(mo, .inr (6, [.int co, .int kd, .int sg, .int ex, .ref wa, .long hi, .long lo, .long lh, .long ll, .ref sa, .ref ma])), (wa, .inl (cW, 12, .inr (.inl u13)))] H := hP
          have hD : va_D A [(mo, .inr (6, [.int co, .int kd, .int sg, .int ex, .ref wa, .long hi, .long lo, .long lh, .long ll, .ref sa, .ref ma])), (wa, .inl (cW, 12, .inr (.inl u13)))] := hD
          have hK : va_K D classes [(cW, .long)] s := hK
          refine W.eq (g2 := F0 m 142 ls []) rfl ?_
          refine lv_aload_n hx hb d_PatternBookModel_fits_142 rfl (lv_at hl 1 rfl) ?_
          refine lv_iconst (v := 0) hx hb d_PatternBookModel_fits_143 (by decide) ?_
          refine lv_iconst (v := 1) hx hb d_PatternBookModel_fits_144 (by decide) ?_
          refine uCall (WR := []) (RT := []) (va_runV (As := [.int (0:Int32), .int (1:Int32)]) (rest := []) ⟨hx, hb, hml, hown, hts⟩ (c_M_isBelow l D mo wa sa ma cW H.size co kd sg ex hi lo lh ll u13) ⟨uCB 2 hts k_298 k_257 k_299 (by decide +kernel) rfl rfl ⟨Nat.le_of_ble_eq_true rfl, Nat.le_of_ble_eq_true rfl⟩, hts _ k_300, hts _ k_301⟩ (uPreV (ci := 6) (q0 := 0) hK hP hD hN [0, 1] rfl (by decide) [0] rfl rfl rfl) rfl rfl hl.1 rfl (lv_room (Nat.le_of_ble_eq_true rfl)) d_PatternBookModel_fits_145 ⟨(Nat.le_of_ble_eq_true rfl), (Nat.le_of_ble_eq_true rfl)⟩) hK hP hD hS hA [0, 1] [] rfl rfl (by decide) (by decide) [] rfl (fun u14 H locs hu14 hP hD hK hS => ?_)
          have hP : va_P D classes [(mo, .inr (6, [.int co, .int kd, .int sg, .int ex, .ref wa, .long hi, .long lo, .long lh, .long ll, .ref sa, .ref ma])), (wa, .inl (cW, 12, .inr (.inl u13)))] H := hP
          have hD : va_D A [(mo, .inr (6, [.int co, .int kd, .int sg, .int ex, .ref wa, .long hi, .long lo, .long lh, .long ll, .ref sa, .ref ma])), (wa, .inl (cW, 12, .inr (.inl u13)))] := hD
          have hK : va_K D classes [(cW, .long)] s := hK
          refine W.eq (g2 := F0 m 148 ls [.int (bI u14)]) rfl ?_
          refine lv_if_eq (tgt := 176) hx hb d_PatternBookModel_fits_148 (by decide) (fun c_15 => ?_) (fun c_15 => ?_)
          · refine lv_iconst (v := 0) hx hb d_PatternBookModel_fits_176 (by decide) ?_
            refine W.zret hx hb hr rfl ?_ hS.2.2 d_PatternBookModel_fits_177
            exact uEnd (false, u13) (hP.sub [0, 1] rfl) (hK.sub [0] rfl) (hD.sub [0, 1] (by decide) rfl) hS (by have eu1 := hu1.symm; subst eu1; have eu13 := hu13.symm; subst eu13; have eu14 := hu14.symm; subst eu14; exact ((if_neg c_2).trans ((if_neg c_3).trans ((if_pos c_4).trans ((if_neg c_5).trans ((if_pos c_15).trans (rfl)))))).symm) rfl
          · refine lv_iload_n hx hb d_PatternBookModel_fits_151 rfl (lv_at hl 2 rfl) ?_
            refine lv_iconst (v := 4) hx hb d_PatternBookModel_fits_152 (by decide) ?_
            refine lv_icmp_ge (tgt := 172) hx hb d_PatternBookModel_fits_153 (by decide) (fun c_16 => ?_) (fun c_16 => ?_)
            · refine lv_iconst (v := 1) hx hb d_PatternBookModel_fits_172 (by decide) ?_
              refine lv_goto (tgt := 177) hx hb d_PatternBookModel_fits_173 (by decide) ?_
              refine W.zret hx hb hr rfl ?_ hS.2.2 d_PatternBookModel_fits_177
              exact uEnd (true, u13) (hP.sub [0, 1] rfl) (hK.sub [0] rfl) (hD.sub [0, 1] (by decide) rfl) hS (by have eu1 := hu1.symm; subst eu1; have eu13 := hu13.symm; subst eu13; have eu14 := hu14.symm; subst eu14; exact ((if_neg c_2).trans ((if_neg c_3).trans ((if_pos c_4).trans ((if_neg c_5).trans ((if_neg c_15).trans ((if_pos c_16).trans (rfl))))))).symm) rfl
            · refine lv_aload_n hx hb d_PatternBookModel_fits_156 rfl (lv_at hl 1 rfl) ?_
              refine va_get (D := D) (ci := 6) (v := .int kd) (C := R_PatternBookModel) (T := F_PatternBookModel) (N := 11) hx hb hts i_PatternBookModel hown hK hP 0 rfl rfl 1 (by decide) (hts _ k_318) (fun _ h9 => h9) rfl d_PatternBookModel_fits_157 ?_
              refine lv_iconst (v := 3) hx hb d_PatternBookModel_fits_160 (by decide) ?_
              refine lv_icmp_ne (tgt := 172) hx hb d_PatternBookModel_fits_161 (by decide) (fun c_17 => ?_) (fun c_17 => ?_)
              · refine lv_iconst (v := 1) hx hb d_PatternBookModel_fits_172 (by decide) ?_
                refine lv_goto (tgt := 177) hx hb d_PatternBookModel_fits_173 (by decide) ?_
                refine W.zret hx hb hr rfl ?_ hS.2.2 d_PatternBookModel_fits_177
                exact uEnd (true, u13) (hP.sub [0, 1] rfl) (hK.sub [0] rfl) (hD.sub [0, 1] (by decide) rfl) hS (by have eu1 := hu1.symm; subst eu1; have eu13 := hu13.symm; subst eu13; have eu14 := hu14.symm; subst eu14; exact ((if_neg c_2).trans ((if_neg c_3).trans ((if_pos c_4).trans ((if_neg c_5).trans ((if_neg c_15).trans ((if_neg c_16).trans ((if_neg c_17).trans (rfl)))))))).symm) rfl
              · refine lv_aload_n hx hb d_PatternBookModel_fits_164 rfl (lv_at hl 1 rfl) ?_
                refine lv_iconst (v := 0) hx hb d_PatternBookModel_fits_165 (by decide) ?_
                refine uCall (WR := []) (RT := []) (va_runV (As := [.int (0:Int32)]) (rest := []) ⟨hx, hb, hml, hown, hts⟩ (c_M_isZero l D mo wa sa ma cW H.size co kd sg ex hi lo lh ll u13) ⟨uCB 1 hts k_314 k_257 k_315 (by decide +kernel) rfl rfl ⟨Nat.le_of_ble_eq_true rfl, Nat.le_of_ble_eq_true rfl⟩, hts _ k_316, hts _ k_317⟩ (uPreV (ci := 6) (q0 := 0) hK hP hD hN [0, 1] rfl (by decide) [0] rfl rfl rfl) rfl rfl hl.1 rfl (lv_room (Nat.le_of_ble_eq_true rfl)) d_PatternBookModel_fits_166 ⟨(Nat.le_of_ble_eq_true rfl), (Nat.le_of_ble_eq_true rfl)⟩) hK hP hD hS hA [0, 1] [] rfl rfl (by decide) (by decide) [] rfl (fun u18 H locs hu18 hP hD hK hS => ?_)
                have hP : va_P D classes [(mo, .inr (6, [.int co, .int kd, .int sg, .int ex, .ref wa, .long hi, .long lo, .long lh, .long ll, .ref sa, .ref ma])), (wa, .inl (cW, 12, .inr (.inl u13)))] H := hP
                have hD : va_D A [(mo, .inr (6, [.int co, .int kd, .int sg, .int ex, .ref wa, .long hi, .long lo, .long lh, .long ll, .ref sa, .ref ma])), (wa, .inl (cW, 12, .inr (.inl u13)))] := hD
                have hK : va_K D classes [(cW, .long)] s := hK
                refine W.eq (g2 := F0 m 169 ls [.int (bI u18)]) rfl ?_
                refine lv_if_ne (tgt := 176) hx hb d_PatternBookModel_fits_169 (by decide) (fun c_19 => ?_) (fun c_19 => ?_)
                · refine lv_iconst (v := 0) hx hb d_PatternBookModel_fits_176 (by decide) ?_
                  refine W.zret hx hb hr rfl ?_ hS.2.2 d_PatternBookModel_fits_177
                  exact uEnd (false, u13) (hP.sub [0, 1] rfl) (hK.sub [0] rfl) (hD.sub [0, 1] (by decide) rfl) hS (by have eu1 := hu1.symm; subst eu1; have eu13 := hu13.symm; subst eu13; have eu14 := hu14.symm; subst eu14; have eu18 := hu18.symm; subst eu18; exact ((if_neg c_2).trans ((if_neg c_3).trans ((if_pos c_4).trans ((if_neg c_5).trans ((if_neg c_15).trans ((if_neg c_16).trans ((if_pos c_17).trans ((if_neg c_19).trans (rfl))))))))).symm) rfl
                · refine lv_iconst (v := 1) hx hb d_PatternBookModel_fits_172 (by decide) ?_
                  refine lv_goto (tgt := 177) hx hb d_PatternBookModel_fits_173 (by decide) ?_
                  refine W.zret hx hb hr rfl ?_ hS.2.2 d_PatternBookModel_fits_177
                  exact uEnd (true, u13) (hP.sub [0, 1] rfl) (hK.sub [0] rfl) (hD.sub [0, 1] (by decide) rfl) hS (by have eu1 := hu1.symm; subst eu1; have eu13 := hu13.symm; subst eu13; have eu14 := hu14.symm; subst eu14; have eu18 := hu18.symm; subst eu18; exact ((if_neg c_2).trans ((if_neg c_3).trans ((if_pos c_4).trans ((if_neg c_5).trans ((if_neg c_15).trans ((if_neg c_16).trans ((if_pos c_17).trans ((if_pos c_19).trans (rfl))))))))).symm) rfl
      · refine lv_iconst (v := 2) hx hb d_PatternBookModel_fits_119 (by decide) ?_
        refine lv_goto (tgt := 125) hx hb d_PatternBookModel_fits_120 (by decide) ?_
        refine lv_iload_n hx hb d_PatternBookModel_fits_125 rfl (lv_at hl 2 rfl) ?_
        refine lv_iconst (v := 4) hx hb d_PatternBookModel_fits_126 (by decide) ?_
        refine lv_icmp_ge (tgt := 136) hx hb d_PatternBookModel_fits_127 (by decide) (fun c_20 => ?_) (fun c_20 => ?_)
        · have hk := hk.1
          refine lv_iload_n hx hb d_PatternBookModel_fits_136 rfl (lv_at hl 0 rfl) ?_
          refine lv_iconst (v := 1) hx hb d_PatternBookModel_fits_137 (by decide) ?_
          refine lv_isub hx hb d_PatternBookModel_fits_138 ?_
          have ho21 := hk
          refine uCall (WR := []) (RT := []) (va_runV (As := [.int (1:Int32), .int (2:Int32), .int (u1 - (1:Int32))]) (rest := []) ⟨hx, hb, hml, hown, hts⟩ (c_M_power1 l D mo wa sa ma cW H.size (2:Int32) (u1 - (1:Int32)) co kd sg ex hi lo lh ll w ho21) ⟨uCB 3 hts k_294 k_257 k_295 (by decide +kernel) rfl rfl ⟨Nat.le_of_ble_eq_true rfl, Nat.le_of_ble_eq_true rfl⟩, hts _ k_296, hts _ k_297⟩ (uPreV (ci := 6) (q0 := 0) hK hP hD hN [0, 1] rfl (by decide) [0] rfl rfl rfl) rfl rfl hl.1 rfl (lv_room (Nat.le_of_ble_eq_true rfl)) d_PatternBookModel_fits_139 ⟨(Nat.le_of_ble_eq_true rfl), (Nat.le_of_ble_eq_true rfl)⟩) hK hP hD hS hA [0, 1] [] rfl rfl (by decide) (by decide) [] rfl (fun u21 H locs hu21 hP hD hK hS => ?_)
          have hP : va_P D classes [(mo, .inr (6, [.int co, .int kd, .int sg, .int ex, .ref wa, .long hi, .long lo, .long lh, .long ll, .ref sa, .ref ma])), (wa, .inl (cW, 12, .inr (.inl u21)))] H := hP
          have hD : va_D A [(mo, .inr (6, [.int co, .int kd, .int sg, .int ex, .ref wa, .long hi, .long lo, .long lh, .long ll, .ref sa, .ref ma])), (wa, .inl (cW, 12, .inr (.inl u21)))] := hD
          have hK : va_K D classes [(cW, .long)] s := hK
          refine W.eq (g2 := F0 m 142 ls []) rfl ?_
          refine lv_aload_n hx hb d_PatternBookModel_fits_142 rfl (lv_at hl 1 rfl) ?_
          refine lv_iconst (v := 0) hx hb d_PatternBookModel_fits_143 (by decide) ?_
          refine lv_iconst (v := 1) hx hb d_PatternBookModel_fits_144 (by decide) ?_
          refine uCall (WR := []) (RT := []) (va_runV (As := [.int (0:Int32), .int (1:Int32)]) (rest := []) ⟨hx, hb, hml, hown, hts⟩ (c_M_isBelow l D mo wa sa ma cW H.size co kd sg ex hi lo lh ll u21) ⟨uCB 2 hts k_298 k_257 k_299 (by decide +kernel) rfl rfl ⟨Nat.le_of_ble_eq_true rfl, Nat.le_of_ble_eq_true rfl⟩, hts _ k_300, hts _ k_301⟩ (uPreV (ci := 6) (q0 := 0) hK hP hD hN [0, 1] rfl (by decide) [0] rfl rfl rfl) rfl rfl hl.1 rfl (lv_room (Nat.le_of_ble_eq_true rfl)) d_PatternBookModel_fits_145 ⟨(Nat.le_of_ble_eq_true rfl), (Nat.le_of_ble_eq_true rfl)⟩) hK hP hD hS hA [0, 1] [] rfl rfl (by decide) (by decide) [] rfl (fun u22 H locs hu22 hP hD hK hS => ?_)
          have hP : va_P D classes [(mo, .inr (6, [.int co, .int kd, .int sg, .int ex, .ref wa, .long hi, .long lo, .long lh, .long ll, .ref sa, .ref ma])), (wa, .inl (cW, 12, .inr (.inl u21)))] H := hP
          have hD : va_D A [(mo, .inr (6, [.int co, .int kd, .int sg, .int ex, .ref wa, .long hi, .long lo, .long lh, .long ll, .ref sa, .ref ma])), (wa, .inl (cW, 12, .inr (.inl u21)))] := hD
          have hK : va_K D classes [(cW, .long)] s := hK
          refine W.eq (g2 := F0 m 148 ls [.int (bI u22)]) rfl ?_
          refine lv_if_eq (tgt := 176) hx hb d_PatternBookModel_fits_148 (by decide) (fun c_23 => ?_) (fun c_23 => ?_)
          · refine lv_iconst (v := 0) hx hb d_PatternBookModel_fits_176 (by decide) ?_
            refine W.zret hx hb hr rfl ?_ hS.2.2 d_PatternBookModel_fits_177
            exact uEnd (false, u21) (hP.sub [0, 1] rfl) (hK.sub [0] rfl) (hD.sub [0, 1] (by decide) rfl) hS (by have eu1 := hu1.symm; subst eu1; have eu21 := hu21.symm; subst eu21; have eu22 := hu22.symm; subst eu22; exact ((if_neg c_2).trans ((if_neg c_3).trans ((if_neg c_4).trans ((if_pos c_20).trans ((if_pos c_23).trans (rfl)))))).symm) rfl
          · refine lv_iload_n hx hb d_PatternBookModel_fits_151 rfl (lv_at hl 2 rfl) ?_
            refine lv_iconst (v := 4) hx hb d_PatternBookModel_fits_152 (by decide) ?_
            refine lv_icmp_ge (tgt := 172) hx hb d_PatternBookModel_fits_153 (by decide) (fun c_24 => ?_) (fun c_24 => ?_)
            · refine lv_iconst (v := 1) hx hb d_PatternBookModel_fits_172 (by decide) ?_
              refine lv_goto (tgt := 177) hx hb d_PatternBookModel_fits_173 (by decide) ?_
              refine W.zret hx hb hr rfl ?_ hS.2.2 d_PatternBookModel_fits_177
              exact uEnd (true, u21) (hP.sub [0, 1] rfl) (hK.sub [0] rfl) (hD.sub [0, 1] (by decide) rfl) hS (by have eu1 := hu1.symm; subst eu1; have eu21 := hu21.symm; subst eu21; have eu22 := hu22.symm; subst eu22; exact ((if_neg c_2).trans ((if_neg c_3).trans ((if_neg c_4).trans ((if_pos c_20).trans ((if_neg c_23).trans ((if_pos c_24).trans (rfl))))))).symm) rfl
            · refine lv_aload_n hx hb d_PatternBookModel_fits_156 rfl (lv_at hl 1 rfl) ?_
              refine va_get (D := D) (ci := 6) (v := .int kd) (C := R_PatternBookModel) (T := F_PatternBookModel) (N := 11) hx hb hts i_PatternBookModel hown hK hP 0 rfl rfl 1 (by decide) (hts _ k_318) (fun _ h9 => h9) rfl d_PatternBookModel_fits_157 ?_
              refine lv_iconst (v := 3) hx hb d_PatternBookModel_fits_160 (by decide) ?_
              refine lv_icmp_ne (tgt := 172) hx hb d_PatternBookModel_fits_161 (by decide) (fun c_25 => ?_) (fun c_25 => ?_)
              · refine lv_iconst (v := 1) hx hb d_PatternBookModel_fits_172 (by decide) ?_
                refine lv_goto (tgt := 177) hx hb d_PatternBookModel_fits_173 (by decide) ?_
                refine W.zret hx hb hr rfl ?_ hS.2.2 d_PatternBookModel_fits_177
                exact uEnd (true, u21) (hP.sub [0, 1] rfl) (hK.sub [0] rfl) (hD.sub [0, 1] (by decide) rfl) hS (by have eu1 := hu1.symm; subst eu1; have eu21 := hu21.symm; subst eu21; have eu22 := hu22.symm; subst eu22; exact ((if_neg c_2).trans ((if_neg c_3).trans ((if_neg c_4).trans ((if_pos c_20).trans ((if_neg c_23).trans ((if_neg c_24).trans ((if_neg c_25).trans (rfl)))))))).symm) rfl
              · refine lv_aload_n hx hb d_PatternBookModel_fits_164 rfl (lv_at hl 1 rfl) ?_
                refine lv_iconst (v := 0) hx hb d_PatternBookModel_fits_165 (by decide) ?_
                refine uCall (WR := []) (RT := []) (va_runV (As := [.int (0:Int32)]) (rest := []) ⟨hx, hb, hml, hown, hts⟩ (c_M_isZero l D mo wa sa ma cW H.size co kd sg ex hi lo lh ll u21) ⟨uCB 1 hts k_314 k_257 k_315 (by decide +kernel) rfl rfl ⟨Nat.le_of_ble_eq_true rfl, Nat.le_of_ble_eq_true rfl⟩, hts _ k_316, hts _ k_317⟩ (uPreV (ci := 6) (q0 := 0) hK hP hD hN [0, 1] rfl (by decide) [0] rfl rfl rfl) rfl rfl hl.1 rfl (lv_room (Nat.le_of_ble_eq_true rfl)) d_PatternBookModel_fits_166 ⟨(Nat.le_of_ble_eq_true rfl), (Nat.le_of_ble_eq_true rfl)⟩) hK hP hD hS hA [0, 1] [] rfl rfl (by decide) (by decide) [] rfl (fun u26 H locs hu26 hP hD hK hS => ?_)
                have hP : va_P D classes [(mo, .inr (6, [.int co, .int kd, .int sg, .int ex, .ref wa, .long hi, .long lo, .long lh, .long ll, .ref sa, .ref ma])), (wa, .inl (cW, 12, .inr (.inl u21)))] H := hP
                have hD : va_D A [(mo, .inr (6, [.int co, .int kd, .int sg, .int ex, .ref wa, .long hi, .long lo, .long lh, .long ll, .ref sa, .ref ma])), (wa, .inl (cW, 12, .inr (.inl u21)))] := hD
                have hK : va_K D classes [(cW, .long)] s := hK
                refine W.eq (g2 := F0 m 169 ls [.int (bI u26)]) rfl ?_
                refine lv_if_ne (tgt := 176) hx hb d_PatternBookModel_fits_169 (by decide) (fun c_27 => ?_) (fun c_27 => ?_)
                · refine lv_iconst (v := 0) hx hb d_PatternBookModel_fits_176 (by decide) ?_
                  refine W.zret hx hb hr rfl ?_ hS.2.2 d_PatternBookModel_fits_177
                  exact uEnd (false, u21) (hP.sub [0, 1] rfl) (hK.sub [0] rfl) (hD.sub [0, 1] (by decide) rfl) hS (by have eu1 := hu1.symm; subst eu1; have eu21 := hu21.symm; subst eu21; have eu22 := hu22.symm; subst eu22; have eu26 := hu26.symm; subst eu26; exact ((if_neg c_2).trans ((if_neg c_3).trans ((if_neg c_4).trans ((if_pos c_20).trans ((if_neg c_23).trans ((if_neg c_24).trans ((if_pos c_25).trans ((if_neg c_27).trans (rfl))))))))).symm) rfl
                · refine lv_iconst (v := 1) hx hb d_PatternBookModel_fits_172 (by decide) ?_
                  refine lv_goto (tgt := 177) hx hb d_PatternBookModel_fits_173 (by decide) ?_
                  refine W.zret hx hb hr rfl ?_ hS.2.2 d_PatternBookModel_fits_177
                  exact uEnd (true, u21) (hP.sub [0, 1] rfl) (hK.sub [0] rfl) (hD.sub [0, 1] (by decide) rfl) hS (by have eu1 := hu1.symm; subst eu1; have eu21 := hu21.symm; subst eu21; have eu22 := hu22.symm; subst eu22; have eu26 := hu26.symm; subst eu26; exact ((if_neg c_2).trans ((if_neg c_3).trans ((if_neg c_4).trans ((if_pos c_20).trans ((if_neg c_23).trans ((if_neg c_24).trans ((if_pos c_25).trans ((if_pos c_27).trans (rfl))))))))).symm) rfl
        · have hk := hk.2
          refine lv_iload_n hx hb d_PatternBookModel_fits_130 rfl (lv_at hl 0 rfl) ?_
          refine lv_iconst (v := 2) hx hb d_PatternBookModel_fits_131 (by decide) ?_
          refine lv_isub hx hb d_PatternBookModel_fits_132 ?_
          refine lv_goto (tgt := 139) hx hb d_PatternBookModel_fits_133 (by decide) ?_
          have ho28 := hk
          refine uCall (WR := []) (RT := []) (va_runV (As := [.int (1:Int32), .int (2:Int32), .int (u1 - (2:Int32))]) (rest := []) ⟨hx, hb, hml, hown, hts⟩ (c_M_power1 l D mo wa sa ma cW H.size (2:Int32) (u1 - (2:Int32)) co kd sg ex hi lo lh ll w ho28) ⟨uCB 3 hts k_294 k_257 k_295 (by decide +kernel) rfl rfl ⟨Nat.le_of_ble_eq_true rfl, Nat.le_of_ble_eq_true rfl⟩, hts _ k_296, hts _ k_297⟩ (uPreV (ci := 6) (q0 := 0) hK hP hD hN [0, 1] rfl (by decide) [0] rfl rfl rfl) rfl rfl hl.1 rfl (lv_room (Nat.le_of_ble_eq_true rfl)) d_PatternBookModel_fits_139 ⟨(Nat.le_of_ble_eq_true rfl), (Nat.le_of_ble_eq_true rfl)⟩) hK hP hD hS hA [0, 1] [] rfl rfl (by decide) (by decide) [] rfl (fun u28 H locs hu28 hP hD hK hS => ?_)
          have hP : va_P D classes [(mo, .inr (6, [.int co, .int kd, .int sg, .int ex, .ref wa, .long hi, .long lo, .long lh, .long ll, .ref sa, .ref ma])), (wa, .inl (cW, 12, .inr (.inl u28)))] H := hP
          have hD : va_D A [(mo, .inr (6, [.int co, .int kd, .int sg, .int ex, .ref wa, .long hi, .long lo, .long lh, .long ll, .ref sa, .ref ma])), (wa, .inl (cW, 12, .inr (.inl u28)))] := hD
          have hK : va_K D classes [(cW, .long)] s := hK
          refine W.eq (g2 := F0 m 142 ls []) rfl ?_
          refine lv_aload_n hx hb d_PatternBookModel_fits_142 rfl (lv_at hl 1 rfl) ?_
          refine lv_iconst (v := 0) hx hb d_PatternBookModel_fits_143 (by decide) ?_
          refine lv_iconst (v := 1) hx hb d_PatternBookModel_fits_144 (by decide) ?_
          refine uCall (WR := []) (RT := []) (va_runV (As := [.int (0:Int32), .int (1:Int32)]) (rest := []) ⟨hx, hb, hml, hown, hts⟩ (c_M_isBelow l D mo wa sa ma cW H.size co kd sg ex hi lo lh ll u28) ⟨uCB 2 hts k_298 k_257 k_299 (by decide +kernel) rfl rfl ⟨Nat.le_of_ble_eq_true rfl, Nat.le_of_ble_eq_true rfl⟩, hts _ k_300, hts _ k_301⟩ (uPreV (ci := 6) (q0 := 0) hK hP hD hN [0, 1] rfl (by decide) [0] rfl rfl rfl) rfl rfl hl.1 rfl (lv_room (Nat.le_of_ble_eq_true rfl)) d_PatternBookModel_fits_145 ⟨(Nat.le_of_ble_eq_true rfl), (Nat.le_of_ble_eq_true rfl)⟩) hK hP hD hS hA [0, 1] [] rfl rfl (by decide) (by decide) [] rfl (fun u29 H locs hu29 hP hD hK hS => ?_)
          have hP : va_P D classes [(mo, .inr (6, [.int co, .int kd, .int sg, .int ex, .ref wa, .long hi, .long lo, .long lh, .long ll, .ref sa, .ref ma])), (wa, .inl (cW, 12, .inr (.inl u28)))] H := hP
          have hD : va_D A [(mo, .inr (6, [.int co, .int kd, .int sg, .int ex, .ref wa, .long hi, .long lo, .long lh, .long ll, .ref sa, .ref ma])), (wa, .inl (cW, 12, .inr (.inl u28)))] := hD
          have hK : va_K D classes [(cW, .long)] s := hK
          refine W.eq (g2 := F0 m 148 ls [.int (bI u29)]) rfl ?_
          refine lv_if_eq (tgt := 176) hx hb d_PatternBookModel_fits_148 (by decide) (fun c_30 => ?_) (fun c_30 => ?_)
          · refine lv_iconst (v := 0) hx hb d_PatternBookModel_fits_176 (by decide) ?_
            refine W.zret hx hb hr rfl ?_ hS.2.2 d_PatternBookModel_fits_177
            exact uEnd (false, u28) (hP.sub [0, 1] rfl) (hK.sub [0] rfl) (hD.sub [0, 1] (by decide) rfl) hS (by have eu1 := hu1.symm; subst eu1; have eu28 := hu28.symm; subst eu28; have eu29 := hu29.symm; subst eu29; exact ((if_neg c_2).trans ((if_neg c_3).trans ((if_neg c_4).trans ((if_neg c_20).trans ((if_pos c_30).trans (rfl)))))).symm) rfl
          · refine lv_iload_n hx hb d_PatternBookModel_fits_151 rfl (lv_at hl 2 rfl) ?_
            refine lv_iconst (v := 4) hx hb d_PatternBookModel_fits_152 (by decide) ?_
            refine lv_icmp_ge (tgt := 172) hx hb d_PatternBookModel_fits_153 (by decide) (fun c_31 => ?_) (fun c_31 => ?_)
            · refine lv_iconst (v := 1) hx hb d_PatternBookModel_fits_172 (by decide) ?_
              refine lv_goto (tgt := 177) hx hb d_PatternBookModel_fits_173 (by decide) ?_
              refine W.zret hx hb hr rfl ?_ hS.2.2 d_PatternBookModel_fits_177
              exact uEnd (true, u28) (hP.sub [0, 1] rfl) (hK.sub [0] rfl) (hD.sub [0, 1] (by decide) rfl) hS (by have eu1 := hu1.symm; subst eu1; have eu28 := hu28.symm; subst eu28; have eu29 := hu29.symm; subst eu29; exact ((if_neg c_2).trans ((if_neg c_3).trans ((if_neg c_4).trans ((if_neg c_20).trans ((if_neg c_30).trans ((if_pos c_31).trans (rfl))))))).symm) rfl
            · refine lv_aload_n hx hb d_PatternBookModel_fits_156 rfl (lv_at hl 1 rfl) ?_
              refine va_get (D := D) (ci := 6) (v := .int kd) (C := R_PatternBookModel) (T := F_PatternBookModel) (N := 11) hx hb hts i_PatternBookModel hown hK hP 0 rfl rfl 1 (by decide) (hts _ k_318) (fun _ h9 => h9) rfl d_PatternBookModel_fits_157 ?_
              refine lv_iconst (v := 3) hx hb d_PatternBookModel_fits_160 (by decide) ?_
              refine lv_icmp_ne (tgt := 172) hx hb d_PatternBookModel_fits_161 (by decide) (fun c_32 => ?_) (fun c_32 => ?_)
              · refine lv_iconst (v := 1) hx hb d_PatternBookModel_fits_172 (by decide) ?_
                refine lv_goto (tgt := 177) hx hb d_PatternBookModel_fits_173 (by decide) ?_
                refine W.zret hx hb hr rfl ?_ hS.2.2 d_PatternBookModel_fits_177
                exact uEnd (true, u28) (hP.sub [0, 1] rfl) (hK.sub [0] rfl) (hD.sub [0, 1] (by decide) rfl) hS (by have eu1 := hu1.symm; subst eu1; have eu28 := hu28.symm; subst eu28; have eu29 := hu29.symm; subst eu29; exact ((if_neg c_2).trans ((if_neg c_3).trans ((if_neg c_4).trans ((if_neg c_20).trans ((if_neg c_30).trans ((if_neg c_31).trans ((if_neg c_32).trans (rfl)))))))).symm) rfl
              · refine lv_aload_n hx hb d_PatternBookModel_fits_164 rfl (lv_at hl 1 rfl) ?_
                refine lv_iconst (v := 0) hx hb d_PatternBookModel_fits_165 (by decide) ?_
                refine uCall (WR := []) (RT := []) (va_runV (As := [.int (0:Int32)]) (rest := []) ⟨hx, hb, hml, hown, hts⟩ (c_M_isZero l D mo wa sa ma cW H.size co kd sg ex hi lo lh ll u28) ⟨uCB 1 hts k_314 k_257 k_315 (by decide +kernel) rfl rfl ⟨Nat.le_of_ble_eq_true rfl, Nat.le_of_ble_eq_true rfl⟩, hts _ k_316, hts _ k_317⟩ (uPreV (ci := 6) (q0 := 0) hK hP hD hN [0, 1] rfl (by decide) [0] rfl rfl rfl) rfl rfl hl.1 rfl (lv_room (Nat.le_of_ble_eq_true rfl)) d_PatternBookModel_fits_166 ⟨(Nat.le_of_ble_eq_true rfl), (Nat.le_of_ble_eq_true rfl)⟩) hK hP hD hS hA [0, 1] [] rfl rfl (by decide) (by decide) [] rfl (fun u33 H locs hu33 hP hD hK hS => ?_)
                have hP : va_P D classes [(mo, .inr (6, [.int co, .int kd, .int sg, .int ex, .ref wa, .long hi, .long lo, .long lh, .long ll, .ref sa, .ref ma])), (wa, .inl (cW, 12, .inr (.inl u28)))] H := hP
                have hD : va_D A [(mo, .inr (6, [.int co, .int kd, .int sg, .int ex, .ref wa, .long hi, .long lo, .long lh, .long ll, .ref sa, .ref ma])), (wa, .inl (cW, 12, .inr (.inl u28)))] := hD
                have hK : va_K D classes [(cW, .long)] s := hK
                refine W.eq (g2 := F0 m 169 ls [.int (bI u33)]) rfl ?_
                refine lv_if_ne (tgt := 176) hx hb d_PatternBookModel_fits_169 (by decide) (fun c_34 => ?_) (fun c_34 => ?_)
                · refine lv_iconst (v := 0) hx hb d_PatternBookModel_fits_176 (by decide) ?_
                  refine W.zret hx hb hr rfl ?_ hS.2.2 d_PatternBookModel_fits_177
                  exact uEnd (false, u28) (hP.sub [0, 1] rfl) (hK.sub [0] rfl) (hD.sub [0, 1] (by decide) rfl) hS (by have eu1 := hu1.symm; subst eu1; have eu28 := hu28.symm; subst eu28; have eu29 := hu29.symm; subst eu29; have eu33 := hu33.symm; subst eu33; exact ((if_neg c_2).trans ((if_neg c_3).trans ((if_neg c_4).trans ((if_neg c_20).trans ((if_neg c_30).trans ((if_neg c_31).trans ((if_pos c_32).trans ((if_neg c_34).trans (rfl))))))))).symm) rfl
                · refine lv_iconst (v := 1) hx hb d_PatternBookModel_fits_172 (by decide) ?_
                  refine lv_goto (tgt := 177) hx hb d_PatternBookModel_fits_173 (by decide) ?_
                  refine W.zret hx hb hr rfl ?_ hS.2.2 d_PatternBookModel_fits_177
                  exact uEnd (true, u28) (hP.sub [0, 1] rfl) (hK.sub [0] rfl) (hD.sub [0, 1] (by decide) rfl) hS (by have eu1 := hu1.symm; subst eu1; have eu28 := hu28.symm; subst eu28; have eu29 := hu29.symm; subst eu29; have eu33 := hu33.symm; subst eu33; exact ((if_neg c_2).trans ((if_neg c_3).trans ((if_neg c_4).trans ((if_neg c_20).trans ((if_neg c_30).trans ((if_neg c_31).trans ((if_pos c_32).trans ((if_pos c_34).trans (rfl))))))))).symm) rfl
    · have hk := hk.1
      refine lv_aload_n hx hb d_PatternBookModel_fits_22 rfl (lv_at hl 1 rfl) ?_
      refine lv_iconst (v := 1) hx hb d_PatternBookModel_fits_23 (by decide) ?_
      refine lv_iload_n hx hb d_PatternBookModel_fits_24 rfl (lv_at hl 2 rfl) ?_
      refine lv_iconst (v := 4) hx hb d_PatternBookModel_fits_25 (by decide) ?_
      refine lv_icmp_ge (tgt := 33) hx hb d_PatternBookModel_fits_26 (by decide) (fun c_35 => ?_) (fun c_35 => ?_)
      · refine lv_bipush (v := 10) hx hb d_PatternBookModel_fits_33 (by decide) ?_
        refine lv_iload_n hx hb d_PatternBookModel_fits_35 rfl (lv_at hl 0 rfl) ?_
        have ho36 := hk.1
        have hk := hk.2
        refine uCall (WR := []) (RT := []) (va_runV (As := [.int (1:Int32), .int (10:Int32), .int u1]) (rest := []) ⟨hx, hb, hml, hown, hts⟩ (c_M_power1 l D mo wa sa ma cW H.size (10:Int32) u1 co kd sg ex hi lo lh ll w ho36) ⟨uCB 3 hts k_294 k_257 k_295 (by decide +kernel) rfl rfl ⟨Nat.le_of_ble_eq_true rfl, Nat.le_of_ble_eq_true rfl⟩, hts _ k_296, hts _ k_297⟩ (uPreV (ci := 6) (q0 := 0) hK hP hD hN [0, 1] rfl (by decide) [0] rfl rfl rfl) rfl rfl hl.1 rfl (lv_room (Nat.le_of_ble_eq_true rfl)) d_PatternBookModel_fits_36 ⟨(Nat.le_of_ble_eq_true rfl), (Nat.le_of_ble_eq_true rfl)⟩) hK hP hD hS hA [0, 1] [] rfl rfl (by decide) (by decide) [] rfl (fun u36 H locs hu36 hP hD hK hS => ?_)
        have hP : va_P D classes [(mo, .inr (6, [.int co, .int kd, .int sg, .int ex, .ref wa, .long hi, .long lo, .long lh, .long ll, .ref sa, .ref ma])), (wa, .inl (cW, 12, .inr (.inl u36)))] H := hP
        have hD : va_D A [(mo, .inr (6, [.int co, .int kd, .int sg, .int ex, .ref wa, .long hi, .long lo, .long lh, .long ll, .ref sa, .ref ma])), (wa, .inl (cW, 12, .inr (.inl u36)))] := hD
        have hK : va_K D classes [(cW, .long)] s := hK
        refine W.eq (g2 := F0 m 39 ls []) rfl ?_
        refine lv_aload_n hx hb d_PatternBookModel_fits_39 rfl (lv_at hl 1 rfl) ?_
        refine lv_iconst (v := 0) hx hb d_PatternBookModel_fits_40 (by decide) ?_
        refine lv_iconst (v := 1) hx hb d_PatternBookModel_fits_41 (by decide) ?_
        refine uCall (WR := []) (RT := []) (va_runV (As := [.int (0:Int32), .int (1:Int32)]) (rest := []) ⟨hx, hb, hml, hown, hts⟩ (c_M_isBelow l D mo wa sa ma cW H.size co kd sg ex hi lo lh ll u36) ⟨uCB 2 hts k_298 k_257 k_299 (by decide +kernel) rfl rfl ⟨Nat.le_of_ble_eq_true rfl, Nat.le_of_ble_eq_true rfl⟩, hts _ k_300, hts _ k_301⟩ (uPreV (ci := 6) (q0 := 0) hK hP hD hN [0, 1] rfl (by decide) [0] rfl rfl rfl) rfl rfl hl.1 rfl (lv_room (Nat.le_of_ble_eq_true rfl)) d_PatternBookModel_fits_42 ⟨(Nat.le_of_ble_eq_true rfl), (Nat.le_of_ble_eq_true rfl)⟩) hK hP hD hS hA [0, 1] [] rfl rfl (by decide) (by decide) [] rfl (fun u37 H locs hu37 hP hD hK hS => ?_)
        have hP : va_P D classes [(mo, .inr (6, [.int co, .int kd, .int sg, .int ex, .ref wa, .long hi, .long lo, .long lh, .long ll, .ref sa, .ref ma])), (wa, .inl (cW, 12, .inr (.inl u36)))] H := hP
        have hD : va_D A [(mo, .inr (6, [.int co, .int kd, .int sg, .int ex, .ref wa, .long hi, .long lo, .long lh, .long ll, .ref sa, .ref ma])), (wa, .inl (cW, 12, .inr (.inl u36)))] := hD
        have hK : va_K D classes [(cW, .long)] s := hK
        refine W.eq (g2 := F0 m 45 ls [.int (bI u37)]) rfl ?_
        refine lv_if_eq (tgt := 70) hx hb d_PatternBookModel_fits_45 (by decide) (fun c_38 => ?_) (fun c_38 => ?_)
        · refine lv_iconst (v := 0) hx hb d_PatternBookModel_fits_70 (by decide) ?_
          refine W.zret hx hb hr rfl ?_ hS.2.2 d_PatternBookModel_fits_71
          exact uEnd (false, u36) (hP.sub [0, 1] rfl) (hK.sub [0] rfl) (hD.sub [0, 1] (by decide) rfl) hS (by have eu1 := hu1.symm; subst eu1; have eu36 := hu36.symm; subst eu36; have eu37 := hu37.symm; subst eu37; exact ((if_neg c_2).trans ((if_pos c_3).trans ((if_pos c_35).trans ((if_pos c_38).trans (rfl))))).symm) rfl
        · refine lv_aload_n hx hb d_PatternBookModel_fits_48 rfl (lv_at hl 1 rfl) ?_
          refine va_get (D := D) (ci := 6) (v := .int ex) (C := R_PatternBookModel) (T := F_PatternBookModel) (N := 11) hx hb hts i_PatternBookModel hown hK hP 0 rfl rfl 3 (by decide) (hts _ k_313) (fun _ h9 => h9) rfl d_PatternBookModel_fits_49 ?_
          refine lv_iload_n hx hb d_PatternBookModel_fits_52 rfl (lv_at hl 2 rfl) ?_
          refine uCall (WR := [(mo, .inr (6, [.int co, .int kd, .int sg, .int ex, .ref wa, .long hi, .long lo, .long lh, .long ll, .ref sa, .ref ma])), (wa, .inl (cW, 12, .inr (.inl u36)))]) (RT := [(cW, .long)]) (va_runS (As := [.int x]) (rest := [.int ex]) ⟨hx, hb, hml, hown, hts⟩ (c_M_least l D H.size x) ⟨uCB 1 hts k_310 k_257 k_311 (by decide +kernel) rfl rfl ⟨Nat.le_of_ble_eq_true rfl, Nat.le_of_ble_eq_true rfl⟩, hts _ k_312⟩ (uPreS hK hP hD hN [] rfl (by decide) [] rfl) rfl rfl hl.1 rfl (lv_room (Nat.le_of_ble_eq_true rfl)) d_PatternBookModel_fits_53 ⟨(Nat.le_of_ble_eq_true rfl), (Nat.le_of_ble_eq_true rfl)⟩) hK hP hD hS hA [] [0, 1] rfl rfl (by decide) (by decide) [0] rfl (fun u39 H locs hu39 hP hD hK hS => ?_)
          have hP : va_P D classes [(mo, .inr (6, [.int co, .int kd, .int sg, .int ex, .ref wa, .long hi, .long lo, .long lh, .long ll, .ref sa, .ref ma])), (wa, .inl (cW, 12, .inr (.inl u36)))] H := hP
          have hD : va_D A [(mo, .inr (6, [.int co, .int kd, .int sg, .int ex, .ref wa, .long hi, .long lo, .long lh, .long ll, .ref sa, .ref ma])), (wa, .inl (cW, 12, .inr (.inl u36)))] := hD
          have hK : va_K D classes [(cW, .long)] s := hK
          refine W.eq (g2 := F0 m 56 ls [.int u39, .int ex]) rfl ?_
          refine lv_icmp_lt (tgt := 70) hx hb d_PatternBookModel_fits_56 (by decide) (fun c_40 => ?_) (fun c_40 => ?_)
          · refine lv_iconst (v := 0) hx hb d_PatternBookModel_fits_70 (by decide) ?_
            refine W.zret hx hb hr rfl ?_ hS.2.2 d_PatternBookModel_fits_71
            exact uEnd (false, u36) (hP.sub [0, 1] rfl) (hK.sub [0] rfl) (hD.sub [0, 1] (by decide) rfl) hS (by have eu1 := hu1.symm; subst eu1; have eu36 := hu36.symm; subst eu36; have eu37 := hu37.symm; subst eu37; have eu39 := hu39.symm; subst eu39; exact ((if_neg c_2).trans ((if_pos c_3).trans ((if_pos c_35).trans ((if_neg c_38).trans ((if_pos c_40).trans (rfl)))))).symm) rfl
          · refine lv_aload_n hx hb d_PatternBookModel_fits_59 rfl (lv_at hl 1 rfl) ?_
            refine va_get (D := D) (ci := 6) (v := .int ex) (C := R_PatternBookModel) (T := F_PatternBookModel) (N := 11) hx hb hts i_PatternBookModel hown hK hP 0 rfl rfl 3 (by decide) (hts _ k_313) (fun _ h9 => h9) rfl d_PatternBookModel_fits_60 ?_
            refine lv_iload_n hx hb d_PatternBookModel_fits_63 rfl (lv_at hl 2 rfl) ?_
            refine uCall (WR := [(mo, .inr (6, [.int co, .int kd, .int sg, .int ex, .ref wa, .long hi, .long lo, .long lh, .long ll, .ref sa, .ref ma])), (wa, .inl (cW, 12, .inr (.inl u36)))]) (RT := [(cW, .long)]) (va_runS (As := [.int x]) (rest := [.int ex]) ⟨hx, hb, hml, hown, hts⟩ (c_M_greatest l D H.size x) ⟨uCB 1 hts k_340 k_257 k_341 (by decide +kernel) rfl rfl ⟨Nat.le_of_ble_eq_true rfl, Nat.le_of_ble_eq_true rfl⟩, hts _ k_342⟩ (uPreS hK hP hD hN [] rfl (by decide) [] rfl) rfl rfl hl.1 rfl (lv_room (Nat.le_of_ble_eq_true rfl)) d_PatternBookModel_fits_64 ⟨(Nat.le_of_ble_eq_true rfl), (Nat.le_of_ble_eq_true rfl)⟩) hK hP hD hS hA [] [0, 1] rfl rfl (by decide) (by decide) [0] rfl (fun u41 H locs hu41 hP hD hK hS => ?_)
            have hP : va_P D classes [(mo, .inr (6, [.int co, .int kd, .int sg, .int ex, .ref wa, .long hi, .long lo, .long lh, .long ll, .ref sa, .ref ma])), (wa, .inl (cW, 12, .inr (.inl u36)))] H := hP
            have hD : va_D A [(mo, .inr (6, [.int co, .int kd, .int sg, .int ex, .ref wa, .long hi, .long lo, .long lh, .long ll, .ref sa, .ref ma])), (wa, .inl (cW, 12, .inr (.inl u36)))] := hD
            have hK : va_K D classes [(cW, .long)] s := hK
            refine W.eq (g2 := F0 m 67 ls [.int u41, .int ex]) rfl ?_
            refine lv_icmp_le (tgt := 72) hx hb d_PatternBookModel_fits_67 (by decide) (fun c_42 => ?_) (fun c_42 => ?_)
            · refine lv_aload_n hx hb d_PatternBookModel_fits_72 rfl (lv_at hl 1 rfl) ?_
              refine lv_iconst (v := 1) hx hb d_PatternBookModel_fits_73 (by decide) ?_
              refine lv_iconst (v := 2) hx hb d_PatternBookModel_fits_74 (by decide) ?_
              refine lv_iload_n hx hb d_PatternBookModel_fits_75 rfl (lv_at hl 0 rfl) ?_
              refine lv_iconst (v := 1) hx hb d_PatternBookModel_fits_76 (by decide) ?_
              refine lv_isub hx hb d_PatternBookModel_fits_77 ?_
              have ho43 := hk
              refine uCall (WR := []) (RT := []) (va_runV (As := [.int (1:Int32), .int (2:Int32), .int (u1 - (1:Int32))]) (rest := []) ⟨hx, hb, hml, hown, hts⟩ (c_M_power1 l D mo wa sa ma cW H.size (2:Int32) (u1 - (1:Int32)) co kd sg ex hi lo lh ll u36 ho43) ⟨uCB 3 hts k_294 k_257 k_295 (by decide +kernel) rfl rfl ⟨Nat.le_of_ble_eq_true rfl, Nat.le_of_ble_eq_true rfl⟩, hts _ k_296, hts _ k_297⟩ (uPreV (ci := 6) (q0 := 0) hK hP hD hN [0, 1] rfl (by decide) [0] rfl rfl rfl) rfl rfl hl.1 rfl (lv_room (Nat.le_of_ble_eq_true rfl)) d_PatternBookModel_fits_78 ⟨(Nat.le_of_ble_eq_true rfl), (Nat.le_of_ble_eq_true rfl)⟩) hK hP hD hS hA [0, 1] [] rfl rfl (by decide) (by decide) [] rfl (fun u43 H locs hu43 hP hD hK hS => ?_)
              have hP : va_P D classes [(mo, .inr (6, [.int co, .int kd, .int sg, .int ex, .ref wa, .long hi, .long lo, .long lh, .long ll, .ref sa, .ref ma])), (wa, .inl (cW, 12, .inr (.inl u43)))] H := hP
              have hD : va_D A [(mo, .inr (6, [.int co, .int kd, .int sg, .int ex, .ref wa, .long hi, .long lo, .long lh, .long ll, .ref sa, .ref ma])), (wa, .inl (cW, 12, .inr (.inl u43)))] := hD
              have hK : va_K D classes [(cW, .long)] s := hK
              refine W.eq (g2 := F0 m 81 ls []) rfl ?_
              refine lv_iload_n hx hb d_PatternBookModel_fits_81 rfl (lv_at hl 2 rfl) ?_
              refine lv_iconst (v := 3) hx hb d_PatternBookModel_fits_82 (by decide) ?_
              refine lv_icmp_gt (tgt := 106) hx hb d_PatternBookModel_fits_83 (by decide) (fun c_44 => ?_) (fun c_44 => ?_)
              · refine lv_iconst (v := 1) hx hb d_PatternBookModel_fits_106 (by decide) ?_
                refine lv_goto (tgt := 111) hx hb d_PatternBookModel_fits_107 (by decide) ?_
                refine W.zret hx hb hr rfl ?_ hS.2.2 d_PatternBookModel_fits_111
                exact uEnd (true, u43) (hP.sub [0, 1] rfl) (hK.sub [0] rfl) (hD.sub [0, 1] (by decide) rfl) hS (by have eu1 := hu1.symm; subst eu1; have eu36 := hu36.symm; subst eu36; have eu37 := hu37.symm; subst eu37; have eu39 := hu39.symm; subst eu39; have eu41 := hu41.symm; subst eu41; have eu43 := hu43.symm; subst eu43; exact ((if_neg c_2).trans ((if_pos c_3).trans ((if_pos c_35).trans ((if_neg c_38).trans ((if_neg c_40).trans ((if_pos c_42).trans ((if_pos c_44).trans (rfl)))))))).symm) rfl
              · refine lv_aload_n hx hb d_PatternBookModel_fits_86 rfl (lv_at hl 1 rfl) ?_
                refine va_get (D := D) (ci := 6) (v := .int ex) (C := R_PatternBookModel) (T := F_PatternBookModel) (N := 11) hx hb hts i_PatternBookModel hown hK hP 0 rfl rfl 3 (by decide) (hts _ k_313) (fun _ h9 => h9) rfl d_PatternBookModel_fits_87 ?_
                refine lv_iload_n hx hb d_PatternBookModel_fits_90 rfl (lv_at hl 2 rfl) ?_
                refine uCall (WR := [(mo, .inr (6, [.int co, .int kd, .int sg, .int ex, .ref wa, .long hi, .long lo, .long lh, .long ll, .ref sa, .ref ma])), (wa, .inl (cW, 12, .inr (.inl u43)))]) (RT := [(cW, .long)]) (va_runS (As := [.int x]) (rest := [.int ex]) ⟨hx, hb, hml, hown, hts⟩ (c_M_least l D H.size x) ⟨uCB 1 hts k_310 k_257 k_311 (by decide +kernel) rfl rfl ⟨Nat.le_of_ble_eq_true rfl, Nat.le_of_ble_eq_true rfl⟩, hts _ k_312⟩ (uPreS hK hP hD hN [] rfl (by decide) [] rfl) rfl rfl hl.1 rfl (lv_room (Nat.le_of_ble_eq_true rfl)) d_PatternBookModel_fits_91 ⟨(Nat.le_of_ble_eq_true rfl), (Nat.le_of_ble_eq_true rfl)⟩) hK hP hD hS hA [] [0, 1] rfl rfl (by decide) (by decide) [0] rfl (fun u45 H locs hu45 hP hD hK hS => ?_)
                have hP : va_P D classes [(mo, .inr (6, [.int co, .int kd, .int sg, .int ex, .ref wa, .long hi, .long lo, .long lh, .long ll, .ref sa, .ref ma])), (wa, .inl (cW, 12, .inr (.inl u43)))] H := hP
                have hD : va_D A [(mo, .inr (6, [.int co, .int kd, .int sg, .int ex, .ref wa, .long hi, .long lo, .long lh, .long ll, .ref sa, .ref ma])), (wa, .inl (cW, 12, .inr (.inl u43)))] := hD
                have hK : va_K D classes [(cW, .long)] s := hK
                refine W.eq (g2 := F0 m 94 ls [.int u45, .int ex]) rfl ?_
                refine lv_icmp_eq (tgt := 106) hx hb d_PatternBookModel_fits_94 (by decide) (fun c_46 => ?_) (fun c_46 => ?_)
                · refine lv_iconst (v := 1) hx hb d_PatternBookModel_fits_106 (by decide) ?_
                  refine lv_goto (tgt := 111) hx hb d_PatternBookModel_fits_107 (by decide) ?_
                  refine W.zret hx hb hr rfl ?_ hS.2.2 d_PatternBookModel_fits_111
                  exact uEnd (true, u43) (hP.sub [0, 1] rfl) (hK.sub [0] rfl) (hD.sub [0, 1] (by decide) rfl) hS (by have eu1 := hu1.symm; subst eu1; have eu36 := hu36.symm; subst eu36; have eu37 := hu37.symm; subst eu37; have eu39 := hu39.symm; subst eu39; have eu41 := hu41.symm; subst eu41; have eu43 := hu43.symm; subst eu43; have eu45 := hu45.symm; subst eu45; exact ((if_neg c_2).trans ((if_pos c_3).trans ((if_pos c_35).trans ((if_neg c_38).trans ((if_neg c_40).trans ((if_pos c_42).trans ((if_neg c_44).trans ((if_pos c_46).trans (rfl))))))))).symm) rfl
                · refine lv_aload_n hx hb d_PatternBookModel_fits_97 rfl (lv_at hl 1 rfl) ?_
                  refine lv_iconst (v := 0) hx hb d_PatternBookModel_fits_98 (by decide) ?_
                  refine lv_iconst (v := 1) hx hb d_PatternBookModel_fits_99 (by decide) ?_
                  refine uCall (WR := []) (RT := []) (va_runV (As := [.int (0:Int32), .int (1:Int32)]) (rest := []) ⟨hx, hb, hml, hown, hts⟩ (c_M_isBelow l D mo wa sa ma cW H.size co kd sg ex hi lo lh ll u43) ⟨uCB 2 hts k_298 k_257 k_299 (by decide +kernel) rfl rfl ⟨Nat.le_of_ble_eq_true rfl, Nat.le_of_ble_eq_true rfl⟩, hts _ k_300, hts _ k_301⟩ (uPreV (ci := 6) (q0 := 0) hK hP hD hN [0, 1] rfl (by decide) [0] rfl rfl rfl) rfl rfl hl.1 rfl (lv_room (Nat.le_of_ble_eq_true rfl)) d_PatternBookModel_fits_100 ⟨(Nat.le_of_ble_eq_true rfl), (Nat.le_of_ble_eq_true rfl)⟩) hK hP hD hS hA [0, 1] [] rfl rfl (by decide) (by decide) [] rfl (fun u47 H locs hu47 hP hD hK hS => ?_)
                  have hP : va_P D classes [(mo, .inr (6, [.int co, .int kd, .int sg, .int ex, .ref wa, .long hi, .long lo, .long lh, .long ll, .ref sa, .ref ma])), (wa, .inl (cW, 12, .inr (.inl u43)))] H := hP
                  have hD : va_D A [(mo, .inr (6, [.int co, .int kd, .int sg, .int ex, .ref wa, .long hi, .long lo, .long lh, .long ll, .ref sa, .ref ma])), (wa, .inl (cW, 12, .inr (.inl u43)))] := hD
                  have hK : va_K D classes [(cW, .long)] s := hK
                  refine W.eq (g2 := F0 m 103 ls [.int (bI u47)]) rfl ?_
                  refine lv_if_ne (tgt := 110) hx hb d_PatternBookModel_fits_103 (by decide) (fun c_48 => ?_) (fun c_48 => ?_)
                  · refine lv_iconst (v := 0) hx hb d_PatternBookModel_fits_110 (by decide) ?_
                    refine W.zret hx hb hr rfl ?_ hS.2.2 d_PatternBookModel_fits_111
                    exact uEnd (false, u43) (hP.sub [0, 1] rfl) (hK.sub [0] rfl) (hD.sub [0, 1] (by decide) rfl) hS (by have eu1 := hu1.symm; subst eu1; have eu36 := hu36.symm; subst eu36; have eu37 := hu37.symm; subst eu37; have eu39 := hu39.symm; subst eu39; have eu41 := hu41.symm; subst eu41; have eu43 := hu43.symm; subst eu43; have eu45 := hu45.symm; subst eu45; have eu47 := hu47.symm; subst eu47; exact ((if_neg c_2).trans ((if_pos c_3).trans ((if_pos c_35).trans ((if_neg c_38).trans ((if_neg c_40).trans ((if_pos c_42).trans ((if_neg c_44).trans ((if_neg c_46).trans ((if_neg c_48).trans (rfl)))))))))).symm) rfl
                  · refine lv_iconst (v := 1) hx hb d_PatternBookModel_fits_106 (by decide) ?_
                    refine lv_goto (tgt := 111) hx hb d_PatternBookModel_fits_107 (by decide) ?_
                    refine W.zret hx hb hr rfl ?_ hS.2.2 d_PatternBookModel_fits_111
                    exact uEnd (true, u43) (hP.sub [0, 1] rfl) (hK.sub [0] rfl) (hD.sub [0, 1] (by decide) rfl) hS (by have eu1 := hu1.symm; subst eu1; have eu36 := hu36.symm; subst eu36; have eu37 := hu37.symm; subst eu37; have eu39 := hu39.symm; subst eu39; have eu41 := hu41.symm; subst eu41; have eu43 := hu43.symm; subst eu43; have eu45 := hu45.symm; subst eu45; have eu47 := hu47.symm; subst eu47; exact ((if_neg c_2).trans ((if_pos c_3).trans ((if_pos c_35).trans ((if_neg c_38).trans ((if_neg c_40).trans ((if_pos c_42).trans ((if_neg c_44).trans ((if_neg c_46).trans ((if_pos c_48).trans (rfl)))))))))).symm) rfl
            · refine lv_iconst (v := 0) hx hb d_PatternBookModel_fits_70 (by decide) ?_
              refine W.zret hx hb hr rfl ?_ hS.2.2 d_PatternBookModel_fits_71
              exact uEnd (false, u36) (hP.sub [0, 1] rfl) (hK.sub [0] rfl) (hD.sub [0, 1] (by decide) rfl) hS (by have eu1 := hu1.symm; subst eu1; have eu36 := hu36.symm; subst eu36; have eu37 := hu37.symm; subst eu37; have eu39 := hu39.symm; subst eu39; have eu41 := hu41.symm; subst eu41; exact ((if_neg c_2).trans ((if_pos c_3).trans ((if_pos c_35).trans ((if_neg c_38).trans ((if_neg c_40).trans ((if_neg c_42).trans (rfl))))))).symm) rfl
      · refine lv_iconst (v := 2) hx hb d_PatternBookModel_fits_29 (by decide) ?_
        refine lv_goto (tgt := 35) hx hb d_PatternBookModel_fits_30 (by decide) ?_
        refine lv_iload_n hx hb d_PatternBookModel_fits_35 rfl (lv_at hl 0 rfl) ?_
        have ho49 := hk.1
        have hk := hk.2
        refine uCall (WR := []) (RT := []) (va_runV (As := [.int (1:Int32), .int (2:Int32), .int u1]) (rest := []) ⟨hx, hb, hml, hown, hts⟩ (c_M_power1 l D mo wa sa ma cW H.size (2:Int32) u1 co kd sg ex hi lo lh ll w ho49) ⟨uCB 3 hts k_294 k_257 k_295 (by decide +kernel) rfl rfl ⟨Nat.le_of_ble_eq_true rfl, Nat.le_of_ble_eq_true rfl⟩, hts _ k_296, hts _ k_297⟩ (uPreV (ci := 6) (q0 := 0) hK hP hD hN [0, 1] rfl (by decide) [0] rfl rfl rfl) rfl rfl hl.1 rfl (lv_room (Nat.le_of_ble_eq_true rfl)) d_PatternBookModel_fits_36 ⟨(Nat.le_of_ble_eq_true rfl), (Nat.le_of_ble_eq_true rfl)⟩) hK hP hD hS hA [0, 1] [] rfl rfl (by decide) (by decide) [] rfl (fun u49 H locs hu49 hP hD hK hS => ?_)
        have hP : va_P D classes [(mo, .inr (6, [.int co, .int kd, .int sg, .int ex, .ref wa, .long hi, .long lo, .long lh, .long ll, .ref sa, .ref ma])), (wa, .inl (cW, 12, .inr (.inl u49)))] H := hP
        have hD : va_D A [(mo, .inr (6, [.int co, .int kd, .int sg, .int ex, .ref wa, .long hi, .long lo, .long lh, .long ll, .ref sa, .ref ma])), (wa, .inl (cW, 12, .inr (.inl u49)))] := hD
        have hK : va_K D classes [(cW, .long)] s := hK
        refine W.eq (g2 := F0 m 39 ls []) rfl ?_
        refine lv_aload_n hx hb d_PatternBookModel_fits_39 rfl (lv_at hl 1 rfl) ?_
        refine lv_iconst (v := 0) hx hb d_PatternBookModel_fits_40 (by decide) ?_
        refine lv_iconst (v := 1) hx hb d_PatternBookModel_fits_41 (by decide) ?_
        refine uCall (WR := []) (RT := []) (va_runV (As := [.int (0:Int32), .int (1:Int32)]) (rest := []) ⟨hx, hb, hml, hown, hts⟩ (c_M_isBelow l D mo wa sa ma cW H.size co kd sg ex hi lo lh ll u49) ⟨uCB 2 hts k_298 k_257 k_299 (by decide +kernel) rfl rfl ⟨Nat.le_of_ble_eq_true rfl, Nat.le_of_ble_eq_true rfl⟩, hts _ k_300, hts _ k_301⟩ (uPreV (ci := 6) (q0 := 0) hK hP hD hN [0, 1] rfl (by decide) [0] rfl rfl rfl) rfl rfl hl.1 rfl (lv_room (Nat.le_of_ble_eq_true rfl)) d_PatternBookModel_fits_42 ⟨(Nat.le_of_ble_eq_true rfl), (Nat.le_of_ble_eq_true rfl)⟩) hK hP hD hS hA [0, 1] [] rfl rfl (by decide) (by decide) [] rfl (fun u50 H locs hu50 hP hD hK hS => ?_)
        have hP : va_P D classes [(mo, .inr (6, [.int co, .int kd, .int sg, .int ex, .ref wa, .long hi, .long lo, .long lh, .long ll, .ref sa, .ref ma])), (wa, .inl (cW, 12, .inr (.inl u49)))] H := hP
        have hD : va_D A [(mo, .inr (6, [.int co, .int kd, .int sg, .int ex, .ref wa, .long hi, .long lo, .long lh, .long ll, .ref sa, .ref ma])), (wa, .inl (cW, 12, .inr (.inl u49)))] := hD
        have hK : va_K D classes [(cW, .long)] s := hK
        refine W.eq (g2 := F0 m 45 ls [.int (bI u50)]) rfl ?_
        refine lv_if_eq (tgt := 70) hx hb d_PatternBookModel_fits_45 (by decide) (fun c_51 => ?_) (fun c_51 => ?_)
        · refine lv_iconst (v := 0) hx hb d_PatternBookModel_fits_70 (by decide) ?_
          refine W.zret hx hb hr rfl ?_ hS.2.2 d_PatternBookModel_fits_71
          exact uEnd (false, u49) (hP.sub [0, 1] rfl) (hK.sub [0] rfl) (hD.sub [0, 1] (by decide) rfl) hS (by have eu1 := hu1.symm; subst eu1; have eu49 := hu49.symm; subst eu49; have eu50 := hu50.symm; subst eu50; exact ((if_neg c_2).trans ((if_pos c_3).trans ((if_neg c_35).trans ((if_pos c_51).trans (rfl))))).symm) rfl
        · refine lv_aload_n hx hb d_PatternBookModel_fits_48 rfl (lv_at hl 1 rfl) ?_
          refine va_get (D := D) (ci := 6) (v := .int ex) (C := R_PatternBookModel) (T := F_PatternBookModel) (N := 11) hx hb hts i_PatternBookModel hown hK hP 0 rfl rfl 3 (by decide) (hts _ k_313) (fun _ h9 => h9) rfl d_PatternBookModel_fits_49 ?_
          refine lv_iload_n hx hb d_PatternBookModel_fits_52 rfl (lv_at hl 2 rfl) ?_
          refine uCall (WR := [(mo, .inr (6, [.int co, .int kd, .int sg, .int ex, .ref wa, .long hi, .long lo, .long lh, .long ll, .ref sa, .ref ma])), (wa, .inl (cW, 12, .inr (.inl u49)))]) (RT := [(cW, .long)]) (va_runS (As := [.int x]) (rest := [.int ex]) ⟨hx, hb, hml, hown, hts⟩ (c_M_least l D H.size x) ⟨uCB 1 hts k_310 k_257 k_311 (by decide +kernel) rfl rfl ⟨Nat.le_of_ble_eq_true rfl, Nat.le_of_ble_eq_true rfl⟩, hts _ k_312⟩ (uPreS hK hP hD hN [] rfl (by decide) [] rfl) rfl rfl hl.1 rfl (lv_room (Nat.le_of_ble_eq_true rfl)) d_PatternBookModel_fits_53 ⟨(Nat.le_of_ble_eq_true rfl), (Nat.le_of_ble_eq_true rfl)⟩) hK hP hD hS hA [] [0, 1] rfl rfl (by decide) (by decide) [0] rfl (fun u52 H locs hu52 hP hD hK hS => ?_)
          have hP : va_P D classes [(mo, .inr (6, [.int co, .int kd, .int sg, .int ex, .ref wa, .long hi, .long lo, .long lh, .long ll, .ref sa, .ref ma])), (wa, .inl (cW, 12, .inr (.inl u49)))] H := hP
          have hD : va_D A [(mo, .inr (6, [.int co, .int kd, .int sg, .int ex, .ref wa, .long hi, .long lo, .long lh, .long ll, .ref sa, .ref ma])), (wa, .inl (cW, 12, .inr (.inl u49)))] := hD
          have hK : va_K D classes [(cW, .long)] s := hK
          refine W.eq (g2 := F0 m 56 ls [.int u52, .int ex]) rfl ?_
          refine lv_icmp_lt (tgt := 70) hx hb d_PatternBookModel_fits_56 (by decide) (fun c_53 => ?_) (fun c_53 => ?_)
          · refine lv_iconst (v := 0) hx hb d_PatternBookModel_fits_70 (by decide) ?_
            refine W.zret hx hb hr rfl ?_ hS.2.2 d_PatternBookModel_fits_71
            exact uEnd (false, u49) (hP.sub [0, 1] rfl) (hK.sub [0] rfl) (hD.sub [0, 1] (by decide) rfl) hS (by have eu1 := hu1.symm; subst eu1; have eu49 := hu49.symm; subst eu49; have eu50 := hu50.symm; subst eu50; have eu52 := hu52.symm; subst eu52; exact ((if_neg c_2).trans ((if_pos c_3).trans ((if_neg c_35).trans ((if_neg c_51).trans ((if_pos c_53).trans (rfl)))))).symm) rfl
          · refine lv_aload_n hx hb d_PatternBookModel_fits_59 rfl (lv_at hl 1 rfl) ?_
            refine va_get (D := D) (ci := 6) (v := .int ex) (C := R_PatternBookModel) (T := F_PatternBookModel) (N := 11) hx hb hts i_PatternBookModel hown hK hP 0 rfl rfl 3 (by decide) (hts _ k_313) (fun _ h9 => h9) rfl d_PatternBookModel_fits_60 ?_
            refine lv_iload_n hx hb d_PatternBookModel_fits_63 rfl (lv_at hl 2 rfl) ?_
            refine uCall (WR := [(mo, .inr (6, [.int co, .int kd, .int sg, .int ex, .ref wa, .long hi, .long lo, .long lh, .long ll, .ref sa, .ref ma])), (wa, .inl (cW, 12, .inr (.inl u49)))]) (RT := [(cW, .long)]) (va_runS (As := [.int x]) (rest := [.int ex]) ⟨hx, hb, hml, hown, hts⟩ (c_M_greatest l D H.size x) ⟨uCB 1 hts k_340 k_257 k_341 (by decide +kernel) rfl rfl ⟨Nat.le_of_ble_eq_true rfl, Nat.le_of_ble_eq_true rfl⟩, hts _ k_342⟩ (uPreS hK hP hD hN [] rfl (by decide) [] rfl) rfl rfl hl.1 rfl (lv_room (Nat.le_of_ble_eq_true rfl)) d_PatternBookModel_fits_64 ⟨(Nat.le_of_ble_eq_true rfl), (Nat.le_of_ble_eq_true rfl)⟩) hK hP hD hS hA [] [0, 1] rfl rfl (by decide) (by decide) [0] rfl (fun u54 H locs hu54 hP hD hK hS => ?_)
            have hP : va_P D classes [(mo, .inr (6, [.int co, .int kd, .int sg, .int ex, .ref wa, .long hi, .long lo, .long lh, .long ll, .ref sa, .ref ma])), (wa, .inl (cW, 12, .inr (.inl u49)))] H := hP
            have hD : va_D A [(mo, .inr (6, [.int co, .int kd, .int sg, .int ex, .ref wa, .long hi, .long lo, .long lh, .long ll, .ref sa, .ref ma])), (wa, .inl (cW, 12, .inr (.inl u49)))] := hD
            have hK : va_K D classes [(cW, .long)] s := hK
            refine W.eq (g2 := F0 m 67 ls [.int u54, .int ex]) rfl ?_
            refine lv_icmp_le (tgt := 72) hx hb d_PatternBookModel_fits_67 (by decide) (fun c_55 => ?_) (fun c_55 => ?_)
            · refine lv_aload_n hx hb d_PatternBookModel_fits_72 rfl (lv_at hl 1 rfl) ?_
              refine lv_iconst (v := 1) hx hb d_PatternBookModel_fits_73 (by decide) ?_
              refine lv_iconst (v := 2) hx hb d_PatternBookModel_fits_74 (by decide) ?_
              refine lv_iload_n hx hb d_PatternBookModel_fits_75 rfl (lv_at hl 0 rfl) ?_
              refine lv_iconst (v := 1) hx hb d_PatternBookModel_fits_76 (by decide) ?_
              refine lv_isub hx hb d_PatternBookModel_fits_77 ?_
              have ho56 := hk
              refine uCall (WR := []) (RT := []) (va_runV (As := [.int (1:Int32), .int (2:Int32), .int (u1 - (1:Int32))]) (rest := []) ⟨hx, hb, hml, hown, hts⟩ (c_M_power1 l D mo wa sa ma cW H.size (2:Int32) (u1 - (1:Int32)) co kd sg ex hi lo lh ll u49 ho56) ⟨uCB 3 hts k_294 k_257 k_295 (by decide +kernel) rfl rfl ⟨Nat.le_of_ble_eq_true rfl, Nat.le_of_ble_eq_true rfl⟩, hts _ k_296, hts _ k_297⟩ (uPreV (ci := 6) (q0 := 0) hK hP hD hN [0, 1] rfl (by decide) [0] rfl rfl rfl) rfl rfl hl.1 rfl (lv_room (Nat.le_of_ble_eq_true rfl)) d_PatternBookModel_fits_78 ⟨(Nat.le_of_ble_eq_true rfl), (Nat.le_of_ble_eq_true rfl)⟩) hK hP hD hS hA [0, 1] [] rfl rfl (by decide) (by decide) [] rfl (fun u56 H locs hu56 hP hD hK hS => ?_)
              have hP : va_P D classes [(mo, .inr (6, [.int co, .int kd, .int sg, .int ex, .ref wa, .long hi, .long lo, .long lh, .long ll, .ref sa, .ref ma])), (wa, .inl (cW, 12, .inr (.inl u56)))] H := hP
              have hD : va_D A [(mo, .inr (6, [.int co, .int kd, .int sg, .int ex, .ref wa, .long hi, .long lo, .long lh, .long ll, .ref sa, .ref ma])), (wa, .inl (cW, 12, .inr (.inl u56)))] := hD
              have hK : va_K D classes [(cW, .long)] s := hK
              refine W.eq (g2 := F0 m 81 ls []) rfl ?_
              refine lv_iload_n hx hb d_PatternBookModel_fits_81 rfl (lv_at hl 2 rfl) ?_
              refine lv_iconst (v := 3) hx hb d_PatternBookModel_fits_82 (by decide) ?_
              refine lv_icmp_gt (tgt := 106) hx hb d_PatternBookModel_fits_83 (by decide) (fun c_57 => ?_) (fun c_57 => ?_)
              · refine lv_iconst (v := 1) hx hb d_PatternBookModel_fits_106 (by decide) ?_
                refine lv_goto (tgt := 111) hx hb d_PatternBookModel_fits_107 (by decide) ?_
                refine W.zret hx hb hr rfl ?_ hS.2.2 d_PatternBookModel_fits_111
                exact uEnd (true, u56) (hP.sub [0, 1] rfl) (hK.sub [0] rfl) (hD.sub [0, 1] (by decide) rfl) hS (by have eu1 := hu1.symm; subst eu1; have eu49 := hu49.symm; subst eu49; have eu50 := hu50.symm; subst eu50; have eu52 := hu52.symm; subst eu52; have eu54 := hu54.symm; subst eu54; have eu56 := hu56.symm; subst eu56; exact ((if_neg c_2).trans ((if_pos c_3).trans ((if_neg c_35).trans ((if_neg c_51).trans ((if_neg c_53).trans ((if_pos c_55).trans ((if_pos c_57).trans (rfl)))))))).symm) rfl
              · refine lv_aload_n hx hb d_PatternBookModel_fits_86 rfl (lv_at hl 1 rfl) ?_
                refine va_get (D := D) (ci := 6) (v := .int ex) (C := R_PatternBookModel) (T := F_PatternBookModel) (N := 11) hx hb hts i_PatternBookModel hown hK hP 0 rfl rfl 3 (by decide) (hts _ k_313) (fun _ h9 => h9) rfl d_PatternBookModel_fits_87 ?_
                refine lv_iload_n hx hb d_PatternBookModel_fits_90 rfl (lv_at hl 2 rfl) ?_
                refine uCall (WR := [(mo, .inr (6, [.int co, .int kd, .int sg, .int ex, .ref wa, .long hi, .long lo, .long lh, .long ll, .ref sa, .ref ma])), (wa, .inl (cW, 12, .inr (.inl u56)))]) (RT := [(cW, .long)]) (va_runS (As := [.int x]) (rest := [.int ex]) ⟨hx, hb, hml, hown, hts⟩ (c_M_least l D H.size x) ⟨uCB 1 hts k_310 k_257 k_311 (by decide +kernel) rfl rfl ⟨Nat.le_of_ble_eq_true rfl, Nat.le_of_ble_eq_true rfl⟩, hts _ k_312⟩ (uPreS hK hP hD hN [] rfl (by decide) [] rfl) rfl rfl hl.1 rfl (lv_room (Nat.le_of_ble_eq_true rfl)) d_PatternBookModel_fits_91 ⟨(Nat.le_of_ble_eq_true rfl), (Nat.le_of_ble_eq_true rfl)⟩) hK hP hD hS hA [] [0, 1] rfl rfl (by decide) (by decide) [0] rfl (fun u58 H locs hu58 hP hD hK hS => ?_)
                have hP : va_P D classes [(mo, .inr (6, [.int co, .int kd, .int sg, .int ex, .ref wa, .long hi, .long lo, .long lh, .long ll, .ref sa, .ref ma])), (wa, .inl (cW, 12, .inr (.inl u56)))] H := hP
                have hD : va_D A [(mo, .inr (6, [.int co, .int kd, .int sg, .int ex, .ref wa, .long hi, .long lo, .long lh, .long ll, .ref sa, .ref ma])), (wa, .inl (cW, 12, .inr (.inl u56)))] := hD
                have hK : va_K D classes [(cW, .long)] s := hK
                refine W.eq (g2 := F0 m 94 ls [.int u58, .int ex]) rfl ?_
                refine lv_icmp_eq (tgt := 106) hx hb d_PatternBookModel_fits_94 (by decide) (fun c_59 => ?_) (fun c_59 => ?_)
                · refine lv_iconst (v := 1) hx hb d_PatternBookModel_fits_106 (by decide) ?_
                  refine lv_goto (tgt := 111) hx hb d_PatternBookModel_fits_107 (by decide) ?_
                  refine W.zret hx hb hr rfl ?_ hS.2.2 d_PatternBookModel_fits_111
                  exact uEnd (true, u56) (hP.sub [0, 1] rfl) (hK.sub [0] rfl) (hD.sub [0, 1] (by decide) rfl) hS (by have eu1 := hu1.symm; subst eu1; have eu49 := hu49.symm; subst eu49; have eu50 := hu50.symm; subst eu50; have eu52 := hu52.symm; subst eu52; have eu54 := hu54.symm; subst eu54; have eu56 := hu56.symm; subst eu56; have eu58 := hu58.symm; subst eu58; exact ((if_neg c_2).trans ((if_pos c_3).trans ((if_neg c_35).trans ((if_neg c_51).trans ((if_neg c_53).trans ((if_pos c_55).trans ((if_neg c_57).trans ((if_pos c_59).trans (rfl))))))))).symm) rfl
                · refine lv_aload_n hx hb d_PatternBookModel_fits_97 rfl (lv_at hl 1 rfl) ?_
                  refine lv_iconst (v := 0) hx hb d_PatternBookModel_fits_98 (by decide) ?_
                  refine lv_iconst (v := 1) hx hb d_PatternBookModel_fits_99 (by decide) ?_
                  refine uCall (WR := []) (RT := []) (va_runV (As := [.int (0:Int32), .int (1:Int32)]) (rest := []) ⟨hx, hb, hml, hown, hts⟩ (c_M_isBelow l D mo wa sa ma cW H.size co kd sg ex hi lo lh ll u56) ⟨uCB 2 hts k_298 k_257 k_299 (by decide +kernel) rfl rfl ⟨Nat.le_of_ble_eq_true rfl, Nat.le_of_ble_eq_true rfl⟩, hts _ k_300, hts _ k_301⟩ (uPreV (ci := 6) (q0 := 0) hK hP hD hN [0, 1] rfl (by decide) [0] rfl rfl rfl) rfl rfl hl.1 rfl (lv_room (Nat.le_of_ble_eq_true rfl)) d_PatternBookModel_fits_100 ⟨(Nat.le_of_ble_eq_true rfl), (Nat.le_of_ble_eq_true rfl)⟩) hK hP hD hS hA [0, 1] [] rfl rfl (by decide) (by decide) [] rfl (fun u60 H locs hu60 hP hD hK hS => ?_)
                  have hP : va_P D classes [(mo, .inr (6, [.int co, .int kd, .int sg, .int ex, .ref wa, .long hi, .long lo, .long lh, .long ll, .ref sa, .ref ma])), (wa, .inl (cW, 12, .inr (.inl u56)))] H := hP
                  have hD : va_D A [(mo, .inr (6, [.int co, .int kd, .int sg, .int ex, .ref wa, .long hi, .long lo, .long lh, .long ll, .ref sa, .ref ma])), (wa, .inl (cW, 12, .inr (.inl u56)))] := hD
                  have hK : va_K D classes [(cW, .long)] s := hK
                  refine W.eq (g2 := F0 m 103 ls [.int (bI u60)]) rfl ?_
                  refine lv_if_ne (tgt := 110) hx hb d_PatternBookModel_fits_103 (by decide) (fun c_61 => ?_) (fun c_61 => ?_)
                  · refine lv_iconst (v := 0) hx hb d_PatternBookModel_fits_110 (by decide) ?_
                    refine W.zret hx hb hr rfl ?_ hS.2.2 d_PatternBookModel_fits_111
                    exact uEnd (false, u56) (hP.sub [0, 1] rfl) (hK.sub [0] rfl) (hD.sub [0, 1] (by decide) rfl) hS (by have eu1 := hu1.symm; subst eu1; have eu49 := hu49.symm; subst eu49; have eu50 := hu50.symm; subst eu50; have eu52 := hu52.symm; subst eu52; have eu54 := hu54.symm; subst eu54; have eu56 := hu56.symm; subst eu56; have eu58 := hu58.symm; subst eu58; have eu60 := hu60.symm; subst eu60; exact ((if_neg c_2).trans ((if_pos c_3).trans ((if_neg c_35).trans ((if_neg c_51).trans ((if_neg c_53).trans ((if_pos c_55).trans ((if_neg c_57).trans ((if_neg c_59).trans ((if_neg c_61).trans (rfl)))))))))).symm) rfl
                  · refine lv_iconst (v := 1) hx hb d_PatternBookModel_fits_106 (by decide) ?_
                    refine lv_goto (tgt := 111) hx hb d_PatternBookModel_fits_107 (by decide) ?_
                    refine W.zret hx hb hr rfl ?_ hS.2.2 d_PatternBookModel_fits_111
                    exact uEnd (true, u56) (hP.sub [0, 1] rfl) (hK.sub [0] rfl) (hD.sub [0, 1] (by decide) rfl) hS (by have eu1 := hu1.symm; subst eu1; have eu49 := hu49.symm; subst eu49; have eu50 := hu50.symm; subst eu50; have eu52 := hu52.symm; subst eu52; have eu54 := hu54.symm; subst eu54; have eu56 := hu56.symm; subst eu56; have eu58 := hu58.symm; subst eu58; have eu60 := hu60.symm; subst eu60; exact ((if_neg c_2).trans ((if_pos c_3).trans ((if_neg c_35).trans ((if_neg c_51).trans ((if_neg c_53).trans ((if_pos c_55).trans ((if_neg c_57).trans ((if_neg c_59).trans ((if_pos c_61).trans (rfl)))))))))).symm) rfl
            · refine lv_iconst (v := 0) hx hb d_PatternBookModel_fits_70 (by decide) ?_
              refine W.zret hx hb hr rfl ?_ hS.2.2 d_PatternBookModel_fits_71
              exact uEnd (false, u49) (hP.sub [0, 1] rfl) (hK.sub [0] rfl) (hD.sub [0, 1] (by decide) rfl) hS (by have eu1 := hu1.symm; subst eu1; have eu49 := hu49.symm; subst eu49; have eu50 := hu50.symm; subst eu50; have eu52 := hu52.symm; subst eu52; have eu54 := hu54.symm; subst eu54; exact ((if_neg c_2).trans ((if_pos c_3).trans ((if_neg c_35).trans ((if_neg c_51).trans ((if_neg c_53).trans ((if_neg c_55).trans (rfl))))))).symm) rfl
  · refine lv_iconst (v := 1) hx hb d_PatternBookModel_fits_13 (by decide) ?_
    refine W.zret hx hb hr rfl ?_ hS.2.2 d_PatternBookModel_fits_14
    exact uEnd (true, w) (hP.sub [0, 1] rfl) (hK.sub [0] rfl) (hD.sub [0, 1] (by decide) rfl) hS (by have eu1 := hu1.symm; subst eu1; exact ((if_pos c_2).trans (rfl)).symm) rfl
set_option maxHeartbeats 4000000 in
set_option maxRecDepth 100000 in
/-- PatternBookModel.closeBinary(I)V -/
theorem c_M_closeBinary (l : Launch) (D : va_G) (mo : Nat) (wa : Nat) (sa : Nat) (ma : Nat) (cW : ClassId) (sz : Nat) (x : Int32) (co : Int32) (kd : Int32) (sg : Int32) (ex : Int32) (hi : Int64) (lo : Int64) (lh : Int64) (ll : Int64) (w : Nat → Int64) (hk : mok_M_closeBinary x) : Met l y_PatternBookModel_closeBinary (wsOf y_PatternBookModel_closeBinary b_PatternBookModel_closeBinary 4 none) ({ frames := 2, cells := 0, slots := 0, locals := 46 }) (uP D classes [(mo, .inr (6, [.int co, .int kd, .int sg, .int ex, .ref wa, .long hi, .long lo, .long lh, .long ll, .ref sa, .ref ma])), (wa, .inl (cW, 12, .inr (.inl w)))] [(cW, .long)] sz [.ref mo, .int x]) (uQ D classes (fun _ : Int64 × Int64 => none) (fun u => u = (sl m_M_closeBinary) x kd ex lh ll w) (va_A [(mo, .inr (6, [.int co, .int kd, .int sg, .int ex, .ref wa, .long hi, .long lo, .long lh, .long ll, .ref sa, .ref ma])), (wa, .inl (cW, 12, .inr (.inl w)))] sz) (fun _ => [(cW, .long)]) (fun u => [(mo, .inr (6, [.int co, .int kd, .int sg, .int ex, .ref wa, .long hi, .long lo, .long u.1, .long u.2, .ref sa, .ref ma])), (wa, .inl (cW, 12, .inr (.inl w)))])) 0 0 (va_A [(mo, .inr (6, [.int co, .int kd, .int sg, .int ex, .ref wa, .long hi, .long lo, .long lh, .long ll, .ref sa, .ref ma])), (wa, .inl (cW, 12, .inr (.inl w)))] sz) := by
  rw [sl_eq m_M_closeBinary]
  refine uBegin (by decide +kernel) (Nat.le_of_ble_eq_true rfl) ?_
  intro p e s m below meth c A ls H locs hx hb hr hts hown hlocks hml hin hA hP hK hD hN hS hl
  have hl : lv_has ls 4 [(0, .ref mo), (1, .int x)] := hl
  unfold mok_M_closeBinary at hk
  refine lv_iload_n hx hb d_PatternBookModel_closeBinary_0 rfl (lv_at hl 1 rfl) ?_
  refine uCall (WR := [(mo, .inr (6, [.int co, .int kd, .int sg, .int ex, .ref wa, .long hi, .long lo, .long lh, .long ll, .ref sa, .ref ma])), (wa, .inl (cW, 12, .inr (.inl w)))]) (RT := [(cW, .long)]) (va_runS (As := [.int x]) (rest := []) ⟨hx, hb, hml, hown, hts⟩ (c_M_digitsOf l D H.size x) ⟨uCB 1 hts k_260 k_257 k_261 (by decide +kernel) rfl rfl ⟨Nat.le_of_ble_eq_true rfl, Nat.le_of_ble_eq_true rfl⟩, hts _ k_262⟩ (uPreS hK hP hD hN [] rfl (by decide) [] rfl) rfl rfl hl.1 rfl (lv_room (Nat.le_of_ble_eq_true rfl)) d_PatternBookModel_closeBinary_1 ⟨(Nat.le_of_ble_eq_true rfl), (Nat.le_of_ble_eq_true rfl)⟩) hK hP hD hS hA [] [0, 1] rfl rfl (by decide) (by decide) [0] rfl (fun u1 H locs hu1 hP hD hK hS => ?_)
  have hP : va_P D classes [(mo, .inr (6, [.int co, .int kd, .int sg, .int ex, .ref wa, .long hi, .long lo, .long lh, .long ll, .ref sa, .ref ma])), (wa, .inl (cW, 12, .inr (.inl w)))] H := hP
  have hD : va_D A [(mo, .inr (6, [.int co, .int kd, .int sg, .int ex, .ref wa, .long hi, .long lo, .long lh, .long ll, .ref sa, .ref ma])), (wa, .inl (cW, 12, .inr (.inl w)))] := hD
  have hK : va_K D classes [(cW, .long)] s := hK
  refine W.eq (g2 := F0 m 4 ls [.int u1]) rfl ?_
  have hk := hk u1 hu1
  refine lv_istore_n (lv' := [(2, .int u1), (0, .ref mo), (1, .int x)]) hx hb d_PatternBookModel_closeBinary_4 rfl hl (by decide) rfl (fun ls hl => ?_)
  refine lv_iload_n hx hb d_PatternBookModel_closeBinary_5 rfl (lv_at hl 2 rfl) ?_
  refine uCall (WR := [(mo, .inr (6, [.int co, .int kd, .int sg, .int ex, .ref wa, .long hi, .long lo, .long lh, .long ll, .ref sa, .ref ma])), (wa, .inl (cW, 12, .inr (.inl w)))]) (RT := [(cW, .long)]) (va_runS (As := [.int x]) (rest := []) ⟨hx, hb, hml, hown, hts⟩ (c_M_width l D H.size x) ⟨uCB 1 hts k_287 k_257 k_288 (by decide +kernel) rfl rfl ⟨Nat.le_of_ble_eq_true rfl, Nat.le_of_ble_eq_true rfl⟩, hts _ k_289⟩ (uPreS hK hP hD hN [] rfl (by decide) [] rfl) rfl rfl hl.1 rfl (lv_room (Nat.le_of_ble_eq_true rfl)) d_PatternBookModel_closeBinary_6 ⟨(Nat.le_of_ble_eq_true rfl), (Nat.le_of_ble_eq_true rfl)⟩) hK hP hD hS hA [] [0, 1] rfl rfl (by decide) (by decide) [0] rfl (fun u2 H locs hu2 hP hD hK hS => ?_)
  have hP : va_P D classes [(mo, .inr (6, [.int co, .int kd, .int sg, .int ex, .ref wa, .long hi, .long lo, .long lh, .long ll, .ref sa, .ref ma])), (wa, .inl (cW, 12, .inr (.inl w)))] H := hP
  have hD : va_D A [(mo, .inr (6, [.int co, .int kd, .int sg, .int ex, .ref wa, .long hi, .long lo, .long lh, .long ll, .ref sa, .ref ma])), (wa, .inl (cW, 12, .inr (.inl w)))] := hD
  have hK : va_K D classes [(cW, .long)] s := hK
  refine W.eq (g2 := F0 m 9 ls [.int u2]) rfl ?_
  have hk := hk u2 hu2
  refine lv_iload_n hx hb d_PatternBookModel_closeBinary_9 rfl (lv_at hl 0 rfl) ?_
  refine lv_isub hx hb d_PatternBookModel_closeBinary_10 ?_
  refine lv_istore_n (lv' := [(3, .int (u2 - u1)), (2, .int u1), (0, .ref mo), (1, .int x)]) hx hb d_PatternBookModel_closeBinary_11 rfl hl (by decide) rfl (fun ls hl => ?_)
  refine lv_aload_n hx hb d_PatternBookModel_closeBinary_12 rfl (lv_at hl 2 rfl) ?_
  refine va_get (D := D) (ci := 6) (v := .int kd) (C := R_PatternBookModel) (T := F_PatternBookModel) (N := 11) hx hb hts i_PatternBookModel hown hK hP 0 rfl rfl 1 (by decide) (hts _ k_318) (fun _ h9 => h9) rfl d_PatternBookModel_closeBinary_13 ?_
  refine lv_if_eq (tgt := 70) hx hb d_PatternBookModel_closeBinary_16 (by decide) (fun c_3 => ?_) (fun c_3 => ?_)
  · have hk := hk.1
    refine lv_aload_n hx hb d_PatternBookModel_closeBinary_70 rfl (lv_at hl 2 rfl) ?_
    refine lv_aload_n hx hb d_PatternBookModel_closeBinary_71 rfl (lv_at hl 2 rfl) ?_
    refine lv_iconst (v := 0) hx hb d_PatternBookModel_closeBinary_72 (by decide) ?_
    refine lv_iload_n hx hb d_PatternBookModel_closeBinary_73 rfl (lv_at hl 1 rfl) ?_
    refine lv_iconst (v := 1) hx hb d_PatternBookModel_closeBinary_74 (by decide) ?_
    refine lv_isub hx hb d_PatternBookModel_closeBinary_75 ?_
    have ho4 := hk.1
    have hk := hk.2
    refine uCall (WR := []) (RT := []) (va_runV (As := [.int (0:Int32), .int (u1 - (1:Int32))]) (rest := [.ref mo]) ⟨hx, hb, hml, hown, hts⟩ (c_M_bitOf l D mo wa sa ma cW H.size (u1 - (1:Int32)) co kd sg ex hi lo lh ll w ho4) ⟨uCB 2 hts k_283 k_257 k_284 (by decide +kernel) rfl rfl ⟨Nat.le_of_ble_eq_true rfl, Nat.le_of_ble_eq_true rfl⟩, hts _ k_285, hts _ k_286⟩ (uPreV (ci := 6) (q0 := 0) hK hP hD hN [0, 1] rfl (by decide) [0] rfl rfl rfl) rfl rfl hl.1 rfl (lv_room (Nat.le_of_ble_eq_true rfl)) d_PatternBookModel_closeBinary_76 ⟨(Nat.le_of_ble_eq_true rfl), (Nat.le_of_ble_eq_true rfl)⟩) hK hP hD hS hA [0, 1] [] rfl rfl (by decide) (by decide) [] rfl (fun u4 H locs hu4 hP hD hK hS => ?_)
    have hP : va_P D classes [(mo, .inr (6, [.int co, .int kd, .int sg, .int ex, .ref wa, .long hi, .long lo, .long lh, .long ll, .ref sa, .ref ma])), (wa, .inl (cW, 12, .inr (.inl w)))] H := hP
    have hD : va_D A [(mo, .inr (6, [.int co, .int kd, .int sg, .int ex, .ref wa, .long hi, .long lo, .long lh, .long ll, .ref sa, .ref ma])), (wa, .inl (cW, 12, .inr (.inl w)))] := hD
    have hK : va_K D classes [(cW, .long)] s := hK
    refine W.eq (g2 := F0 m 79 ls [.int u4, .ref mo]) rfl ?_
    refine lv_iconst (v := 1) hx hb d_PatternBookModel_closeBinary_79 (by decide) ?_
    refine lv_icmp_ne (tgt := 97) hx hb d_PatternBookModel_closeBinary_80 (by decide) (fun c_5 => ?_) (fun c_5 => ?_)
    · refine lv_iconst (v := 0) hx hb d_PatternBookModel_closeBinary_97 (by decide) ?_
      refine lv_iload_n hx hb d_PatternBookModel_closeBinary_98 rfl (lv_at hl 1 rfl) ?_
      refine lv_iconst (v := 1) hx hb d_PatternBookModel_closeBinary_99 (by decide) ?_
      refine lv_isub hx hb d_PatternBookModel_closeBinary_100 ?_
      refine lv_iload_n hx hb d_PatternBookModel_closeBinary_101 rfl (lv_at hl 0 rfl) ?_
      have ho6 := hk.1
      have hk := hk.2
      refine uCall (WR := [(wa, .inl (cW, 12, .inr (.inl w)))]) (RT := [(cW, .long)]) (va_runV (As := [.int (0:Int32), .int (u1 - (1:Int32)), .int (u2 - u1)]) (rest := []) ⟨hx, hb, hml, hown, hts⟩ (c_M_lay l D mo wa sa ma H.size (0:Int32) (u1 - (1:Int32)) (u2 - u1) co kd sg ex hi lo lh ll ho6) ⟨uCB 3 hts k_343 k_257 k_344 (by decide +kernel) rfl rfl ⟨Nat.le_of_ble_eq_true rfl, Nat.le_of_ble_eq_true rfl⟩, hts _ k_345, hts _ k_346⟩ (uPreV (ci := 6) (q0 := 0) hK hP hD hN [0] rfl (by decide) [] rfl rfl rfl) rfl rfl hl.1 rfl (lv_room (Nat.le_of_ble_eq_true rfl)) d_PatternBookModel_closeBinary_102 ⟨(Nat.le_of_ble_eq_true rfl), (Nat.le_of_ble_eq_true rfl)⟩) hK hP hD hS hA [0] [1] rfl rfl (by decide) (by decide) [0] rfl (fun u6 H locs hu6 hP hD hK hS => ?_)
      have hP : va_P D classes [(wa, .inl (cW, 12, .inr (.inl w))), (mo, .inr (6, [.int co, .int kd, .int sg, .int ex, .ref wa, .long hi, .long lo, .long u6.1, .long u6.2, .ref sa, .ref ma]))] H := hP
      have hD : va_D A [(wa, .inl (cW, 12, .inr (.inl w))), (mo, .inr (6, [.int co, .int kd, .int sg, .int ex, .ref wa, .long hi, .long lo, .long u6.1, .long u6.2, .ref sa, .ref ma]))] := hD
      have hK : va_K D classes [(cW, .long)] s := hK
      refine W.eq (g2 := F0 m 105 ls []) rfl ?_
      refine lv_aload_n hx hb d_PatternBookModel_closeBinary_105 rfl (lv_at hl 2 rfl) ?_
      refine lv_iconst (v := 0) hx hb d_PatternBookModel_closeBinary_106 (by decide) ?_
      refine lv_iload_n hx hb d_PatternBookModel_closeBinary_107 rfl (lv_at hl 1 rfl) ?_
      refine lv_iconst (v := 1) hx hb d_PatternBookModel_closeBinary_108 (by decide) ?_
      refine lv_isub hx hb d_PatternBookModel_closeBinary_109 ?_
      have ho7 := hk
      refine uCall (WR := []) (RT := []) (va_runV (As := [.int (0:Int32), .int (u1 - (1:Int32))]) (rest := []) ⟨hx, hb, hml, hown, hts⟩ (c_M_layNumber l D mo wa sa ma cW H.size (0:Int32) (u1 - (1:Int32)) co kd sg ex hi lo u6.1 u6.2 w ho7) ⟨uCB 2 hts k_347 k_257 k_348 (by decide +kernel) rfl rfl ⟨Nat.le_of_ble_eq_true rfl, Nat.le_of_ble_eq_true rfl⟩, hts _ k_349, hts _ k_350⟩ (uPreV (ci := 6) (q0 := 1) hK hP hD hN [1, 0] rfl (by decide) [0] rfl rfl rfl) rfl rfl hl.1 rfl (lv_room (Nat.le_of_ble_eq_true rfl)) d_PatternBookModel_closeBinary_110 ⟨(Nat.le_of_ble_eq_true rfl), (Nat.le_of_ble_eq_true rfl)⟩) hK hP hD hS hA [1, 0] [] rfl rfl (by decide) (by decide) [] rfl (fun u7 H locs hu7 hP hD hK hS => ?_)
      have hP : va_P D classes [(mo, .inr (6, [.int co, .int kd, .int sg, .int ex, .ref wa, .long hi, .long lo, .long u7.1, .long u7.2, .ref sa, .ref ma])), (wa, .inl (cW, 12, .inr (.inl w)))] H := hP
      have hD : va_D A [(mo, .inr (6, [.int co, .int kd, .int sg, .int ex, .ref wa, .long hi, .long lo, .long u7.1, .long u7.2, .ref sa, .ref ma])), (wa, .inl (cW, 12, .inr (.inl w)))] := hD
      have hK : va_K D classes [(cW, .long)] s := hK
      refine W.eq (g2 := F0 m 113 ls []) rfl ?_
      refine W.vret hx hb hr ?_ hS.2.2 d_PatternBookModel_closeBinary_113
      exact uEnd (u7.1, u7.2) (hP.sub [0, 1] rfl) (hK.sub [0] rfl) (hD.sub [0, 1] (by decide) rfl) hS (by have eu1 := hu1.symm; subst eu1; have eu2 := hu2.symm; subst eu2; have eu4 := hu4.symm; subst eu4; have eu6 := hu6.symm; subst eu6; have eu7 := hu7.symm; subst eu7; exact ((if_pos c_3).trans ((if_neg c_5).trans (rfl))).symm) rfl
    · refine lv_aload_n hx hb d_PatternBookModel_closeBinary_83 rfl (lv_at hl 2 rfl) ?_
      refine va_get (D := D) (ci := 6) (v := .int ex) (C := R_PatternBookModel) (T := F_PatternBookModel) (N := 11) hx hb hts i_PatternBookModel hown hK hP 0 rfl rfl 3 (by decide) (hts _ k_313) (fun _ h9 => h9) rfl d_PatternBookModel_closeBinary_84 ?_
      refine lv_iload_n hx hb d_PatternBookModel_closeBinary_87 rfl (lv_at hl 3 rfl) ?_
      refine uCall (WR := [(mo, .inr (6, [.int co, .int kd, .int sg, .int ex, .ref wa, .long hi, .long lo, .long lh, .long ll, .ref sa, .ref ma])), (wa, .inl (cW, 12, .inr (.inl w)))]) (RT := [(cW, .long)]) (va_runS (As := [.int x]) (rest := [.int ex, .ref mo]) ⟨hx, hb, hml, hown, hts⟩ (c_M_least l D H.size x) ⟨uCB 1 hts k_310 k_257 k_311 (by decide +kernel) rfl rfl ⟨Nat.le_of_ble_eq_true rfl, Nat.le_of_ble_eq_true rfl⟩, hts _ k_312⟩ (uPreS hK hP hD hN [] rfl (by decide) [] rfl) rfl rfl hl.1 rfl (lv_room (Nat.le_of_ble_eq_true rfl)) d_PatternBookModel_closeBinary_88 ⟨(Nat.le_of_ble_eq_true rfl), (Nat.le_of_ble_eq_true rfl)⟩) hK hP hD hS hA [] [0, 1] rfl rfl (by decide) (by decide) [0] rfl (fun u8 H locs hu8 hP hD hK hS => ?_)
      have hP : va_P D classes [(mo, .inr (6, [.int co, .int kd, .int sg, .int ex, .ref wa, .long hi, .long lo, .long lh, .long ll, .ref sa, .ref ma])), (wa, .inl (cW, 12, .inr (.inl w)))] H := hP
      have hD : va_D A [(mo, .inr (6, [.int co, .int kd, .int sg, .int ex, .ref wa, .long hi, .long lo, .long lh, .long ll, .ref sa, .ref ma])), (wa, .inl (cW, 12, .inr (.inl w)))] := hD
      have hK : va_K D classes [(cW, .long)] s := hK
      refine W.eq (g2 := F0 m 91 ls [.int u8, .int ex, .ref mo]) rfl ?_
      refine lv_isub hx hb d_PatternBookModel_closeBinary_91 ?_
      refine lv_iconst (v := 1) hx hb d_PatternBookModel_closeBinary_92 (by decide) ?_
      refine lv_iadd hx hb d_PatternBookModel_closeBinary_93 ?_
      refine lv_goto (tgt := 98) hx hb d_PatternBookModel_closeBinary_94 (by decide) ?_
      refine lv_iload_n hx hb d_PatternBookModel_closeBinary_98 rfl (lv_at hl 1 rfl) ?_
      refine lv_iconst (v := 1) hx hb d_PatternBookModel_closeBinary_99 (by decide) ?_
      refine lv_isub hx hb d_PatternBookModel_closeBinary_100 ?_
      refine lv_iload_n hx hb d_PatternBookModel_closeBinary_101 rfl (lv_at hl 0 rfl) ?_
      have ho9 := hk.1
      have hk := hk.2
      refine uCall (WR := [(wa, .inl (cW, 12, .inr (.inl w)))]) (RT := [(cW, .long)]) (va_runV (As := [.int ((ex - u8) + (1:Int32)), .int (u1 - (1:Int32)), .int (u2 - u1)]) (rest := []) ⟨hx, hb, hml, hown, hts⟩ (c_M_lay l D mo wa sa ma H.size ((ex - u8) + (1:Int32)) (u1 - (1:Int32)) (u2 - u1) co kd sg ex hi lo lh ll ho9) ⟨uCB 3 hts k_343 k_257 k_344 (by decide +kernel) rfl rfl ⟨Nat.le_of_ble_eq_true rfl, Nat.le_of_ble_eq_true rfl⟩, hts _ k_345, hts _ k_346⟩ (uPreV (ci := 6) (q0 := 0) hK hP hD hN [0] rfl (by decide) [] rfl rfl rfl) rfl rfl hl.1 rfl (lv_room (Nat.le_of_ble_eq_true rfl)) d_PatternBookModel_closeBinary_102 ⟨(Nat.le_of_ble_eq_true rfl), (Nat.le_of_ble_eq_true rfl)⟩) hK hP hD hS hA [0] [1] rfl rfl (by decide) (by decide) [0] rfl (fun u9 H locs hu9 hP hD hK hS => ?_)
      have hP : va_P D classes [(wa, .inl (cW, 12, .inr (.inl w))), (mo, .inr (6, [.int co, .int kd, .int sg, .int ex, .ref wa, .long hi, .long lo, .long u9.1, .long u9.2, .ref sa, .ref ma]))] H := hP
      have hD : va_D A [(wa, .inl (cW, 12, .inr (.inl w))), (mo, .inr (6, [.int co, .int kd, .int sg, .int ex, .ref wa, .long hi, .long lo, .long u9.1, .long u9.2, .ref sa, .ref ma]))] := hD
      have hK : va_K D classes [(cW, .long)] s := hK
      refine W.eq (g2 := F0 m 105 ls []) rfl ?_
      refine lv_aload_n hx hb d_PatternBookModel_closeBinary_105 rfl (lv_at hl 2 rfl) ?_
      refine lv_iconst (v := 0) hx hb d_PatternBookModel_closeBinary_106 (by decide) ?_
      refine lv_iload_n hx hb d_PatternBookModel_closeBinary_107 rfl (lv_at hl 1 rfl) ?_
      refine lv_iconst (v := 1) hx hb d_PatternBookModel_closeBinary_108 (by decide) ?_
      refine lv_isub hx hb d_PatternBookModel_closeBinary_109 ?_
      have ho10 := hk
      refine uCall (WR := []) (RT := []) (va_runV (As := [.int (0:Int32), .int (u1 - (1:Int32))]) (rest := []) ⟨hx, hb, hml, hown, hts⟩ (c_M_layNumber l D mo wa sa ma cW H.size (0:Int32) (u1 - (1:Int32)) co kd sg ex hi lo u9.1 u9.2 w ho10) ⟨uCB 2 hts k_347 k_257 k_348 (by decide +kernel) rfl rfl ⟨Nat.le_of_ble_eq_true rfl, Nat.le_of_ble_eq_true rfl⟩, hts _ k_349, hts _ k_350⟩ (uPreV (ci := 6) (q0 := 1) hK hP hD hN [1, 0] rfl (by decide) [0] rfl rfl rfl) rfl rfl hl.1 rfl (lv_room (Nat.le_of_ble_eq_true rfl)) d_PatternBookModel_closeBinary_110 ⟨(Nat.le_of_ble_eq_true rfl), (Nat.le_of_ble_eq_true rfl)⟩) hK hP hD hS hA [1, 0] [] rfl rfl (by decide) (by decide) [] rfl (fun u10 H locs hu10 hP hD hK hS => ?_)
      have hP : va_P D classes [(mo, .inr (6, [.int co, .int kd, .int sg, .int ex, .ref wa, .long hi, .long lo, .long u10.1, .long u10.2, .ref sa, .ref ma])), (wa, .inl (cW, 12, .inr (.inl w)))] H := hP
      have hD : va_D A [(mo, .inr (6, [.int co, .int kd, .int sg, .int ex, .ref wa, .long hi, .long lo, .long u10.1, .long u10.2, .ref sa, .ref ma])), (wa, .inl (cW, 12, .inr (.inl w)))] := hD
      have hK : va_K D classes [(cW, .long)] s := hK
      refine W.eq (g2 := F0 m 113 ls []) rfl ?_
      refine W.vret hx hb hr ?_ hS.2.2 d_PatternBookModel_closeBinary_113
      exact uEnd (u10.1, u10.2) (hP.sub [0, 1] rfl) (hK.sub [0] rfl) (hD.sub [0, 1] (by decide) rfl) hS (by have eu1 := hu1.symm; subst eu1; have eu2 := hu2.symm; subst eu2; have eu4 := hu4.symm; subst eu4; have eu8 := hu8.symm; subst eu8; have eu9 := hu9.symm; subst eu9; have eu10 := hu10.symm; subst eu10; exact ((if_pos c_3).trans ((if_pos c_5).trans (rfl))).symm) rfl
  · have hk := hk.2
    refine lv_aload_n hx hb d_PatternBookModel_closeBinary_19 rfl (lv_at hl 2 rfl) ?_
    refine lv_iconst (v := 1) hx hb d_PatternBookModel_closeBinary_20 (by decide) ?_
    refine lv_iload_n hx hb d_PatternBookModel_closeBinary_21 rfl (lv_at hl 0 rfl) ?_
    refine lv_ishl hx hb d_PatternBookModel_closeBinary_22 ?_
    refine lv_iconst (v := 1) hx hb d_PatternBookModel_closeBinary_23 (by decide) ?_
    refine lv_isub hx hb d_PatternBookModel_closeBinary_24 ?_
    refine lv_iload_n hx hb d_PatternBookModel_closeBinary_25 rfl (lv_at hl 1 rfl) ?_
    refine lv_iconst (v := 1) hx hb d_PatternBookModel_closeBinary_26 (by decide) ?_
    refine lv_isub hx hb d_PatternBookModel_closeBinary_27 ?_
    refine lv_iload_n hx hb d_PatternBookModel_closeBinary_28 rfl (lv_at hl 0 rfl) ?_
    have ho11 := hk.1
    have hk := hk.2
    refine uCall (WR := [(wa, .inl (cW, 12, .inr (.inl w)))]) (RT := [(cW, .long)]) (va_runV (As := [.int (((1:Int32) <<< ((u2 - u1) &&& 31)) - (1:Int32)), .int (u1 - (1:Int32)), .int (u2 - u1)]) (rest := []) ⟨hx, hb, hml, hown, hts⟩ (c_M_lay l D mo wa sa ma H.size (((1:Int32) <<< ((u2 - u1) &&& 31)) - (1:Int32)) (u1 - (1:Int32)) (u2 - u1) co kd sg ex hi lo lh ll ho11) ⟨uCB 3 hts k_343 k_257 k_344 (by decide +kernel) rfl rfl ⟨Nat.le_of_ble_eq_true rfl, Nat.le_of_ble_eq_true rfl⟩, hts _ k_345, hts _ k_346⟩ (uPreV (ci := 6) (q0 := 0) hK hP hD hN [0] rfl (by decide) [] rfl rfl rfl) rfl rfl hl.1 rfl (lv_room (Nat.le_of_ble_eq_true rfl)) d_PatternBookModel_closeBinary_29 ⟨(Nat.le_of_ble_eq_true rfl), (Nat.le_of_ble_eq_true rfl)⟩) hK hP hD hS hA [0] [1] rfl rfl (by decide) (by decide) [0] rfl (fun u11 H locs hu11 hP hD hK hS => ?_)
    have hP : va_P D classes [(wa, .inl (cW, 12, .inr (.inl w))), (mo, .inr (6, [.int co, .int kd, .int sg, .int ex, .ref wa, .long hi, .long lo, .long u11.1, .long u11.2, .ref sa, .ref ma]))] H := hP
    have hD : va_D A [(wa, .inl (cW, 12, .inr (.inl w))), (mo, .inr (6, [.int co, .int kd, .int sg, .int ex, .ref wa, .long hi, .long lo, .long u11.1, .long u11.2, .ref sa, .ref ma]))] := hD
    have hK : va_K D classes [(cW, .long)] s := hK
    refine W.eq (g2 := F0 m 32 ls []) rfl ?_
    refine lv_aload_n hx hb d_PatternBookModel_closeBinary_32 rfl (lv_at hl 2 rfl) ?_
    refine va_get (D := D) (ci := 6) (v := .int kd) (C := R_PatternBookModel) (T := F_PatternBookModel) (N := 11) hx hb hts i_PatternBookModel hown hK hP 1 rfl rfl 1 (by decide) (hts _ k_318) (fun _ h9 => h9) rfl d_PatternBookModel_closeBinary_33 ?_
    refine lv_iconst (v := 1) hx hb d_PatternBookModel_closeBinary_36 (by decide) ?_
    refine lv_icmp_ne (tgt := 41) hx hb d_PatternBookModel_closeBinary_37 (by decide) (fun c_12 => ?_) (fun c_12 => ?_)
    · refine lv_aload_n hx hb d_PatternBookModel_closeBinary_41 rfl (lv_at hl 2 rfl) ?_
      refine lv_iload_n hx hb d_PatternBookModel_closeBinary_42 rfl (lv_at hl 1 rfl) ?_
      refine lv_iconst (v := 2) hx hb d_PatternBookModel_closeBinary_43 (by decide) ?_
      refine lv_isub hx hb d_PatternBookModel_closeBinary_44 ?_
      refine lv_aload_n hx hb d_PatternBookModel_closeBinary_45 rfl (lv_at hl 2 rfl) ?_
      refine va_get (D := D) (ci := 6) (v := .int kd) (C := R_PatternBookModel) (T := F_PatternBookModel) (N := 11) hx hb hts i_PatternBookModel hown hK hP 1 rfl rfl 1 (by decide) (hts _ k_318) (fun _ h9 => h9) rfl d_PatternBookModel_closeBinary_46 ?_
      refine lv_iconst (v := 2) hx hb d_PatternBookModel_closeBinary_49 (by decide) ?_
      refine lv_icmp_ne (tgt := 57) hx hb d_PatternBookModel_closeBinary_50 (by decide) (fun c_13 => ?_) (fun c_13 => ?_)
      · refine lv_iconst (v := 0) hx hb d_PatternBookModel_closeBinary_57 (by decide) ?_
        refine uCall (WR := [(wa, .inl (cW, 12, .inr (.inl w)))]) (RT := [(cW, .long)]) (va_runV (As := [.int (u1 - (2:Int32)), .int (0:Int32)]) (rest := []) ⟨hx, hb, hml, hown, hts⟩ (c_M_set l D mo wa sa ma H.size (u1 - (2:Int32)) (0:Int32) co kd sg ex hi lo u11.1 u11.2) ⟨uCB 2 hts k_279 k_257 k_280 (by decide +kernel) rfl rfl ⟨Nat.le_of_ble_eq_true rfl, Nat.le_of_ble_eq_true rfl⟩, hts _ k_281, hts _ k_282⟩ (uPreV (ci := 6) (q0 := 1) hK hP hD hN [1] rfl (by decide) [] rfl rfl rfl) rfl rfl hl.1 rfl (lv_room (Nat.le_of_ble_eq_true rfl)) d_PatternBookModel_closeBinary_58 ⟨(Nat.le_of_ble_eq_true rfl), (Nat.le_of_ble_eq_true rfl)⟩) hK hP hD hS hA [1] [0] rfl rfl (by decide) (by decide) [0] rfl (fun u14 H locs hu14 hP hD hK hS => ?_)
        have hP : va_P D classes [(wa, .inl (cW, 12, .inr (.inl w))), (mo, .inr (6, [.int co, .int kd, .int sg, .int ex, .ref wa, .long hi, .long lo, .long u14.1, .long u14.2, .ref sa, .ref ma]))] H := hP
        have hD : va_D A [(wa, .inl (cW, 12, .inr (.inl w))), (mo, .inr (6, [.int co, .int kd, .int sg, .int ex, .ref wa, .long hi, .long lo, .long u14.1, .long u14.2, .ref sa, .ref ma]))] := hD
        have hK : va_K D classes [(cW, .long)] s := hK
        refine W.eq (g2 := F0 m 61 ls []) rfl ?_
        refine lv_aload_n hx hb d_PatternBookModel_closeBinary_61 rfl (lv_at hl 2 rfl) ?_
        refine lv_iconst (v := 0) hx hb d_PatternBookModel_closeBinary_62 (by decide) ?_
        refine lv_iload_n hx hb d_PatternBookModel_closeBinary_63 rfl (lv_at hl 1 rfl) ?_
        refine lv_iconst (v := 2) hx hb d_PatternBookModel_closeBinary_64 (by decide) ?_
        refine lv_isub hx hb d_PatternBookModel_closeBinary_65 ?_
        have ho15 := hk
        refine uCall (WR := []) (RT := []) (va_runV (As := [.int (0:Int32), .int (u1 - (2:Int32))]) (rest := []) ⟨hx, hb, hml, hown, hts⟩ (c_M_layNumber l D mo wa sa ma cW H.size (0:Int32) (u1 - (2:Int32)) co kd sg ex hi lo u14.1 u14.2 w ho15) ⟨uCB 2 hts k_347 k_257 k_348 (by decide +kernel) rfl rfl ⟨Nat.le_of_ble_eq_true rfl, Nat.le_of_ble_eq_true rfl⟩, hts _ k_349, hts _ k_350⟩ (uPreV (ci := 6) (q0 := 1) hK hP hD hN [1, 0] rfl (by decide) [0] rfl rfl rfl) rfl rfl hl.1 rfl (lv_room (Nat.le_of_ble_eq_true rfl)) d_PatternBookModel_closeBinary_66 ⟨(Nat.le_of_ble_eq_true rfl), (Nat.le_of_ble_eq_true rfl)⟩) hK hP hD hS hA [1, 0] [] rfl rfl (by decide) (by decide) [] rfl (fun u15 H locs hu15 hP hD hK hS => ?_)
        have hP : va_P D classes [(mo, .inr (6, [.int co, .int kd, .int sg, .int ex, .ref wa, .long hi, .long lo, .long u15.1, .long u15.2, .ref sa, .ref ma])), (wa, .inl (cW, 12, .inr (.inl w)))] H := hP
        have hD : va_D A [(mo, .inr (6, [.int co, .int kd, .int sg, .int ex, .ref wa, .long hi, .long lo, .long u15.1, .long u15.2, .ref sa, .ref ma])), (wa, .inl (cW, 12, .inr (.inl w)))] := hD
        have hK : va_K D classes [(cW, .long)] s := hK
        refine W.eq (g2 := F0 m 69 ls []) rfl ?_
        refine W.vret hx hb hr ?_ hS.2.2 d_PatternBookModel_closeBinary_69
        exact uEnd (u15.1, u15.2) (hP.sub [0, 1] rfl) (hK.sub [0] rfl) (hD.sub [0, 1] (by decide) rfl) hS (by have eu1 := hu1.symm; subst eu1; have eu2 := hu2.symm; subst eu2; have eu11 := hu11.symm; subst eu11; have eu14 := hu14.symm; subst eu14; have eu15 := hu15.symm; subst eu15; exact ((if_neg c_3).trans ((if_neg c_12).trans ((if_neg c_13).trans (rfl)))).symm) rfl
      · refine lv_iconst (v := 1) hx hb d_PatternBookModel_closeBinary_53 (by decide) ?_
        refine lv_goto (tgt := 58) hx hb d_PatternBookModel_closeBinary_54 (by decide) ?_
        refine uCall (WR := [(wa, .inl (cW, 12, .inr (.inl w)))]) (RT := [(cW, .long)]) (va_runV (As := [.int (u1 - (2:Int32)), .int (1:Int32)]) (rest := []) ⟨hx, hb, hml, hown, hts⟩ (c_M_set l D mo wa sa ma H.size (u1 - (2:Int32)) (1:Int32) co kd sg ex hi lo u11.1 u11.2) ⟨uCB 2 hts k_279 k_257 k_280 (by decide +kernel) rfl rfl ⟨Nat.le_of_ble_eq_true rfl, Nat.le_of_ble_eq_true rfl⟩, hts _ k_281, hts _ k_282⟩ (uPreV (ci := 6) (q0 := 1) hK hP hD hN [1] rfl (by decide) [] rfl rfl rfl) rfl rfl hl.1 rfl (lv_room (Nat.le_of_ble_eq_true rfl)) d_PatternBookModel_closeBinary_58 ⟨(Nat.le_of_ble_eq_true rfl), (Nat.le_of_ble_eq_true rfl)⟩) hK hP hD hS hA [1] [0] rfl rfl (by decide) (by decide) [0] rfl (fun u16 H locs hu16 hP hD hK hS => ?_)
        have hP : va_P D classes [(wa, .inl (cW, 12, .inr (.inl w))), (mo, .inr (6, [.int co, .int kd, .int sg, .int ex, .ref wa, .long hi, .long lo, .long u16.1, .long u16.2, .ref sa, .ref ma]))] H := hP
        have hD : va_D A [(wa, .inl (cW, 12, .inr (.inl w))), (mo, .inr (6, [.int co, .int kd, .int sg, .int ex, .ref wa, .long hi, .long lo, .long u16.1, .long u16.2, .ref sa, .ref ma]))] := hD
        have hK : va_K D classes [(cW, .long)] s := hK
        refine W.eq (g2 := F0 m 61 ls []) rfl ?_
        refine lv_aload_n hx hb d_PatternBookModel_closeBinary_61 rfl (lv_at hl 2 rfl) ?_
        refine lv_iconst (v := 0) hx hb d_PatternBookModel_closeBinary_62 (by decide) ?_
        refine lv_iload_n hx hb d_PatternBookModel_closeBinary_63 rfl (lv_at hl 1 rfl) ?_
        refine lv_iconst (v := 2) hx hb d_PatternBookModel_closeBinary_64 (by decide) ?_
        refine lv_isub hx hb d_PatternBookModel_closeBinary_65 ?_
        have ho17 := hk
        refine uCall (WR := []) (RT := []) (va_runV (As := [.int (0:Int32), .int (u1 - (2:Int32))]) (rest := []) ⟨hx, hb, hml, hown, hts⟩ (c_M_layNumber l D mo wa sa ma cW H.size (0:Int32) (u1 - (2:Int32)) co kd sg ex hi lo u16.1 u16.2 w ho17) ⟨uCB 2 hts k_347 k_257 k_348 (by decide +kernel) rfl rfl ⟨Nat.le_of_ble_eq_true rfl, Nat.le_of_ble_eq_true rfl⟩, hts _ k_349, hts _ k_350⟩ (uPreV (ci := 6) (q0 := 1) hK hP hD hN [1, 0] rfl (by decide) [0] rfl rfl rfl) rfl rfl hl.1 rfl (lv_room (Nat.le_of_ble_eq_true rfl)) d_PatternBookModel_closeBinary_66 ⟨(Nat.le_of_ble_eq_true rfl), (Nat.le_of_ble_eq_true rfl)⟩) hK hP hD hS hA [1, 0] [] rfl rfl (by decide) (by decide) [] rfl (fun u17 H locs hu17 hP hD hK hS => ?_)
        have hP : va_P D classes [(mo, .inr (6, [.int co, .int kd, .int sg, .int ex, .ref wa, .long hi, .long lo, .long u17.1, .long u17.2, .ref sa, .ref ma])), (wa, .inl (cW, 12, .inr (.inl w)))] H := hP
        have hD : va_D A [(mo, .inr (6, [.int co, .int kd, .int sg, .int ex, .ref wa, .long hi, .long lo, .long u17.1, .long u17.2, .ref sa, .ref ma])), (wa, .inl (cW, 12, .inr (.inl w)))] := hD
        have hK : va_K D classes [(cW, .long)] s := hK
        refine W.eq (g2 := F0 m 69 ls []) rfl ?_
        refine W.vret hx hb hr ?_ hS.2.2 d_PatternBookModel_closeBinary_69
        exact uEnd (u17.1, u17.2) (hP.sub [0, 1] rfl) (hK.sub [0] rfl) (hD.sub [0, 1] (by decide) rfl) hS (by have eu1 := hu1.symm; subst eu1; have eu2 := hu2.symm; subst eu2; have eu11 := hu11.symm; subst eu11; have eu16 := hu16.symm; subst eu16; have eu17 := hu17.symm; subst eu17; exact ((if_neg c_3).trans ((if_neg c_12).trans ((if_pos c_13).trans (rfl)))).symm) rfl
    · refine W.vret hx hb hr ?_ hS.2.2 d_PatternBookModel_closeBinary_40
      exact uEnd (u11.1, u11.2) (hP.sub [1, 0] rfl) (hK.sub [0] rfl) (hD.sub [1, 0] (by decide) rfl) hS (by have eu1 := hu1.symm; subst eu1; have eu2 := hu2.symm; subst eu2; have eu11 := hu11.symm; subst eu11; exact ((if_neg c_3).trans ((if_pos c_12).trans (rfl))).symm) rfl
set_option maxHeartbeats 4000000 in
set_option maxRecDepth 100000 in
/-- the loop of PatternBookModel.layDigits -/
theorem lp_M_layDigits (l : Launch) (D : va_G) (mo : Nat) (wa : Nat) (sa : Nat) (ma : Nat) (cW : ClassId) (cM : ClassId) (x : Int32) (co : Int32) (kd : Int32) (sg : Int32) (ex : Int32) (hi : Int64) (lo : Int64) (lh : Int64) (ll : Int64) (w : Nat → Int64) (md : Nat → Int32) {p : Program} {e : Env} {s : State} {m : MethodId} {below : List Frame} {meth : Method} {c : Code} {A : Nat → Prop} {args : Array Value} {F : Int32 × Int64 × Int64 × (Nat → Int64)} (hx : p.tables.exec = Jvm.exec) (hb : c.code = b_PatternBookModel_layDigits) (hr : meth.sig.returnType = (some .int)) (hts : ∀ w ∈ wt, w.before args s = true) (hown : s.vm.findClass R_PatternBookModel = some m.cls) (hlocks : meth.locks = false) (hml : c.maxLocals = 3) (hA : ∀ q : Nat, s.heap.size ≤ q → A q) (hN : uN s) : ∀ (n : Nat) (x2 : Int32) (y0_7 : Int64) (y0_8 : Int64) (y1_a : (Nat → Int64)) (H : Heap) (locs : List Loc) (ls : Array Slot), mlk_M_layDigits n x x2 y1_a → mlf_M_layDigits n x md x2 y0_7 y0_8 y1_a = F → va_K D classes [(cW, .long), (cM, .int)] s → va_P D classes [(mo, .inr (6, [.int co, .int kd, .int sg, .int ex, .ref wa, .long hi, .long lo, .long y0_7, .long y0_8, .ref sa, .ref ma])), (wa, .inl (cW, 12, .inr (.inl y1_a))), (ma, .inl (cM, 1000, .inl md))] H → va_D A [(mo, .inr (6, [.int co, .int kd, .int sg, .int ex, .ref wa, .long hi, .long lo, .long y0_7, .long y0_8, .ref sa, .ref ma])), (wa, .inl (cW, 12, .inr (.inl y1_a))), (ma, .inl (cM, 1000, .inl md))] → va_S A s.heap H locs → lv_has ls 3 [(2, .int x2), (0, .ref mo), (1, .int x)] → W p l e (headSpec (wsOf y_PatternBookModel_layDigits b_PatternBookModel_layDigits 3 (some .int)) ({ frames := 2, cells := 0, slots := 0, locals := 46 })).room s m args below meth c H locs (0) (0) (MQ below (uQ D classes (fun u : Int32 × Int64 × Int64 × (Nat → Int64) => some (.int u.1)) (fun u => u = F) A (fun _ => [(cW, .long), (cM, .int)]) (fun u => [(mo, .inr (6, [.int co, .int kd, .int sg, .int ex, .ref wa, .long hi, .long lo, .long u.2.1, .long u.2.2.1, .ref sa, .ref ma])), (wa, .inl (cW, 12, .inr (.inl u.2.2.2))), (ma, .inl (cM, 1000, .inl md))])) args s 0 0 A) (F0 m 30 ls []) := by
  intro n
  induction n with
  | zero => intro x2 y0_7 y0_8 y1_a H locs ls hk; exact (show False from hk).elim
  | succ n ih =>
    intro x2 y0_7 y0_8 y1_a H locs ls hk hF hK hP hD hS hl
    unfold mlk_M_layDigits at hk
    refine lv_iload_n hx hb d_PatternBookModel_layDigits_30 rfl (lv_at hl 0 rfl) ?_
    refine lv_iload_n hx hb d_PatternBookModel_layDigits_31 rfl (lv_at hl 2 rfl) ?_
    refine uCall (WR := [(mo, .inr (6, [.int co, .int kd, .int sg, .int ex, .ref wa, .long hi, .long lo, .long y0_7, .long y0_8, .ref sa, .ref ma])), (wa, .inl (cW, 12, .inr (.inl y1_a))), (ma, .inl (cM, 1000, .inl md))]) (RT := [(cW, .long), (cM, .int)]) (va_runS (As := [.int x]) (rest := [.int x2]) ⟨hx, hb, hml, hown, hts⟩ (c_M_tail l D H.size x) ⟨uCB 1 hts k_302 k_257 k_303 (by decide +kernel) rfl rfl ⟨Nat.le_of_ble_eq_true rfl, Nat.le_of_ble_eq_true rfl⟩, hts _ k_304⟩ (uPreS hK hP hD hN [] rfl (by decide) [] rfl) rfl rfl hl.1 rfl (lv_room (Nat.le_of_ble_eq_true rfl)) d_PatternBookModel_layDigits_32 ⟨(Nat.le_of_ble_eq_true rfl), (Nat.le_of_ble_eq_true rfl)⟩) hK hP hD hS hA [] [0, 1, 2] rfl rfl (by decide) (by decide) [0, 1] rfl (fun u6 H locs hu6 hP hD hK hS => ?_)
    have hP : va_P D classes [(mo, .inr (6, [.int co, .int kd, .int sg, .int ex, .ref wa, .long hi, .long lo, .long y0_7, .long y0_8, .ref sa, .ref ma])), (wa, .inl (cW, 12, .inr (.inl y1_a))), (ma, .inl (cM, 1000, .inl md))] H := hP
    have hD : va_D A [(mo, .inr (6, [.int co, .int kd, .int sg, .int ex, .ref wa, .long hi, .long lo, .long y0_7, .long y0_8, .ref sa, .ref ma])), (wa, .inl (cW, 12, .inr (.inl y1_a))), (ma, .inl (cM, 1000, .inl md))] := hD
    have hK : va_K D classes [(cW, .long), (cM, .int)] s := hK
    refine W.eq (g2 := F0 m 35 ls [.int u6, .int x2]) rfl ?_
    have hk := hk u6 hu6
    refine lv_bipush (v := 10) hx hb d_PatternBookModel_layDigits_35 (by decide) ?_
    refine lv_idiv hx hb d_PatternBookModel_layDigits_37 (by decide) ?_
    refine lv_icmp_ge (tgt := 70) hx hb d_PatternBookModel_layDigits_38 (by decide) (fun c_7 => ?_) (fun c_7 => ?_)
    · refine lv_aload_n hx hb d_PatternBookModel_layDigits_70 rfl (lv_at hl 1 rfl) ?_
      refine va_get (D := D) (ci := 6) (v := .ref wa) (C := R_PatternBookModel) (T := F_PatternBookModel) (N := 11) hx hb hts i_PatternBookModel hown hK hP 0 rfl rfl 4 (by decide) (hts _ k_263) (fun _ h9 => h9) rfl d_PatternBookModel_layDigits_71 ?_
      refine lv_bipush (v := 8) hx hb d_PatternBookModel_layDigits_74 (by decide) ?_
      refine va_lald hx hb hK hP 1 0 rfl rfl (idx_in rfl) d_PatternBookModel_layDigits_76 ?_
      refine W.eq (g2 := F0 m 77 ls [.long (y1_a 8)]) rfl ?_
      refine lv_l2i hx hb d_PatternBookModel_layDigits_77 rfl ?_
      refine W.iret hx hb hr ?_ hS.2.2 d_PatternBookModel_layDigits_78
      exact uEnd ((Int64.toInt32 (y1_a 8)), y0_7, y0_8, y1_a) (hP.sub [0, 1, 2] rfl) (hK.sub [0, 1] rfl) (hD.sub [0, 1, 2] (by decide) rfl) hS (by have eu6 := hu6.symm; subst eu6; exact (show mlf_M_layDigits (n + 1) x md x2 y0_7 y0_8 y1_a = _ from (if_pos c_7).trans (rfl)).symm.trans hF) rfl
    · have hk := hk.2 c_7
      refine lv_aload_n hx hb d_PatternBookModel_layDigits_41 rfl (lv_at hl 1 rfl) ?_
      refine lv_aload_n hx hb d_PatternBookModel_layDigits_42 rfl (lv_at hl 1 rfl) ?_
      refine va_get (D := D) (ci := 6) (v := .ref ma) (C := R_PatternBookModel) (T := F_PatternBookModel) (N := 11) hx hb hts i_PatternBookModel hown hK hP 0 rfl rfl 10 (by decide) (hts _ k_351) (fun _ h9 => h9) rfl d_PatternBookModel_layDigits_43 ?_
      refine lv_aload_n hx hb d_PatternBookModel_layDigits_46 rfl (lv_at hl 1 rfl) ?_
      refine lv_iconst (v := 2) hx hb d_PatternBookModel_layDigits_47 (by decide) ?_
      refine lv_sipush (v := 1000) hx hb d_PatternBookModel_layDigits_48 (by decide) ?_
      refine uCall (WR := [(ma, .inl (cM, 1000, .inl md))]) (RT := [(cM, .int)]) (va_runV (As := [.int (2:Int32), .int (1000:Int32)]) (rest := [.ref ma, .ref mo]) ⟨hx, hb, hml, hown, hts⟩ (c_M_over2 l D mo wa sa ma cW H.size co kd sg ex hi lo y0_7 y0_8 y1_a) ⟨uCB 2 hts k_352 k_257 k_353 (by decide +kernel) rfl rfl ⟨Nat.le_of_ble_eq_true rfl, Nat.le_of_ble_eq_true rfl⟩, hts _ k_354, hts _ k_355⟩ (uPreV (ci := 6) (q0 := 0) hK hP hD hN [0, 1] rfl (by decide) [0] rfl rfl rfl) rfl rfl hl.1 rfl (lv_room (Nat.le_of_ble_eq_true rfl)) d_PatternBookModel_layDigits_51 ⟨(Nat.le_of_ble_eq_true rfl), (Nat.le_of_ble_eq_true rfl)⟩) hK hP hD hS hA [0, 1] [2] rfl rfl (by decide) (by decide) [1] rfl (fun u8 H locs hu8 hP hD hK hS => ?_)
      have hP : va_P D classes [(ma, .inl (cM, 1000, .inl md)), (mo, .inr (6, [.int co, .int kd, .int sg, .int ex, .ref wa, .long hi, .long lo, .long y0_7, .long y0_8, .ref sa, .ref ma])), (wa, .inl (cW, 12, .inr (.inl u8.2)))] H := hP
      have hD : va_D A [(ma, .inl (cM, 1000, .inl md)), (mo, .inr (6, [.int co, .int kd, .int sg, .int ex, .ref wa, .long hi, .long lo, .long y0_7, .long y0_8, .ref sa, .ref ma])), (wa, .inl (cW, 12, .inr (.inl u8.2)))] := hD
      have hK : va_K D classes [(cM, .int), (cW, .long)] s := hK
      refine W.eq (g2 := F0 m 54 ls [.int u8.1, .ref ma, .ref mo]) rfl ?_
      have hk := hk u8 hu8
      have hq9 := hk.1
      have hk := hk.2
      refine va_iald hx hb hK hP 0 0 rfl rfl hq9 d_PatternBookModel_layDigits_54 ?_
      refine lv_bipush (v := 10) hx hb d_PatternBookModel_layDigits_55 (by decide) ?_
      refine lv_iload_n hx hb d_PatternBookModel_layDigits_57 rfl (lv_at hl 0 rfl) ?_
      refine lv_imul hx hb d_PatternBookModel_layDigits_58 ?_
      refine lv_bipush (v := 10) hx hb d_PatternBookModel_layDigits_59 (by decide) ?_
      have ho10 := hk.1
      have hk := hk.2
      refine uCall (WR := [(ma, .inl (cM, 1000, .inl md)), (wa, .inl (cW, 12, .inr (.inl u8.2)))]) (RT := [(cM, .int), (cW, .long)]) (va_runV (As := [.int (md (Int32.toNatClampNeg u8.1)), .int ((10:Int32) * x2), .int (10:Int32)]) (rest := []) ⟨hx, hb, hml, hown, hts⟩ (c_M_lay l D mo wa sa ma H.size (md (Int32.toNatClampNeg u8.1)) ((10:Int32) * x2) (10:Int32) co kd sg ex hi lo y0_7 y0_8 ho10) ⟨uCB 3 hts k_343 k_257 k_344 (by decide +kernel) rfl rfl ⟨Nat.le_of_ble_eq_true rfl, Nat.le_of_ble_eq_true rfl⟩, hts _ k_345, hts _ k_346⟩ (uPreV (ci := 6) (q0 := 1) hK hP hD hN [1] rfl (by decide) [] rfl rfl rfl) rfl rfl hl.1 rfl (lv_room (Nat.le_of_ble_eq_true rfl)) d_PatternBookModel_layDigits_61 ⟨(Nat.le_of_ble_eq_true rfl), (Nat.le_of_ble_eq_true rfl)⟩) hK hP hD hS hA [1] [0, 2] rfl rfl (by decide) (by decide) [0, 1] rfl (fun u9 H locs hu9 hP hD hK hS => ?_)
      have hP : va_P D classes [(ma, .inl (cM, 1000, .inl md)), (wa, .inl (cW, 12, .inr (.inl u8.2))), (mo, .inr (6, [.int co, .int kd, .int sg, .int ex, .ref wa, .long hi, .long lo, .long u9.1, .long u9.2, .ref sa, .ref ma]))] H := hP
      have hD : va_D A [(ma, .inl (cM, 1000, .inl md)), (wa, .inl (cW, 12, .inr (.inl u8.2))), (mo, .inr (6, [.int co, .int kd, .int sg, .int ex, .ref wa, .long hi, .long lo, .long u9.1, .long u9.2, .ref sa, .ref ma]))] := hD
      have hK : va_K D classes [(cM, .int), (cW, .long)] s := hK
      refine W.eq (g2 := F0 m 64 ls []) rfl ?_
      refine lv_iinc (v := (x2 + (1:Int32))) (lv' := [(2, .int (x2 + (1:Int32))), (0, .ref mo), (1, .int x)]) hx hb d_PatternBookModel_layDigits_64 hl (k := 0) rfl rfl (by decide) rfl (fun ls hl => ?_)
      refine lv_goto (tgt := 30) hx hb d_PatternBookModel_layDigits_67 (by decide) ?_
      exact ih (x2 + (1:Int32)) u9.1 u9.2 u8.2 _ _ _ hk (by have eu6 := hu6.symm; subst eu6; have eu8 := hu8.symm; subst eu8; have eu9 := hu9.symm; subst eu9; exact (show mlf_M_layDigits (n + 1) x md x2 y0_7 y0_8 y1_a = _ from (if_neg c_7).trans (rfl)).symm.trans hF) (hK.sub [1, 0] rfl) (hP.sub [2, 1, 0] rfl) (hD.sub [2, 1, 0] (by decide) rfl) hS (lv_sub hl [0, 1, 2] rfl)
set_option maxHeartbeats 4000000 in
set_option maxRecDepth 100000 in
/-- PatternBookModel.layDigits(I)I -/
theorem c_M_layDigits (l : Launch) (D : va_G) (mo : Nat) (wa : Nat) (sa : Nat) (ma : Nat) (cW : ClassId) (cM : ClassId) (sz : Nat) (x : Int32) (co : Int32) (kd : Int32) (sg : Int32) (ex : Int32) (hi : Int64) (lo : Int64) (lh : Int64) (ll : Int64) (w : Nat → Int64) (md : Nat → Int32) (hk : mok_M_layDigits x w) : Met l y_PatternBookModel_layDigits (wsOf y_PatternBookModel_layDigits b_PatternBookModel_layDigits 3 (some .int)) ({ frames := 2, cells := 0, slots := 0, locals := 46 }) (uP D classes [(mo, .inr (6, [.int co, .int kd, .int sg, .int ex, .ref wa, .long hi, .long lo, .long lh, .long ll, .ref sa, .ref ma])), (wa, .inl (cW, 12, .inr (.inl w))), (ma, .inl (cM, 1000, .inl md))] [(cW, .long), (cM, .int)] sz [.ref mo, .int x]) (uQ D classes (fun u : Int32 × Int64 × Int64 × (Nat → Int64) => some (.int u.1)) (fun u => u = (sl m_M_layDigits) x lh ll w md) (va_A [(mo, .inr (6, [.int co, .int kd, .int sg, .int ex, .ref wa, .long hi, .long lo, .long lh, .long ll, .ref sa, .ref ma])), (wa, .inl (cW, 12, .inr (.inl w))), (ma, .inl (cM, 1000, .inl md))] sz) (fun _ => [(cW, .long), (cM, .int)]) (fun u => [(mo, .inr (6, [.int co, .int kd, .int sg, .int ex, .ref wa, .long hi, .long lo, .long u.2.1, .long u.2.2.1, .ref sa, .ref ma])), (wa, .inl (cW, 12, .inr (.inl u.2.2.2))), (ma, .inl (cM, 1000, .inl md))])) 0 0 (va_A [(mo, .inr (6, [.int co, .int kd, .int sg, .int ex, .ref wa, .long hi, .long lo, .long lh, .long ll, .ref sa, .ref ma])), (wa, .inl (cW, 12, .inr (.inl w))), (ma, .inl (cM, 1000, .inl md))] sz) := by
  rw [sl_eq m_M_layDigits]
  refine uBegin (by decide +kernel) (Nat.le_of_ble_eq_true rfl) ?_
  intro p e s m below meth c A ls H locs hx hb hr hts hown hlocks hml hin hA hP hK hD hN hS hl
  have hl : lv_has ls 3 [(0, .ref mo), (1, .int x)] := hl
  unfold mok_M_layDigits at hk
  refine lv_iconst (v := 0) hx hb d_PatternBookModel_layDigits_0 (by decide) ?_
  refine lv_istore_n (lv' := [(2, .int (0:Int32)), (0, .ref mo), (1, .int x)]) hx hb d_PatternBookModel_layDigits_1 rfl hl (by decide) rfl (fun ls hl => ?_)
  refine lv_iload_n hx hb d_PatternBookModel_layDigits_2 rfl (lv_at hl 0 rfl) ?_
  refine lv_iconst (v := 4) hx hb d_PatternBookModel_layDigits_3 (by decide) ?_
  refine lv_icmp_ge (tgt := 28) hx hb d_PatternBookModel_layDigits_4 (by decide) (fun c_1 => ?_) (fun c_1 => ?_)
  · exact absurd c_1 (by decide)
  · refine lv_aload_n hx hb d_PatternBookModel_layDigits_7 rfl (lv_at hl 1 rfl) ?_
    refine va_get (D := D) (ci := 6) (v := .ref wa) (C := R_PatternBookModel) (T := F_PatternBookModel) (N := 11) hx hb hts i_PatternBookModel hown hK hP 0 rfl rfl 4 (by decide) (hts _ k_263) (fun _ h9 => h9) rfl d_PatternBookModel_layDigits_8 ?_
    refine lv_bipush (v := 8) hx hb d_PatternBookModel_layDigits_11 (by decide) ?_
    refine lv_iload_n hx hb d_PatternBookModel_layDigits_13 rfl (lv_at hl 0 rfl) ?_
    refine lv_iadd hx hb d_PatternBookModel_layDigits_14 ?_
    refine W.eq (g2 := F0 m 15 ls [.int (8:Int32), .ref wa]) rfl ?_
    refine lv_aload_n hx hb d_PatternBookModel_layDigits_15 rfl (lv_at hl 1 rfl) ?_
    refine va_get (D := D) (ci := 6) (v := .ref wa) (C := R_PatternBookModel) (T := F_PatternBookModel) (N := 11) hx hb hts i_PatternBookModel hown hK hP 0 rfl rfl 4 (by decide) (hts _ k_263) (fun _ h9 => h9) rfl d_PatternBookModel_layDigits_16 ?_
    refine lv_iload_n hx hb d_PatternBookModel_layDigits_19 rfl (lv_at hl 0 rfl) ?_
    refine va_lald hx hb hK hP 1 0 rfl rfl (idx_in rfl) d_PatternBookModel_layDigits_20 ?_
    refine W.eq (g2 := F0 m 21 ls [.long (w 0), .int (8:Int32), .ref wa]) rfl ?_
    refine va_last hx hb hK hP hD hS 1 0 rfl rfl (idx_in rfl) d_PatternBookModel_layDigits_21 (fun H locs hP hD hS => ?_)
    have hP : va_P D classes [(mo, .inr (6, [.int co, .int kd, .int sg, .int ex, .ref wa, .long hi, .long lo, .long lh, .long ll, .ref sa, .ref ma])), (wa, .inl (cW, 12, .inr (.inl (vp_updL w 8 (w 0))))), (ma, .inl (cM, 1000, .inl md))] H := hP
    have hD : va_D A [(mo, .inr (6, [.int co, .int kd, .int sg, .int ex, .ref wa, .long hi, .long lo, .long lh, .long ll, .ref sa, .ref ma])), (wa, .inl (cW, 12, .inr (.inl (vp_updL w 8 (w 0))))), (ma, .inl (cM, 1000, .inl md))] := hD
    refine lv_iinc (v := (1:Int32)) (lv' := [(2, .int (1:Int32)), (0, .ref mo), (1, .int x)]) hx hb d_PatternBookModel_layDigits_22 hl (k := 0) rfl rfl (by decide) rfl (fun ls hl => ?_)
    refine lv_goto (tgt := 2) hx hb d_PatternBookModel_layDigits_25 (by decide) ?_
    refine lv_iload_n hx hb d_PatternBookModel_layDigits_2 rfl (lv_at hl 0 rfl) ?_
    refine lv_iconst (v := 4) hx hb d_PatternBookModel_layDigits_3 (by decide) ?_
    refine lv_icmp_ge (tgt := 28) hx hb d_PatternBookModel_layDigits_4 (by decide) (fun c_2 => ?_) (fun c_2 => ?_)
    · exact absurd c_2 (by decide)
    · refine lv_aload_n hx hb d_PatternBookModel_layDigits_7 rfl (lv_at hl 1 rfl) ?_
      refine va_get (D := D) (ci := 6) (v := .ref wa) (C := R_PatternBookModel) (T := F_PatternBookModel) (N := 11) hx hb hts i_PatternBookModel hown hK hP 0 rfl rfl 4 (by decide) (hts _ k_263) (fun _ h9 => h9) rfl d_PatternBookModel_layDigits_8 ?_
      refine lv_bipush (v := 8) hx hb d_PatternBookModel_layDigits_11 (by decide) ?_
      refine lv_iload_n hx hb d_PatternBookModel_layDigits_13 rfl (lv_at hl 0 rfl) ?_
      refine lv_iadd hx hb d_PatternBookModel_layDigits_14 ?_
      refine W.eq (g2 := F0 m 15 ls [.int (9:Int32), .ref wa]) rfl ?_
      refine lv_aload_n hx hb d_PatternBookModel_layDigits_15 rfl (lv_at hl 1 rfl) ?_
      refine va_get (D := D) (ci := 6) (v := .ref wa) (C := R_PatternBookModel) (T := F_PatternBookModel) (N := 11) hx hb hts i_PatternBookModel hown hK hP 0 rfl rfl 4 (by decide) (hts _ k_263) (fun _ h9 => h9) rfl d_PatternBookModel_layDigits_16 ?_
      refine lv_iload_n hx hb d_PatternBookModel_layDigits_19 rfl (lv_at hl 0 rfl) ?_
      refine va_lald hx hb hK hP 1 0 rfl rfl (idx_in rfl) d_PatternBookModel_layDigits_20 ?_
      refine W.eq (g2 := F0 m 21 ls [.long (w 1), .int (9:Int32), .ref wa]) rfl ?_
      refine va_last hx hb hK hP hD hS 1 0 rfl rfl (idx_in rfl) d_PatternBookModel_layDigits_21 (fun H locs hP hD hS => ?_)
      have hP : va_P D classes [(mo, .inr (6, [.int co, .int kd, .int sg, .int ex, .ref wa, .long hi, .long lo, .long lh, .long ll, .ref sa, .ref ma])), (wa, .inl (cW, 12, .inr (.inl (vp_updL (vp_updL w 8 (w 0)) 9 (w 1))))), (ma, .inl (cM, 1000, .inl md))] H := hP
      have hD : va_D A [(mo, .inr (6, [.int co, .int kd, .int sg, .int ex, .ref wa, .long hi, .long lo, .long lh, .long ll, .ref sa, .ref ma])), (wa, .inl (cW, 12, .inr (.inl (vp_updL (vp_updL w 8 (w 0)) 9 (w 1))))), (ma, .inl (cM, 1000, .inl md))] := hD
      refine lv_iinc (v := (2:Int32)) (lv' := [(2, .int (2:Int32)), (0, .ref mo), (1, .int x)]) hx hb d_PatternBookModel_layDigits_22 hl (k := 0) rfl rfl (by decide) rfl (fun ls hl => ?_)
      refine lv_goto (tgt := 2) hx hb d_PatternBookModel_layDigits_25 (by decide) ?_
      refine lv_iload_n hx hb d_PatternBookModel_layDigits_2 rfl (lv_at hl 0 rfl) ?_
      refine lv_iconst (v := 4) hx hb d_PatternBookModel_layDigits_3 (by decide) ?_
      refine lv_icmp_ge (tgt := 28) hx hb d_PatternBookModel_layDigits_4 (by decide) (fun c_3 => ?_) (fun c_3 => ?_)
      · exact absurd c_3 (by decide)
      · refine lv_aload_n hx hb d_PatternBookModel_layDigits_7 rfl (lv_at hl 1 rfl) ?_
        refine va_get (D := D) (ci := 6) (v := .ref wa) (C := R_PatternBookModel) (T := F_PatternBookModel) (N := 11) hx hb hts i_PatternBookModel hown hK hP 0 rfl rfl 4 (by decide) (hts _ k_263) (fun _ h9 => h9) rfl d_PatternBookModel_layDigits_8 ?_
        refine lv_bipush (v := 8) hx hb d_PatternBookModel_layDigits_11 (by decide) ?_
        refine lv_iload_n hx hb d_PatternBookModel_layDigits_13 rfl (lv_at hl 0 rfl) ?_
        refine lv_iadd hx hb d_PatternBookModel_layDigits_14 ?_
        refine W.eq (g2 := F0 m 15 ls [.int (10:Int32), .ref wa]) rfl ?_
        refine lv_aload_n hx hb d_PatternBookModel_layDigits_15 rfl (lv_at hl 1 rfl) ?_
        refine va_get (D := D) (ci := 6) (v := .ref wa) (C := R_PatternBookModel) (T := F_PatternBookModel) (N := 11) hx hb hts i_PatternBookModel hown hK hP 0 rfl rfl 4 (by decide) (hts _ k_263) (fun _ h9 => h9) rfl d_PatternBookModel_layDigits_16 ?_
        refine lv_iload_n hx hb d_PatternBookModel_layDigits_19 rfl (lv_at hl 0 rfl) ?_
        refine va_lald hx hb hK hP 1 0 rfl rfl (idx_in rfl) d_PatternBookModel_layDigits_20 ?_
        refine W.eq (g2 := F0 m 21 ls [.long (w 2), .int (10:Int32), .ref wa]) rfl ?_
        refine va_last hx hb hK hP hD hS 1 0 rfl rfl (idx_in rfl) d_PatternBookModel_layDigits_21 (fun H locs hP hD hS => ?_)
        have hP : va_P D classes [(mo, .inr (6, [.int co, .int kd, .int sg, .int ex, .ref wa, .long hi, .long lo, .long lh, .long ll, .ref sa, .ref ma])), (wa, .inl (cW, 12, .inr (.inl (vp_updL (vp_updL (vp_updL w 8 (w 0)) 9 (w 1)) 10 (w 2))))), (ma, .inl (cM, 1000, .inl md))] H := hP
        have hD : va_D A [(mo, .inr (6, [.int co, .int kd, .int sg, .int ex, .ref wa, .long hi, .long lo, .long lh, .long ll, .ref sa, .ref ma])), (wa, .inl (cW, 12, .inr (.inl (vp_updL (vp_updL (vp_updL w 8 (w 0)) 9 (w 1)) 10 (w 2))))), (ma, .inl (cM, 1000, .inl md))] := hD
        refine lv_iinc (v := (3:Int32)) (lv' := [(2, .int (3:Int32)), (0, .ref mo), (1, .int x)]) hx hb d_PatternBookModel_layDigits_22 hl (k := 0) rfl rfl (by decide) rfl (fun ls hl => ?_)
        refine lv_goto (tgt := 2) hx hb d_PatternBookModel_layDigits_25 (by decide) ?_
        refine lv_iload_n hx hb d_PatternBookModel_layDigits_2 rfl (lv_at hl 0 rfl) ?_
        refine lv_iconst (v := 4) hx hb d_PatternBookModel_layDigits_3 (by decide) ?_
        refine lv_icmp_ge (tgt := 28) hx hb d_PatternBookModel_layDigits_4 (by decide) (fun c_4 => ?_) (fun c_4 => ?_)
        · exact absurd c_4 (by decide)
        · refine lv_aload_n hx hb d_PatternBookModel_layDigits_7 rfl (lv_at hl 1 rfl) ?_
          refine va_get (D := D) (ci := 6) (v := .ref wa) (C := R_PatternBookModel) (T := F_PatternBookModel) (N := 11) hx hb hts i_PatternBookModel hown hK hP 0 rfl rfl 4 (by decide) (hts _ k_263) (fun _ h9 => h9) rfl d_PatternBookModel_layDigits_8 ?_
          refine lv_bipush (v := 8) hx hb d_PatternBookModel_layDigits_11 (by decide) ?_
          refine lv_iload_n hx hb d_PatternBookModel_layDigits_13 rfl (lv_at hl 0 rfl) ?_
          refine lv_iadd hx hb d_PatternBookModel_layDigits_14 ?_
          refine W.eq (g2 := F0 m 15 ls [.int (11:Int32), .ref wa]) rfl ?_
          refine lv_aload_n hx hb d_PatternBookModel_layDigits_15 rfl (lv_at hl 1 rfl) ?_
          refine va_get (D := D) (ci := 6) (v := .ref wa) (C := R_PatternBookModel) (T := F_PatternBookModel) (N := 11) hx hb hts i_PatternBookModel hown hK hP 0 rfl rfl 4 (by decide) (hts _ k_263) (fun _ h9 => h9) rfl d_PatternBookModel_layDigits_16 ?_
          refine lv_iload_n hx hb d_PatternBookModel_layDigits_19 rfl (lv_at hl 0 rfl) ?_
          refine va_lald hx hb hK hP 1 0 rfl rfl (idx_in rfl) d_PatternBookModel_layDigits_20 ?_
          refine W.eq (g2 := F0 m 21 ls [.long (w 3), .int (11:Int32), .ref wa]) rfl ?_
          refine va_last hx hb hK hP hD hS 1 0 rfl rfl (idx_in rfl) d_PatternBookModel_layDigits_21 (fun H locs hP hD hS => ?_)
          have hP : va_P D classes [(mo, .inr (6, [.int co, .int kd, .int sg, .int ex, .ref wa, .long hi, .long lo, .long lh, .long ll, .ref sa, .ref ma])), (wa, .inl (cW, 12, .inr (.inl (vp_updL (vp_updL (vp_updL (vp_updL w 8 (w 0)) 9 (w 1)) 10 (w 2)) 11 (w 3))))), (ma, .inl (cM, 1000, .inl md))] H := hP
          have hD : va_D A [(mo, .inr (6, [.int co, .int kd, .int sg, .int ex, .ref wa, .long hi, .long lo, .long lh, .long ll, .ref sa, .ref ma])), (wa, .inl (cW, 12, .inr (.inl (vp_updL (vp_updL (vp_updL (vp_updL w 8 (w 0)) 9 (w 1)) 10 (w 2)) 11 (w 3))))), (ma, .inl (cM, 1000, .inl md))] := hD
          refine lv_iinc (v := (4:Int32)) (lv' := [(2, .int (4:Int32)), (0, .ref mo), (1, .int x)]) hx hb d_PatternBookModel_layDigits_22 hl (k := 0) rfl rfl (by decide) rfl (fun ls hl => ?_)
          refine lv_goto (tgt := 2) hx hb d_PatternBookModel_layDigits_25 (by decide) ?_
          refine lv_iload_n hx hb d_PatternBookModel_layDigits_2 rfl (lv_at hl 0 rfl) ?_
          refine lv_iconst (v := 4) hx hb d_PatternBookModel_layDigits_3 (by decide) ?_
          refine lv_icmp_ge (tgt := 28) hx hb d_PatternBookModel_layDigits_4 (by decide) (fun c_5 => ?_) (fun c_5 => ?_)
          · refine lv_iconst (v := 0) hx hb d_PatternBookModel_layDigits_28 (by decide) ?_
            refine lv_istore_n (lv' := [(2, .int (0:Int32)), (0, .ref mo), (1, .int x)]) hx hb d_PatternBookModel_layDigits_29 rfl hl (by decide) rfl (fun ls hl => ?_)
            exact lp_M_layDigits l D mo wa sa ma cW cM x co kd sg ex hi lo lh ll w md hx hb hr hts hown hlocks hml hA hN 200 (0:Int32) lh ll (vp_updL (vp_updL (vp_updL (vp_updL w 8 (w 0)) 9 (w 1)) 10 (w 2)) 11 (w 3)) _ _ _ hk (by  exact (rfl).symm) hK hP hD hS hl
          · exact absurd (by decide) c_5
set_option maxHeartbeats 4000000 in
set_option maxRecDepth 100000 in
/-- PatternBookModel.closeDecimal(I)V -/
theorem c_M_closeDecimal (l : Launch) (D : va_G) (mo : Nat) (wa : Nat) (sa : Nat) (ma : Nat) (cW : ClassId) (cM : ClassId) (sz : Nat) (x : Int32) (co : Int32) (kd : Int32) (sg : Int32) (ex : Int32) (hi : Int64) (lo : Int64) (lh : Int64) (ll : Int64) (w : Nat → Int64) (md : Nat → Int32) (hk : mok_M_closeDecimal x w) : Met l y_PatternBookModel_closeDecimal (wsOf y_PatternBookModel_closeDecimal b_PatternBookModel_closeDecimal 8 none) ({ frames := 3, cells := 0, slots := 0, locals := 68 }) (uP D classes [(mo, .inr (6, [.int co, .int kd, .int sg, .int ex, .ref wa, .long hi, .long lo, .long lh, .long ll, .ref sa, .ref ma])), (wa, .inl (cW, 12, .inr (.inl w))), (ma, .inl (cM, 1000, .inl md))] [(cW, .long), (cM, .int)] sz [.ref mo, .int x]) (uQ D classes (fun _ : Int64 × Int64 × (Nat → Int64) => none) (fun u => u = (sl m_M_closeDecimal) x kd ex lh ll w md) (va_A [(mo, .inr (6, [.int co, .int kd, .int sg, .int ex, .ref wa, .long hi, .long lo, .long lh, .long ll, .ref sa, .ref ma])), (wa, .inl (cW, 12, .inr (.inl w))), (ma, .inl (cM, 1000, .inl md))] sz) (fun _ => [(cW, .long), (cM, .int)]) (fun u => [(mo, .inr (6, [.int co, .int kd, .int sg, .int ex, .ref wa, .long hi, .long lo, .long u.1, .long u.2.1, .ref sa, .ref ma])), (wa, .inl (cW, 12, .inr (.inl u.2.2))), (ma, .inl (cM, 1000, .inl md))])) 0 0 (va_A [(mo, .inr (6, [.int co, .int kd, .int sg, .int ex, .ref wa, .long hi, .long lo, .long lh, .long ll, .ref sa, .ref ma])), (wa, .inl (cW, 12, .inr (.inl w))), (ma, .inl (cM, 1000, .inl md))] sz) := by
  rw [sl_eq m_M_closeDecimal]
  refine uBegin (by decide +kernel) (Nat.le_of_ble_eq_true rfl) ?_
  intro p e s m below meth c A ls H locs hx hb hr hts hown hlocks hml hin hA hP hK hD hN hS hl
  have hl : lv_has ls 8 [(0, .ref mo), (1, .int x)] := hl
  unfold mok_M_closeDecimal at hk
  refine lv_iload_n hx hb d_PatternBookModel_closeDecimal_0 rfl (lv_at hl 1 rfl) ?_
  refine uCall (WR := [(mo, .inr (6, [.int co, .int kd, .int sg, .int ex, .ref wa, .long hi, .long lo, .long lh, .long ll, .ref sa, .ref ma])), (wa, .inl (cW, 12, .inr (.inl w))), (ma, .inl (cM, 1000, .inl md))]) (RT := [(cW, .long), (cM, .int)]) (va_runS (As := [.int x]) (rest := []) ⟨hx, hb, hml, hown, hts⟩ (c_M_width l D H.size x) ⟨uCB 1 hts k_287 k_257 k_288 (by decide +kernel) rfl rfl ⟨Nat.le_of_ble_eq_true rfl, Nat.le_of_ble_eq_true rfl⟩, hts _ k_289⟩ (uPreS hK hP hD hN [] rfl (by decide) [] rfl) rfl rfl hl.1 rfl (lv_room (Nat.le_of_ble_eq_true rfl)) d_PatternBookModel_closeDecimal_1 ⟨(Nat.le_of_ble_eq_true rfl), (Nat.le_of_ble_eq_true rfl)⟩) hK hP hD hS hA [] [0, 1, 2] rfl rfl (by decide) (by decide) [0, 1] rfl (fun u1 H locs hu1 hP hD hK hS => ?_)
  have hP : va_P D classes [(mo, .inr (6, [.int co, .int kd, .int sg, .int ex, .ref wa, .long hi, .long lo, .long lh, .long ll, .ref sa, .ref ma])), (wa, .inl (cW, 12, .inr (.inl w))), (ma, .inl (cM, 1000, .inl md))] H := hP
  have hD : va_D A [(mo, .inr (6, [.int co, .int kd, .int sg, .int ex, .ref wa, .long hi, .long lo, .long lh, .long ll, .ref sa, .ref ma])), (wa, .inl (cW, 12, .inr (.inl w))), (ma, .inl (cM, 1000, .inl md))] := hD
  have hK : va_K D classes [(cW, .long), (cM, .int)] s := hK
  refine W.eq (g2 := F0 m 4 ls [.int u1]) rfl ?_
  have hk := hk u1 hu1
  refine lv_istore_n (lv' := [(2, .int u1), (0, .ref mo), (1, .int x)]) hx hb d_PatternBookModel_closeDecimal_4 rfl hl (by decide) rfl (fun ls hl => ?_)
  refine lv_iload_n hx hb d_PatternBookModel_closeDecimal_5 rfl (lv_at hl 2 rfl) ?_
  refine uCall (WR := [(mo, .inr (6, [.int co, .int kd, .int sg, .int ex, .ref wa, .long hi, .long lo, .long lh, .long ll, .ref sa, .ref ma])), (wa, .inl (cW, 12, .inr (.inl w))), (ma, .inl (cM, 1000, .inl md))]) (RT := [(cW, .long), (cM, .int)]) (va_runS (As := [.int x]) (rest := []) ⟨hx, hb, hml, hown, hts⟩ (c_M_tail l D H.size x) ⟨uCB 1 hts k_302 k_257 k_303 (by decide +kernel) rfl rfl ⟨Nat.le_of_ble_eq_true rfl, Nat.le_of_ble_eq_true rfl⟩, hts _ k_304⟩ (uPreS hK hP hD hN [] rfl (by decide) [] rfl) rfl rfl hl.1 rfl (lv_room (Nat.le_of_ble_eq_true rfl)) d_PatternBookModel_closeDecimal_6 ⟨(Nat.le_of_ble_eq_true rfl), (Nat.le_of_ble_eq_true rfl)⟩) hK hP hD hS hA [] [0, 1, 2] rfl rfl (by decide) (by decide) [0, 1] rfl (fun u2 H locs hu2 hP hD hK hS => ?_)
  have hP : va_P D classes [(mo, .inr (6, [.int co, .int kd, .int sg, .int ex, .ref wa, .long hi, .long lo, .long lh, .long ll, .ref sa, .ref ma])), (wa, .inl (cW, 12, .inr (.inl w))), (ma, .inl (cM, 1000, .inl md))] H := hP
  have hD : va_D A [(mo, .inr (6, [.int co, .int kd, .int sg, .int ex, .ref wa, .long hi, .long lo, .long lh, .long ll, .ref sa, .ref ma])), (wa, .inl (cW, 12, .inr (.inl w))), (ma, .inl (cM, 1000, .inl md))] := hD
  have hK : va_K D classes [(cW, .long), (cM, .int)] s := hK
  refine W.eq (g2 := F0 m 9 ls [.int u2]) rfl ?_
  have hk := hk u2 hu2
  refine lv_istore_n (lv' := [(3, .int u2), (2, .int u1), (0, .ref mo), (1, .int x)]) hx hb d_PatternBookModel_closeDecimal_9 rfl hl (by decide) rfl (fun ls hl => ?_)
  refine lv_iload_n hx hb d_PatternBookModel_closeDecimal_10 rfl (lv_at hl 1 rfl) ?_
  refine lv_iconst (v := 1) hx hb d_PatternBookModel_closeDecimal_11 (by decide) ?_
  refine lv_isub hx hb d_PatternBookModel_closeDecimal_12 ?_
  refine lv_iload_n hx hb d_PatternBookModel_closeDecimal_13 rfl (lv_at hl 0 rfl) ?_
  refine lv_isub hx hb d_PatternBookModel_closeDecimal_14 ?_
  refine lv_istore (lv' := [(4, .int ((u1 - (1:Int32)) - u2)), (3, .int u2), (2, .int u1), (0, .ref mo), (1, .int x)]) hx hb d_PatternBookModel_closeDecimal_15 hl (by decide) rfl (fun ls hl => ?_)
  refine lv_aload_n hx hb d_PatternBookModel_closeDecimal_17 rfl (lv_at hl 3 rfl) ?_
  refine va_get (D := D) (ci := 6) (v := .int kd) (C := R_PatternBookModel) (T := F_PatternBookModel) (N := 11) hx hb hts i_PatternBookModel hown hK hP 0 rfl rfl 1 (by decide) (hts _ k_318) (fun _ h9 => h9) rfl d_PatternBookModel_closeDecimal_18 ?_
  refine lv_iconst (v := 1) hx hb d_PatternBookModel_closeDecimal_21 (by decide) ?_
  refine lv_icmp_ne (tgt := 37) hx hb d_PatternBookModel_closeDecimal_22 (by decide) (fun c_3 => ?_) (fun c_3 => ?_)
  · have hk := hk.2
    refine lv_aload_n hx hb d_PatternBookModel_closeDecimal_37 rfl (lv_at hl 3 rfl) ?_
    refine va_get (D := D) (ci := 6) (v := .int kd) (C := R_PatternBookModel) (T := F_PatternBookModel) (N := 11) hx hb hts i_PatternBookModel hown hK hP 0 rfl rfl 1 (by decide) (hts _ k_318) (fun _ h9 => h9) rfl d_PatternBookModel_closeDecimal_38 ?_
    refine lv_if_eq (tgt := 98) hx hb d_PatternBookModel_closeDecimal_41 (by decide) (fun c_4 => ?_) (fun c_4 => ?_)
    · have hk := hk.1
      refine lv_aload_n hx hb d_PatternBookModel_closeDecimal_98 rfl (lv_at hl 3 rfl) ?_
      refine va_get (D := D) (ci := 6) (v := .int ex) (C := R_PatternBookModel) (T := F_PatternBookModel) (N := 11) hx hb hts i_PatternBookModel hown hK hP 0 rfl rfl 3 (by decide) (hts _ k_313) (fun _ h9 => h9) rfl d_PatternBookModel_closeDecimal_99 ?_
      refine lv_iload_n hx hb d_PatternBookModel_closeDecimal_102 rfl (lv_at hl 4 rfl) ?_
      refine uCall (WR := [(mo, .inr (6, [.int co, .int kd, .int sg, .int ex, .ref wa, .long hi, .long lo, .long lh, .long ll, .ref sa, .ref ma])), (wa, .inl (cW, 12, .inr (.inl w))), (ma, .inl (cM, 1000, .inl md))]) (RT := [(cW, .long), (cM, .int)]) (va_runS (As := [.int x]) (rest := [.int ex]) ⟨hx, hb, hml, hown, hts⟩ (c_M_least l D H.size x) ⟨uCB 1 hts k_310 k_257 k_311 (by decide +kernel) rfl rfl ⟨Nat.le_of_ble_eq_true rfl, Nat.le_of_ble_eq_true rfl⟩, hts _ k_312⟩ (uPreS hK hP hD hN [] rfl (by decide) [] rfl) rfl rfl hl.1 rfl (lv_room (Nat.le_of_ble_eq_true rfl)) d_PatternBookModel_closeDecimal_103 ⟨(Nat.le_of_ble_eq_true rfl), (Nat.le_of_ble_eq_true rfl)⟩) hK hP hD hS hA [] [0, 1, 2] rfl rfl (by decide) (by decide) [0, 1] rfl (fun u5 H locs hu5 hP hD hK hS => ?_)
      have hP : va_P D classes [(mo, .inr (6, [.int co, .int kd, .int sg, .int ex, .ref wa, .long hi, .long lo, .long lh, .long ll, .ref sa, .ref ma])), (wa, .inl (cW, 12, .inr (.inl w))), (ma, .inl (cM, 1000, .inl md))] H := hP
      have hD : va_D A [(mo, .inr (6, [.int co, .int kd, .int sg, .int ex, .ref wa, .long hi, .long lo, .long lh, .long ll, .ref sa, .ref ma])), (wa, .inl (cW, 12, .inr (.inl w))), (ma, .inl (cM, 1000, .inl md))] := hD
      have hK : va_K D classes [(cW, .long), (cM, .int)] s := hK
      refine W.eq (g2 := F0 m 106 ls [.int u5, .int ex]) rfl ?_
      refine lv_isub hx hb d_PatternBookModel_closeDecimal_106 ?_
      refine lv_istore (lv' := [(5, .int (ex - u5)), (4, .int ((u1 - (1:Int32)) - u2)), (3, .int u2), (2, .int u1), (0, .ref mo), (1, .int x)]) hx hb d_PatternBookModel_closeDecimal_107 hl (by decide) rfl (fun ls hl => ?_)
      refine lv_iload_n hx hb d_PatternBookModel_closeDecimal_109 rfl (lv_at hl 5 rfl) ?_
      refine lv_bipush (v := 6) hx hb d_PatternBookModel_closeDecimal_110 (by decide) ?_
      refine lv_icmp_le (tgt := 182) hx hb d_PatternBookModel_closeDecimal_112 (by decide) (fun c_6 => ?_) (fun c_6 => ?_)
      · have hk := hk.1 c_6
        refine lv_aload_n hx hb d_PatternBookModel_closeDecimal_182 rfl (lv_at hl 4 rfl) ?_
        refine lv_iconst (v := 0) hx hb d_PatternBookModel_closeDecimal_183 (by decide) ?_
        refine lv_iload_n hx hb d_PatternBookModel_closeDecimal_184 rfl (lv_at hl 2 rfl) ?_
        refine lv_iconst (v := 3) hx hb d_PatternBookModel_closeDecimal_185 (by decide) ?_
        refine lv_iadd hx hb d_PatternBookModel_closeDecimal_186 ?_
        have ho7 := hk.1
        have hk := hk.2
        refine uCall (WR := [(ma, .inl (cM, 1000, .inl md))]) (RT := [(cM, .int)]) (va_runV (As := [.int (0:Int32), .int (u2 + (3:Int32))]) (rest := []) ⟨hx, hb, hml, hown, hts⟩ (c_M_bitOf l D mo wa sa ma cW H.size (u2 + (3:Int32)) co kd sg ex hi lo lh ll w ho7) ⟨uCB 2 hts k_283 k_257 k_284 (by decide +kernel) rfl rfl ⟨Nat.le_of_ble_eq_true rfl, Nat.le_of_ble_eq_true rfl⟩, hts _ k_285, hts _ k_286⟩ (uPreV (ci := 6) (q0 := 0) hK hP hD hN [0, 1] rfl (by decide) [0] rfl rfl rfl) rfl rfl hl.1 rfl (lv_room (Nat.le_of_ble_eq_true rfl)) d_PatternBookModel_closeDecimal_187 ⟨(Nat.le_of_ble_eq_true rfl), (Nat.le_of_ble_eq_true rfl)⟩) hK hP hD hS hA [0, 1] [2] rfl rfl (by decide) (by decide) [1] rfl (fun u7 H locs hu7 hP hD hK hS => ?_)
        have hP : va_P D classes [(ma, .inl (cM, 1000, .inl md)), (mo, .inr (6, [.int co, .int kd, .int sg, .int ex, .ref wa, .long hi, .long lo, .long lh, .long ll, .ref sa, .ref ma])), (wa, .inl (cW, 12, .inr (.inl w)))] H := hP
        have hD : va_D A [(ma, .inl (cM, 1000, .inl md)), (mo, .inr (6, [.int co, .int kd, .int sg, .int ex, .ref wa, .long hi, .long lo, .long lh, .long ll, .ref sa, .ref ma])), (wa, .inl (cW, 12, .inr (.inl w)))] := hD
        have hK : va_K D classes [(cM, .int), (cW, .long)] s := hK
        refine W.eq (g2 := F0 m 190 ls [.int u7]) rfl ?_
        refine lv_iconst (v := 1) hx hb d_PatternBookModel_closeDecimal_190 (by decide) ?_
        refine lv_icmp_ne (tgt := 198) hx hb d_PatternBookModel_closeDecimal_191 (by decide) (fun c_8 => ?_) (fun c_8 => ?_)
        · have hk := hk.2
          refine lv_iconst (v := 0) hx hb d_PatternBookModel_closeDecimal_198 (by decide) ?_
          refine lv_istore (lv' := [(6, .int (0:Int32)), (5, .int (ex - u5)), (4, .int ((u1 - (1:Int32)) - u2)), (3, .int u2), (2, .int u1), (0, .ref mo), (1, .int x)]) hx hb d_PatternBookModel_closeDecimal_199 hl (by decide) rfl (fun ls hl => ?_)
          refine lv_aload_n hx hb d_PatternBookModel_closeDecimal_201 rfl (lv_at hl 5 rfl) ?_
          refine lv_iload hx hb d_PatternBookModel_closeDecimal_202 (lv_at hl 1 rfl) ?_
          refine lv_iload hx hb d_PatternBookModel_closeDecimal_204 (lv_at hl 0 rfl) ?_
          refine lv_if_eq (tgt := 215) hx hb d_PatternBookModel_closeDecimal_206 (by decide) (fun c_9 => ?_) (fun c_9 => ?_)
          · refine lv_iload_n hx hb d_PatternBookModel_closeDecimal_215 rfl (lv_at hl 3 rfl) ?_
            refine lv_iconst (v := 3) hx hb d_PatternBookModel_closeDecimal_216 (by decide) ?_
            refine lv_iadd hx hb d_PatternBookModel_closeDecimal_217 ?_
            refine lv_iload hx hb d_PatternBookModel_closeDecimal_218 (lv_at hl 2 rfl) ?_
            refine lv_iconst (v := 3) hx hb d_PatternBookModel_closeDecimal_220 (by decide) ?_
            refine lv_isub hx hb d_PatternBookModel_closeDecimal_221 ?_
            have ho10 := hk.1
            have hk := hk.2
            refine uCall (WR := [(ma, .inl (cM, 1000, .inl md)), (wa, .inl (cW, 12, .inr (.inl w)))]) (RT := [(cM, .int), (cW, .long)]) (va_runV (As := [.int (ex - u5), .int (u2 + (3:Int32)), .int (((u1 - (1:Int32)) - u2) - (3:Int32))]) (rest := []) ⟨hx, hb, hml, hown, hts⟩ (c_M_lay l D mo wa sa ma H.size (ex - u5) (u2 + (3:Int32)) (((u1 - (1:Int32)) - u2) - (3:Int32)) co kd sg ex hi lo lh ll ho10) ⟨uCB 3 hts k_343 k_257 k_344 (by decide +kernel) rfl rfl ⟨Nat.le_of_ble_eq_true rfl, Nat.le_of_ble_eq_true rfl⟩, hts _ k_345, hts _ k_346⟩ (uPreV (ci := 6) (q0 := 1) hK hP hD hN [1] rfl (by decide) [] rfl rfl rfl) rfl rfl hl.1 rfl (lv_room (Nat.le_of_ble_eq_true rfl)) d_PatternBookModel_closeDecimal_222 ⟨(Nat.le_of_ble_eq_true rfl), (Nat.le_of_ble_eq_true rfl)⟩) hK hP hD hS hA [1] [0, 2] rfl rfl (by decide) (by decide) [0, 1] rfl (fun u10 H locs hu10 hP hD hK hS => ?_)
            have hP : va_P D classes [(ma, .inl (cM, 1000, .inl md)), (wa, .inl (cW, 12, .inr (.inl w))), (mo, .inr (6, [.int co, .int kd, .int sg, .int ex, .ref wa, .long hi, .long lo, .long u10.1, .long u10.2, .ref sa, .ref ma]))] H := hP
            have hD : va_D A [(ma, .inl (cM, 1000, .inl md)), (wa, .inl (cW, 12, .inr (.inl w))), (mo, .inr (6, [.int co, .int kd, .int sg, .int ex, .ref wa, .long hi, .long lo, .long u10.1, .long u10.2, .ref sa, .ref ma]))] := hD
            have hK : va_K D classes [(cM, .int), (cW, .long)] s := hK
            refine W.eq (g2 := F0 m 225 ls []) rfl ?_
            refine lv_aload_n hx hb d_PatternBookModel_closeDecimal_225 rfl (lv_at hl 5 rfl) ?_
            refine lv_iconst (v := 0) hx hb d_PatternBookModel_closeDecimal_226 (by decide) ?_
            refine lv_iload hx hb d_PatternBookModel_closeDecimal_227 (lv_at hl 0 rfl) ?_
            refine lv_if_eq (tgt := 238) hx hb d_PatternBookModel_closeDecimal_229 (by decide) (fun c_11 => ?_) (fun c_11 => ?_)
            · refine lv_iload_n hx hb d_PatternBookModel_closeDecimal_238 rfl (lv_at hl 3 rfl) ?_
              refine lv_iconst (v := 3) hx hb d_PatternBookModel_closeDecimal_239 (by decide) ?_
              refine lv_iadd hx hb d_PatternBookModel_closeDecimal_240 ?_
              have ho12 := hk
              refine uCall (WR := [(ma, .inl (cM, 1000, .inl md))]) (RT := [(cM, .int)]) (va_runV (As := [.int (0:Int32), .int (u2 + (3:Int32))]) (rest := []) ⟨hx, hb, hml, hown, hts⟩ (c_M_layNumber l D mo wa sa ma cW H.size (0:Int32) (u2 + (3:Int32)) co kd sg ex hi lo u10.1 u10.2 w ho12) ⟨uCB 2 hts k_347 k_257 k_348 (by decide +kernel) rfl rfl ⟨Nat.le_of_ble_eq_true rfl, Nat.le_of_ble_eq_true rfl⟩, hts _ k_349, hts _ k_350⟩ (uPreV (ci := 6) (q0 := 2) hK hP hD hN [2, 1] rfl (by decide) [1] rfl rfl rfl) rfl rfl hl.1 rfl (lv_room (Nat.le_of_ble_eq_true rfl)) d_PatternBookModel_closeDecimal_241 ⟨(Nat.le_of_ble_eq_true rfl), (Nat.le_of_ble_eq_true rfl)⟩) hK hP hD hS hA [2, 1] [0] rfl rfl (by decide) (by decide) [0] rfl (fun u12 H locs hu12 hP hD hK hS => ?_)
              have hP : va_P D classes [(ma, .inl (cM, 1000, .inl md)), (mo, .inr (6, [.int co, .int kd, .int sg, .int ex, .ref wa, .long hi, .long lo, .long u12.1, .long u12.2, .ref sa, .ref ma])), (wa, .inl (cW, 12, .inr (.inl w)))] H := hP
              have hD : va_D A [(ma, .inl (cM, 1000, .inl md)), (mo, .inr (6, [.int co, .int kd, .int sg, .int ex, .ref wa, .long hi, .long lo, .long u12.1, .long u12.2, .ref sa, .ref ma])), (wa, .inl (cW, 12, .inr (.inl w)))] := hD
              have hK : va_K D classes [(cM, .int), (cW, .long)] s := hK
              refine W.eq (g2 := F0 m 244 ls []) rfl ?_
              refine lv_iload hx hb d_PatternBookModel_closeDecimal_244 (lv_at hl 0 rfl) ?_
              refine lv_if_eq (tgt := 258) hx hb d_PatternBookModel_closeDecimal_246 (by decide) (fun c_13 => ?_) (fun c_13 => ?_)
              · refine W.vret hx hb hr ?_ hS.2.2 d_PatternBookModel_closeDecimal_258
                exact uEnd (u12.1, u12.2, w) (hP.sub [1, 2, 0] rfl) (hK.sub [1, 0] rfl) (hD.sub [1, 2, 0] (by decide) rfl) hS (by have eu1 := hu1.symm; subst eu1; have eu2 := hu2.symm; subst eu2; have eu5 := hu5.symm; subst eu5; have eu7 := hu7.symm; subst eu7; have eu10 := hu10.symm; subst eu10; have eu12 := hu12.symm; subst eu12; exact ((if_neg c_3).trans ((if_pos c_4).trans ((if_pos c_6).trans ((if_neg c_8).trans (rfl))))).symm) rfl
              · exact absurd (by decide) c_13
            · exact absurd (by decide) c_11
          · exact absurd (by decide) c_9
        · have hk := hk.1
          refine lv_iconst (v := 1) hx hb d_PatternBookModel_closeDecimal_194 (by decide) ?_
          refine lv_goto (tgt := 199) hx hb d_PatternBookModel_closeDecimal_195 (by decide) ?_
          refine lv_istore (lv' := [(6, .int (1:Int32)), (5, .int (ex - u5)), (4, .int ((u1 - (1:Int32)) - u2)), (3, .int u2), (2, .int u1), (0, .ref mo), (1, .int x)]) hx hb d_PatternBookModel_closeDecimal_199 hl (by decide) rfl (fun ls hl => ?_)
          refine lv_aload_n hx hb d_PatternBookModel_closeDecimal_201 rfl (lv_at hl 5 rfl) ?_
          refine lv_iload hx hb d_PatternBookModel_closeDecimal_202 (lv_at hl 1 rfl) ?_
          refine lv_iload hx hb d_PatternBookModel_closeDecimal_204 (lv_at hl 0 rfl) ?_
          refine lv_if_eq (tgt := 215) hx hb d_PatternBookModel_closeDecimal_206 (by decide) (fun c_14 => ?_) (fun c_14 => ?_)
          · exact absurd c_14 (by decide)
          · refine lv_iload_n hx hb d_PatternBookModel_closeDecimal_209 rfl (lv_at hl 3 rfl) ?_
            refine lv_iconst (v := 1) hx hb d_PatternBookModel_closeDecimal_210 (by decide) ?_
            refine lv_iadd hx hb d_PatternBookModel_closeDecimal_211 ?_
            refine lv_goto (tgt := 218) hx hb d_PatternBookModel_closeDecimal_212 (by decide) ?_
            refine lv_iload hx hb d_PatternBookModel_closeDecimal_218 (lv_at hl 2 rfl) ?_
            refine lv_iconst (v := 3) hx hb d_PatternBookModel_closeDecimal_220 (by decide) ?_
            refine lv_isub hx hb d_PatternBookModel_closeDecimal_221 ?_
            have ho15 := hk.1
            have hk := hk.2
            refine uCall (WR := [(ma, .inl (cM, 1000, .inl md)), (wa, .inl (cW, 12, .inr (.inl w)))]) (RT := [(cM, .int), (cW, .long)]) (va_runV (As := [.int (ex - u5), .int (u2 + (1:Int32)), .int (((u1 - (1:Int32)) - u2) - (3:Int32))]) (rest := []) ⟨hx, hb, hml, hown, hts⟩ (c_M_lay l D mo wa sa ma H.size (ex - u5) (u2 + (1:Int32)) (((u1 - (1:Int32)) - u2) - (3:Int32)) co kd sg ex hi lo lh ll ho15) ⟨uCB 3 hts k_343 k_257 k_344 (by decide +kernel) rfl rfl ⟨Nat.le_of_ble_eq_true rfl, Nat.le_of_ble_eq_true rfl⟩, hts _ k_345, hts _ k_346⟩ (uPreV (ci := 6) (q0 := 1) hK hP hD hN [1] rfl (by decide) [] rfl rfl rfl) rfl rfl hl.1 rfl (lv_room (Nat.le_of_ble_eq_true rfl)) d_PatternBookModel_closeDecimal_222 ⟨(Nat.le_of_ble_eq_true rfl), (Nat.le_of_ble_eq_true rfl)⟩) hK hP hD hS hA [1] [0, 2] rfl rfl (by decide) (by decide) [0, 1] rfl (fun u15 H locs hu15 hP hD hK hS => ?_)
            have hP : va_P D classes [(ma, .inl (cM, 1000, .inl md)), (wa, .inl (cW, 12, .inr (.inl w))), (mo, .inr (6, [.int co, .int kd, .int sg, .int ex, .ref wa, .long hi, .long lo, .long u15.1, .long u15.2, .ref sa, .ref ma]))] H := hP
            have hD : va_D A [(ma, .inl (cM, 1000, .inl md)), (wa, .inl (cW, 12, .inr (.inl w))), (mo, .inr (6, [.int co, .int kd, .int sg, .int ex, .ref wa, .long hi, .long lo, .long u15.1, .long u15.2, .ref sa, .ref ma]))] := hD
            have hK : va_K D classes [(cM, .int), (cW, .long)] s := hK
            refine W.eq (g2 := F0 m 225 ls []) rfl ?_
            refine lv_aload_n hx hb d_PatternBookModel_closeDecimal_225 rfl (lv_at hl 5 rfl) ?_
            refine lv_iconst (v := 0) hx hb d_PatternBookModel_closeDecimal_226 (by decide) ?_
            refine lv_iload hx hb d_PatternBookModel_closeDecimal_227 (lv_at hl 0 rfl) ?_
            refine lv_if_eq (tgt := 238) hx hb d_PatternBookModel_closeDecimal_229 (by decide) (fun c_16 => ?_) (fun c_16 => ?_)
            · exact absurd c_16 (by decide)
            · refine lv_iload_n hx hb d_PatternBookModel_closeDecimal_232 rfl (lv_at hl 3 rfl) ?_
              refine lv_iconst (v := 1) hx hb d_PatternBookModel_closeDecimal_233 (by decide) ?_
              refine lv_iadd hx hb d_PatternBookModel_closeDecimal_234 ?_
              refine lv_goto (tgt := 241) hx hb d_PatternBookModel_closeDecimal_235 (by decide) ?_
              have ho17 := hk.1
              have hk := hk.2
              refine uCall (WR := [(ma, .inl (cM, 1000, .inl md))]) (RT := [(cM, .int)]) (va_runV (As := [.int (0:Int32), .int (u2 + (1:Int32))]) (rest := []) ⟨hx, hb, hml, hown, hts⟩ (c_M_layNumber l D mo wa sa ma cW H.size (0:Int32) (u2 + (1:Int32)) co kd sg ex hi lo u15.1 u15.2 w ho17) ⟨uCB 2 hts k_347 k_257 k_348 (by decide +kernel) rfl rfl ⟨Nat.le_of_ble_eq_true rfl, Nat.le_of_ble_eq_true rfl⟩, hts _ k_349, hts _ k_350⟩ (uPreV (ci := 6) (q0 := 2) hK hP hD hN [2, 1] rfl (by decide) [1] rfl rfl rfl) rfl rfl hl.1 rfl (lv_room (Nat.le_of_ble_eq_true rfl)) d_PatternBookModel_closeDecimal_241 ⟨(Nat.le_of_ble_eq_true rfl), (Nat.le_of_ble_eq_true rfl)⟩) hK hP hD hS hA [2, 1] [0] rfl rfl (by decide) (by decide) [0] rfl (fun u17 H locs hu17 hP hD hK hS => ?_)
              have hP : va_P D classes [(ma, .inl (cM, 1000, .inl md)), (mo, .inr (6, [.int co, .int kd, .int sg, .int ex, .ref wa, .long hi, .long lo, .long u17.1, .long u17.2, .ref sa, .ref ma])), (wa, .inl (cW, 12, .inr (.inl w)))] H := hP
              have hD : va_D A [(ma, .inl (cM, 1000, .inl md)), (mo, .inr (6, [.int co, .int kd, .int sg, .int ex, .ref wa, .long hi, .long lo, .long u17.1, .long u17.2, .ref sa, .ref ma])), (wa, .inl (cW, 12, .inr (.inl w)))] := hD
              have hK : va_K D classes [(cM, .int), (cW, .long)] s := hK
              refine W.eq (g2 := F0 m 244 ls []) rfl ?_
              refine lv_iload hx hb d_PatternBookModel_closeDecimal_244 (lv_at hl 0 rfl) ?_
              refine lv_if_eq (tgt := 258) hx hb d_PatternBookModel_closeDecimal_246 (by decide) (fun c_18 => ?_) (fun c_18 => ?_)
              · exact absurd c_18 (by decide)
              · refine lv_aload_n hx hb d_PatternBookModel_closeDecimal_249 rfl (lv_at hl 5 rfl) ?_
                refine lv_iconst (v := 3) hx hb d_PatternBookModel_closeDecimal_250 (by decide) ?_
                refine lv_iload_n hx hb d_PatternBookModel_closeDecimal_251 rfl (lv_at hl 4 rfl) ?_
                refine lv_iconst (v := 3) hx hb d_PatternBookModel_closeDecimal_252 (by decide) ?_
                refine lv_isub hx hb d_PatternBookModel_closeDecimal_253 ?_
                refine lv_iconst (v := 2) hx hb d_PatternBookModel_closeDecimal_254 (by decide) ?_
                have ho19 := hk
                refine uCall (WR := [(ma, .inl (cM, 1000, .inl md)), (wa, .inl (cW, 12, .inr (.inl w)))]) (RT := [(cM, .int), (cW, .long)]) (va_runV (As := [.int (3:Int32), .int (u1 - (3:Int32)), .int (2:Int32)]) (rest := []) ⟨hx, hb, hml, hown, hts⟩ (c_M_lay l D mo wa sa ma H.size (3:Int32) (u1 - (3:Int32)) (2:Int32) co kd sg ex hi lo u17.1 u17.2 ho19) ⟨uCB 3 hts k_343 k_257 k_344 (by decide +kernel) rfl rfl ⟨Nat.le_of_ble_eq_true rfl, Nat.le_of_ble_eq_true rfl⟩, hts _ k_345, hts _ k_346⟩ (uPreV (ci := 6) (q0 := 1) hK hP hD hN [1] rfl (by decide) [] rfl rfl rfl) rfl rfl hl.1 rfl (lv_room (Nat.le_of_ble_eq_true rfl)) d_PatternBookModel_closeDecimal_255 ⟨(Nat.le_of_ble_eq_true rfl), (Nat.le_of_ble_eq_true rfl)⟩) hK hP hD hS hA [1] [0, 2] rfl rfl (by decide) (by decide) [0, 1] rfl (fun u19 H locs hu19 hP hD hK hS => ?_)
                have hP : va_P D classes [(ma, .inl (cM, 1000, .inl md)), (wa, .inl (cW, 12, .inr (.inl w))), (mo, .inr (6, [.int co, .int kd, .int sg, .int ex, .ref wa, .long hi, .long lo, .long u19.1, .long u19.2, .ref sa, .ref ma]))] H := hP
                have hD : va_D A [(ma, .inl (cM, 1000, .inl md)), (wa, .inl (cW, 12, .inr (.inl w))), (mo, .inr (6, [.int co, .int kd, .int sg, .int ex, .ref wa, .long hi, .long lo, .long u19.1, .long u19.2, .ref sa, .ref ma]))] := hD
                have hK : va_K D classes [(cM, .int), (cW, .long)] s := hK
                refine W.eq (g2 := F0 m 258 ls []) rfl ?_
                refine W.vret hx hb hr ?_ hS.2.2 d_PatternBookModel_closeDecimal_258
                exact uEnd (u19.1, u19.2, w) (hP.sub [2, 1, 0] rfl) (hK.sub [1, 0] rfl) (hD.sub [2, 1, 0] (by decide) rfl) hS (by have eu1 := hu1.symm; subst eu1; have eu2 := hu2.symm; subst eu2; have eu5 := hu5.symm; subst eu5; have eu7 := hu7.symm; subst eu7; have eu15 := hu15.symm; subst eu15; have eu17 := hu17.symm; subst eu17; have eu19 := hu19.symm; subst eu19; exact ((if_neg c_3).trans ((if_pos c_4).trans ((if_pos c_6).trans ((if_pos c_8).trans (rfl))))).symm) rfl
      · have hk := hk.2 c_6
        refine lv_aload_n hx hb d_PatternBookModel_closeDecimal_115 rfl (lv_at hl 4 rfl) ?_
        refine lv_iload_n hx hb d_PatternBookModel_closeDecimal_116 rfl (lv_at hl 5 rfl) ?_
        have ho20 := hk.1
        have hk := hk.2
        refine uCall (WR := []) (RT := []) (va_runV (As := [.int x]) (rest := []) ⟨hx, hb, hml, hown, hts⟩ (c_M_layDigits l D mo wa sa ma cW cM H.size x co kd sg ex hi lo lh ll w md ho20) ⟨uCB 1 hts k_356 k_257 k_357 (by decide +kernel) rfl rfl ⟨Nat.le_of_ble_eq_true rfl, Nat.le_of_ble_eq_true rfl⟩, hts _ k_358, hts _ k_359⟩ (uPreV (ci := 6) (q0 := 0) hK hP hD hN [0, 1, 2] rfl (by decide) [0, 1] rfl rfl rfl) rfl rfl hl.1 rfl (lv_room (Nat.le_of_ble_eq_true rfl)) d_PatternBookModel_closeDecimal_117 ⟨(Nat.le_of_ble_eq_true rfl), (Nat.le_of_ble_eq_true rfl)⟩) hK hP hD hS hA [0, 1, 2] [] rfl rfl (by decide) (by decide) [] rfl (fun u20 H locs hu20 hP hD hK hS => ?_)
        have hP : va_P D classes [(mo, .inr (6, [.int co, .int kd, .int sg, .int ex, .ref wa, .long hi, .long lo, .long u20.2.1, .long u20.2.2.1, .ref sa, .ref ma])), (wa, .inl (cW, 12, .inr (.inl u20.2.2.2))), (ma, .inl (cM, 1000, .inl md))] H := hP
        have hD : va_D A [(mo, .inr (6, [.int co, .int kd, .int sg, .int ex, .ref wa, .long hi, .long lo, .long u20.2.1, .long u20.2.2.1, .ref sa, .ref ma])), (wa, .inl (cW, 12, .inr (.inl u20.2.2.2))), (ma, .inl (cM, 1000, .inl md))] := hD
        have hK : va_K D classes [(cW, .long), (cM, .int)] s := hK
        refine W.eq (g2 := F0 m 120 ls [.int u20.1]) rfl ?_
        refine lv_istore (lv' := [(6, .int u20.1), (5, .int (ex - u5)), (4, .int ((u1 - (1:Int32)) - u2)), (3, .int u2), (2, .int u1), (0, .ref mo), (1, .int x)]) hx hb d_PatternBookModel_closeDecimal_120 hl (by decide) rfl (fun ls hl => ?_)
        refine lv_iload hx hb d_PatternBookModel_closeDecimal_122 (lv_at hl 1 rfl) ?_
        refine lv_iload hx hb d_PatternBookModel_closeDecimal_124 (lv_at hl 2 rfl) ?_
        refine lv_iconst (v := 5) hx hb d_PatternBookModel_closeDecimal_126 (by decide) ?_
        refine lv_isub hx hb d_PatternBookModel_closeDecimal_127 ?_
        refine lv_ishr hx hb d_PatternBookModel_closeDecimal_128 ?_
        refine lv_istore (lv' := [(7, .int ((ex - u5) >>> ((((u1 - (1:Int32)) - u2) - (5:Int32)) &&& 31))), (6, .int u20.1), (5, .int (ex - u5)), (4, .int ((u1 - (1:Int32)) - u2)), (3, .int u2), (2, .int u1), (0, .ref mo), (1, .int x)]) hx hb d_PatternBookModel_closeDecimal_129 hl (by decide) rfl (fun ls hl => ?_)
        refine lv_aload_n hx hb d_PatternBookModel_closeDecimal_131 rfl (lv_at hl 6 rfl) ?_
        refine lv_iload hx hb d_PatternBookModel_closeDecimal_132 (lv_at hl 2 rfl) ?_
        refine lv_iload_n hx hb d_PatternBookModel_closeDecimal_134 rfl (lv_at hl 4 rfl) ?_
        refine lv_iload hx hb d_PatternBookModel_closeDecimal_135 (lv_at hl 3 rfl) ?_
        refine lv_iconst (v := 5) hx hb d_PatternBookModel_closeDecimal_137 (by decide) ?_
        refine lv_isub hx hb d_PatternBookModel_closeDecimal_138 ?_
        have ho21 := hk.1
        have hk := hk.2
        refine uCall (WR := [(wa, .inl (cW, 12, .inr (.inl u20.2.2.2))), (ma, .inl (cM, 1000, .inl md))]) (RT := [(cW, .long), (cM, .int)]) (va_runV (As := [.int (ex - u5), .int u2, .int (((u1 - (1:Int32)) - u2) - (5:Int32))]) (rest := []) ⟨hx, hb, hml, hown, hts⟩ (c_M_lay l D mo wa sa ma H.size (ex - u5) u2 (((u1 - (1:Int32)) - u2) - (5:Int32)) co kd sg ex hi lo u20.2.1 u20.2.2.1 ho21) ⟨uCB 3 hts k_343 k_257 k_344 (by decide +kernel) rfl rfl ⟨Nat.le_of_ble_eq_true rfl, Nat.le_of_ble_eq_true rfl⟩, hts _ k_345, hts _ k_346⟩ (uPreV (ci := 6) (q0 := 0) hK hP hD hN [0] rfl (by decide) [] rfl rfl rfl) rfl rfl hl.1 rfl (lv_room (Nat.le_of_ble_eq_true rfl)) d_PatternBookModel_closeDecimal_139 ⟨(Nat.le_of_ble_eq_true rfl), (Nat.le_of_ble_eq_true rfl)⟩) hK hP hD hS hA [0] [1, 2] rfl rfl (by decide) (by decide) [0, 1] rfl (fun u21 H locs hu21 hP hD hK hS => ?_)
        have hP : va_P D classes [(wa, .inl (cW, 12, .inr (.inl u20.2.2.2))), (ma, .inl (cM, 1000, .inl md)), (mo, .inr (6, [.int co, .int kd, .int sg, .int ex, .ref wa, .long hi, .long lo, .long u21.1, .long u21.2, .ref sa, .ref ma]))] H := hP
        have hD : va_D A [(wa, .inl (cW, 12, .inr (.inl u20.2.2.2))), (ma, .inl (cM, 1000, .inl md)), (mo, .inr (6, [.int co, .int kd, .int sg, .int ex, .ref wa, .long hi, .long lo, .long u21.1, .long u21.2, .ref sa, .ref ma]))] := hD
        have hK : va_K D classes [(cW, .long), (cM, .int)] s := hK
        refine W.eq (g2 := F0 m 142 ls []) rfl ?_
        refine lv_aload_n hx hb d_PatternBookModel_closeDecimal_142 rfl (lv_at hl 6 rfl) ?_
        refine lv_iload hx hb d_PatternBookModel_closeDecimal_143 (lv_at hl 1 rfl) ?_
        refine lv_bipush (v := 8) hx hb d_PatternBookModel_closeDecimal_145 (by decide) ?_
        refine lv_icmp_ge (tgt := 161) hx hb d_PatternBookModel_closeDecimal_147 (by decide) (fun c_22 => ?_) (fun c_22 => ?_)
        · refine lv_bipush (v := 24) hx hb d_PatternBookModel_closeDecimal_161 (by decide) ?_
          refine lv_iconst (v := 2) hx hb d_PatternBookModel_closeDecimal_163 (by decide) ?_
          refine lv_iload hx hb d_PatternBookModel_closeDecimal_164 (lv_at hl 0 rfl) ?_
          refine lv_imul hx hb d_PatternBookModel_closeDecimal_166 ?_
          refine lv_iadd hx hb d_PatternBookModel_closeDecimal_167 ?_
          refine lv_iload hx hb d_PatternBookModel_closeDecimal_168 (lv_at hl 1 rfl) ?_
          refine lv_iconst (v := 2) hx hb d_PatternBookModel_closeDecimal_170 (by decide) ?_
          refine lv_irem hx hb d_PatternBookModel_closeDecimal_171 (by decide) ?_
          refine lv_iadd hx hb d_PatternBookModel_closeDecimal_172 ?_
          refine lv_iload_n hx hb d_PatternBookModel_closeDecimal_173 rfl (lv_at hl 5 rfl) ?_
          refine lv_bipush (v := 6) hx hb d_PatternBookModel_closeDecimal_174 (by decide) ?_
          refine lv_isub hx hb d_PatternBookModel_closeDecimal_176 ?_
          refine lv_iconst (v := 5) hx hb d_PatternBookModel_closeDecimal_177 (by decide) ?_
          have ho23 := hk
          refine uCall (WR := [(wa, .inl (cW, 12, .inr (.inl u20.2.2.2))), (ma, .inl (cM, 1000, .inl md))]) (RT := [(cW, .long), (cM, .int)]) (va_runV (As := [.int (((24:Int32) + ((2:Int32) * ((ex - u5) >>> ((((u1 - (1:Int32)) - u2) - (5:Int32)) &&& 31)))) + (u20.1 - u20.1 / (2:Int32) * (2:Int32))), .int (u1 - (6:Int32)), .int (5:Int32)]) (rest := []) ⟨hx, hb, hml, hown, hts⟩ (c_M_lay l D mo wa sa ma H.size (((24:Int32) + ((2:Int32) * ((ex - u5) >>> ((((u1 - (1:Int32)) - u2) - (5:Int32)) &&& 31)))) + (u20.1 - u20.1 / (2:Int32) * (2:Int32))) (u1 - (6:Int32)) (5:Int32) co kd sg ex hi lo u21.1 u21.2 ho23) ⟨uCB 3 hts k_343 k_257 k_344 (by decide +kernel) rfl rfl ⟨Nat.le_of_ble_eq_true rfl, Nat.le_of_ble_eq_true rfl⟩, hts _ k_345, hts _ k_346⟩ (uPreV (ci := 6) (q0 := 2) hK hP hD hN [2] rfl (by decide) [] rfl rfl rfl) rfl rfl hl.1 rfl (lv_room (Nat.le_of_ble_eq_true rfl)) d_PatternBookModel_closeDecimal_178 ⟨(Nat.le_of_ble_eq_true rfl), (Nat.le_of_ble_eq_true rfl)⟩) hK hP hD hS hA [2] [0, 1] rfl rfl (by decide) (by decide) [0, 1] rfl (fun u23 H locs hu23 hP hD hK hS => ?_)
          have hP : va_P D classes [(wa, .inl (cW, 12, .inr (.inl u20.2.2.2))), (ma, .inl (cM, 1000, .inl md)), (mo, .inr (6, [.int co, .int kd, .int sg, .int ex, .ref wa, .long hi, .long lo, .long u23.1, .long u23.2, .ref sa, .ref ma]))] H := hP
          have hD : va_D A [(wa, .inl (cW, 12, .inr (.inl u20.2.2.2))), (ma, .inl (cM, 1000, .inl md)), (mo, .inr (6, [.int co, .int kd, .int sg, .int ex, .ref wa, .long hi, .long lo, .long u23.1, .long u23.2, .ref sa, .ref ma]))] := hD
          have hK : va_K D classes [(cW, .long), (cM, .int)] s := hK
          refine W.eq (g2 := F0 m 181 ls []) rfl ?_
          refine W.vret hx hb hr ?_ hS.2.2 d_PatternBookModel_closeDecimal_181
          exact uEnd (u23.1, u23.2, u20.2.2.2) (hP.sub [2, 0, 1] rfl) (hK.sub [0, 1] rfl) (hD.sub [2, 0, 1] (by decide) rfl) hS (by have eu1 := hu1.symm; subst eu1; have eu2 := hu2.symm; subst eu2; have eu5 := hu5.symm; subst eu5; have eu20 := hu20.symm; subst eu20; have eu21 := hu21.symm; subst eu21; have eu23 := hu23.symm; subst eu23; exact ((if_neg c_3).trans ((if_pos c_4).trans ((if_neg c_6).trans ((if_pos c_22).trans (rfl))))).symm) rfl
        · refine lv_bipush (v := 8) hx hb d_PatternBookModel_closeDecimal_150 (by decide) ?_
          refine lv_iload hx hb d_PatternBookModel_closeDecimal_152 (lv_at hl 0 rfl) ?_
          refine lv_imul hx hb d_PatternBookModel_closeDecimal_154 ?_
          refine lv_iload hx hb d_PatternBookModel_closeDecimal_155 (lv_at hl 1 rfl) ?_
          refine lv_iadd hx hb d_PatternBookModel_closeDecimal_157 ?_
          refine lv_goto (tgt := 173) hx hb d_PatternBookModel_closeDecimal_158 (by decide) ?_
          refine lv_iload_n hx hb d_PatternBookModel_closeDecimal_173 rfl (lv_at hl 5 rfl) ?_
          refine lv_bipush (v := 6) hx hb d_PatternBookModel_closeDecimal_174 (by decide) ?_
          refine lv_isub hx hb d_PatternBookModel_closeDecimal_176 ?_
          refine lv_iconst (v := 5) hx hb d_PatternBookModel_closeDecimal_177 (by decide) ?_
          have ho24 := hk
          refine uCall (WR := [(wa, .inl (cW, 12, .inr (.inl u20.2.2.2))), (ma, .inl (cM, 1000, .inl md))]) (RT := [(cW, .long), (cM, .int)]) (va_runV (As := [.int (((8:Int32) * ((ex - u5) >>> ((((u1 - (1:Int32)) - u2) - (5:Int32)) &&& 31))) + u20.1), .int (u1 - (6:Int32)), .int (5:Int32)]) (rest := []) ⟨hx, hb, hml, hown, hts⟩ (c_M_lay l D mo wa sa ma H.size (((8:Int32) * ((ex - u5) >>> ((((u1 - (1:Int32)) - u2) - (5:Int32)) &&& 31))) + u20.1) (u1 - (6:Int32)) (5:Int32) co kd sg ex hi lo u21.1 u21.2 ho24) ⟨uCB 3 hts k_343 k_257 k_344 (by decide +kernel) rfl rfl ⟨Nat.le_of_ble_eq_true rfl, Nat.le_of_ble_eq_true rfl⟩, hts _ k_345, hts _ k_346⟩ (uPreV (ci := 6) (q0 := 2) hK hP hD hN [2] rfl (by decide) [] rfl rfl rfl) rfl rfl hl.1 rfl (lv_room (Nat.le_of_ble_eq_true rfl)) d_PatternBookModel_closeDecimal_178 ⟨(Nat.le_of_ble_eq_true rfl), (Nat.le_of_ble_eq_true rfl)⟩) hK hP hD hS hA [2] [0, 1] rfl rfl (by decide) (by decide) [0, 1] rfl (fun u24 H locs hu24 hP hD hK hS => ?_)
          have hP : va_P D classes [(wa, .inl (cW, 12, .inr (.inl u20.2.2.2))), (ma, .inl (cM, 1000, .inl md)), (mo, .inr (6, [.int co, .int kd, .int sg, .int ex, .ref wa, .long hi, .long lo, .long u24.1, .long u24.2, .ref sa, .ref ma]))] H := hP
          have hD : va_D A [(wa, .inl (cW, 12, .inr (.inl u20.2.2.2))), (ma, .inl (cM, 1000, .inl md)), (mo, .inr (6, [.int co, .int kd, .int sg, .int ex, .ref wa, .long hi, .long lo, .long u24.1, .long u24.2, .ref sa, .ref ma]))] := hD
          have hK : va_K D classes [(cW, .long), (cM, .int)] s := hK
          refine W.eq (g2 := F0 m 181 ls []) rfl ?_
          refine W.vret hx hb hr ?_ hS.2.2 d_PatternBookModel_closeDecimal_181
          exact uEnd (u24.1, u24.2, u20.2.2.2) (hP.sub [2, 0, 1] rfl) (hK.sub [0, 1] rfl) (hD.sub [2, 0, 1] (by decide) rfl) hS (by have eu1 := hu1.symm; subst eu1; have eu2 := hu2.symm; subst eu2; have eu5 := hu5.symm; subst eu5; have eu20 := hu20.symm; subst eu20; have eu21 := hu21.symm; subst eu21; have eu24 := hu24.symm; subst eu24; exact ((if_neg c_3).trans ((if_pos c_4).trans ((if_neg c_6).trans ((if_neg c_22).trans (rfl))))).symm) rfl
    · have hk := hk.2
      refine lv_aload_n hx hb d_PatternBookModel_closeDecimal_44 rfl (lv_at hl 3 rfl) ?_
      refine lv_bipush (v := 31) hx hb d_PatternBookModel_closeDecimal_45 (by decide) ?_
      refine lv_iload_n hx hb d_PatternBookModel_closeDecimal_47 rfl (lv_at hl 2 rfl) ?_
      refine lv_bipush (v := 6) hx hb d_PatternBookModel_closeDecimal_48 (by decide) ?_
      refine lv_isub hx hb d_PatternBookModel_closeDecimal_50 ?_
      refine lv_iconst (v := 5) hx hb d_PatternBookModel_closeDecimal_51 (by decide) ?_
      have ho25 := hk.1
      have hk := hk.2
      refine uCall (WR := [(wa, .inl (cW, 12, .inr (.inl w))), (ma, .inl (cM, 1000, .inl md))]) (RT := [(cW, .long), (cM, .int)]) (va_runV (As := [.int (31:Int32), .int (u1 - (6:Int32)), .int (5:Int32)]) (rest := []) ⟨hx, hb, hml, hown, hts⟩ (c_M_lay l D mo wa sa ma H.size (31:Int32) (u1 - (6:Int32)) (5:Int32) co kd sg ex hi lo lh ll ho25) ⟨uCB 3 hts k_343 k_257 k_344 (by decide +kernel) rfl rfl ⟨Nat.le_of_ble_eq_true rfl, Nat.le_of_ble_eq_true rfl⟩, hts _ k_345, hts _ k_346⟩ (uPreV (ci := 6) (q0 := 0) hK hP hD hN [0] rfl (by decide) [] rfl rfl rfl) rfl rfl hl.1 rfl (lv_room (Nat.le_of_ble_eq_true rfl)) d_PatternBookModel_closeDecimal_52 ⟨(Nat.le_of_ble_eq_true rfl), (Nat.le_of_ble_eq_true rfl)⟩) hK hP hD hS hA [0] [1, 2] rfl rfl (by decide) (by decide) [0, 1] rfl (fun u25 H locs hu25 hP hD hK hS => ?_)
      have hP : va_P D classes [(wa, .inl (cW, 12, .inr (.inl w))), (ma, .inl (cM, 1000, .inl md)), (mo, .inr (6, [.int co, .int kd, .int sg, .int ex, .ref wa, .long hi, .long lo, .long u25.1, .long u25.2, .ref sa, .ref ma]))] H := hP
      have hD : va_D A [(wa, .inl (cW, 12, .inr (.inl w))), (ma, .inl (cM, 1000, .inl md)), (mo, .inr (6, [.int co, .int kd, .int sg, .int ex, .ref wa, .long hi, .long lo, .long u25.1, .long u25.2, .ref sa, .ref ma]))] := hD
      have hK : va_K D classes [(cW, .long), (cM, .int)] s := hK
      refine W.eq (g2 := F0 m 55 ls []) rfl ?_
      refine lv_aload_n hx hb d_PatternBookModel_closeDecimal_55 rfl (lv_at hl 3 rfl) ?_
      refine lv_iload_n hx hb d_PatternBookModel_closeDecimal_56 rfl (lv_at hl 2 rfl) ?_
      refine lv_bipush (v := 7) hx hb d_PatternBookModel_closeDecimal_57 (by decide) ?_
      refine lv_isub hx hb d_PatternBookModel_closeDecimal_59 ?_
      refine lv_aload_n hx hb d_PatternBookModel_closeDecimal_60 rfl (lv_at hl 3 rfl) ?_
      refine va_get (D := D) (ci := 6) (v := .int kd) (C := R_PatternBookModel) (T := F_PatternBookModel) (N := 11) hx hb hts i_PatternBookModel hown hK hP 2 rfl rfl 1 (by decide) (hts _ k_318) (fun _ h9 => h9) rfl d_PatternBookModel_closeDecimal_61 ?_
      refine lv_iconst (v := 3) hx hb d_PatternBookModel_closeDecimal_64 (by decide) ?_
      refine lv_icmp_ne (tgt := 72) hx hb d_PatternBookModel_closeDecimal_65 (by decide) (fun c_26 => ?_) (fun c_26 => ?_)
      · refine lv_iconst (v := 0) hx hb d_PatternBookModel_closeDecimal_72 (by decide) ?_
        refine uCall (WR := [(wa, .inl (cW, 12, .inr (.inl w))), (ma, .inl (cM, 1000, .inl md))]) (RT := [(cW, .long), (cM, .int)]) (va_runV (As := [.int (u1 - (7:Int32)), .int (0:Int32)]) (rest := []) ⟨hx, hb, hml, hown, hts⟩ (c_M_set l D mo wa sa ma H.size (u1 - (7:Int32)) (0:Int32) co kd sg ex hi lo u25.1 u25.2) ⟨uCB 2 hts k_279 k_257 k_280 (by decide +kernel) rfl rfl ⟨Nat.le_of_ble_eq_true rfl, Nat.le_of_ble_eq_true rfl⟩, hts _ k_281, hts _ k_282⟩ (uPreV (ci := 6) (q0 := 2) hK hP hD hN [2] rfl (by decide) [] rfl rfl rfl) rfl rfl hl.1 rfl (lv_room (Nat.le_of_ble_eq_true rfl)) d_PatternBookModel_closeDecimal_73 ⟨(Nat.le_of_ble_eq_true rfl), (Nat.le_of_ble_eq_true rfl)⟩) hK hP hD hS hA [2] [0, 1] rfl rfl (by decide) (by decide) [0, 1] rfl (fun u27 H locs hu27 hP hD hK hS => ?_)
        have hP : va_P D classes [(wa, .inl (cW, 12, .inr (.inl w))), (ma, .inl (cM, 1000, .inl md)), (mo, .inr (6, [.int co, .int kd, .int sg, .int ex, .ref wa, .long hi, .long lo, .long u27.1, .long u27.2, .ref sa, .ref ma]))] H := hP
        have hD : va_D A [(wa, .inl (cW, 12, .inr (.inl w))), (ma, .inl (cM, 1000, .inl md)), (mo, .inr (6, [.int co, .int kd, .int sg, .int ex, .ref wa, .long hi, .long lo, .long u27.1, .long u27.2, .ref sa, .ref ma]))] := hD
        have hK : va_K D classes [(cW, .long), (cM, .int)] s := hK
        refine W.eq (g2 := F0 m 76 ls []) rfl ?_
        refine lv_iload_n hx hb d_PatternBookModel_closeDecimal_76 rfl (lv_at hl 4 rfl) ?_
        refine lv_bipush (v := 6) hx hb d_PatternBookModel_closeDecimal_77 (by decide) ?_
        refine lv_icmp_le (tgt := 91) hx hb d_PatternBookModel_closeDecimal_79 (by decide) (fun c_28 => ?_) (fun c_28 => ?_)
        · have hk := hk.1 c_28
          refine lv_aload_n hx hb d_PatternBookModel_closeDecimal_91 rfl (lv_at hl 3 rfl) ?_
          refine lv_iconst (v := 0) hx hb d_PatternBookModel_closeDecimal_92 (by decide) ?_
          refine lv_iload_n hx hb d_PatternBookModel_closeDecimal_93 rfl (lv_at hl 1 rfl) ?_
          have ho29 := hk
          refine uCall (WR := [(ma, .inl (cM, 1000, .inl md))]) (RT := [(cM, .int)]) (va_runV (As := [.int (0:Int32), .int u2]) (rest := []) ⟨hx, hb, hml, hown, hts⟩ (c_M_layNumber l D mo wa sa ma cW H.size (0:Int32) u2 co kd sg ex hi lo u27.1 u27.2 w ho29) ⟨uCB 2 hts k_347 k_257 k_348 (by decide +kernel) rfl rfl ⟨Nat.le_of_ble_eq_true rfl, Nat.le_of_ble_eq_true rfl⟩, hts _ k_349, hts _ k_350⟩ (uPreV (ci := 6) (q0 := 2) hK hP hD hN [2, 0] rfl (by decide) [0] rfl rfl rfl) rfl rfl hl.1 rfl (lv_room (Nat.le_of_ble_eq_true rfl)) d_PatternBookModel_closeDecimal_94 ⟨(Nat.le_of_ble_eq_true rfl), (Nat.le_of_ble_eq_true rfl)⟩) hK hP hD hS hA [2, 0] [1] rfl rfl (by decide) (by decide) [1] rfl (fun u29 H locs hu29 hP hD hK hS => ?_)
          have hP : va_P D classes [(ma, .inl (cM, 1000, .inl md)), (mo, .inr (6, [.int co, .int kd, .int sg, .int ex, .ref wa, .long hi, .long lo, .long u29.1, .long u29.2, .ref sa, .ref ma])), (wa, .inl (cW, 12, .inr (.inl w)))] H := hP
          have hD : va_D A [(ma, .inl (cM, 1000, .inl md)), (mo, .inr (6, [.int co, .int kd, .int sg, .int ex, .ref wa, .long hi, .long lo, .long u29.1, .long u29.2, .ref sa, .ref ma])), (wa, .inl (cW, 12, .inr (.inl w)))] := hD
          have hK : va_K D classes [(cM, .int), (cW, .long)] s := hK
          refine W.eq (g2 := F0 m 97 ls []) rfl ?_
          refine W.vret hx hb hr ?_ hS.2.2 d_PatternBookModel_closeDecimal_97
          exact uEnd (u29.1, u29.2, w) (hP.sub [1, 2, 0] rfl) (hK.sub [1, 0] rfl) (hD.sub [1, 2, 0] (by decide) rfl) hS (by have eu1 := hu1.symm; subst eu1; have eu2 := hu2.symm; subst eu2; have eu25 := hu25.symm; subst eu25; have eu27 := hu27.symm; subst eu27; have eu29 := hu29.symm; subst eu29; exact ((if_neg c_3).trans ((if_neg c_4).trans ((if_neg c_26).trans ((if_pos c_28).trans (rfl))))).symm) rfl
        · have hk := hk.2 c_28
          refine lv_aload_n hx hb d_PatternBookModel_closeDecimal_82 rfl (lv_at hl 3 rfl) ?_
          refine lv_iload_n hx hb d_PatternBookModel_closeDecimal_83 rfl (lv_at hl 4 rfl) ?_
          have ho30 := hk
          refine uCall (WR := []) (RT := []) (va_runV (As := [.int x]) (rest := []) ⟨hx, hb, hml, hown, hts⟩ (c_M_layDigits l D mo wa sa ma cW cM H.size x co kd sg ex hi lo u27.1 u27.2 w md ho30) ⟨uCB 1 hts k_356 k_257 k_357 (by decide +kernel) rfl rfl ⟨Nat.le_of_ble_eq_true rfl, Nat.le_of_ble_eq_true rfl⟩, hts _ k_358, hts _ k_359⟩ (uPreV (ci := 6) (q0 := 2) hK hP hD hN [2, 0, 1] rfl (by decide) [0, 1] rfl rfl rfl) rfl rfl hl.1 rfl (lv_room (Nat.le_of_ble_eq_true rfl)) d_PatternBookModel_closeDecimal_84 ⟨(Nat.le_of_ble_eq_true rfl), (Nat.le_of_ble_eq_true rfl)⟩) hK hP hD hS hA [2, 0, 1] [] rfl rfl (by decide) (by decide) [] rfl (fun u30 H locs hu30 hP hD hK hS => ?_)
          have hP : va_P D classes [(mo, .inr (6, [.int co, .int kd, .int sg, .int ex, .ref wa, .long hi, .long lo, .long u30.2.1, .long u30.2.2.1, .ref sa, .ref ma])), (wa, .inl (cW, 12, .inr (.inl u30.2.2.2))), (ma, .inl (cM, 1000, .inl md))] H := hP
          have hD : va_D A [(mo, .inr (6, [.int co, .int kd, .int sg, .int ex, .ref wa, .long hi, .long lo, .long u30.2.1, .long u30.2.2.1, .ref sa, .ref ma])), (wa, .inl (cW, 12, .inr (.inl u30.2.2.2))), (ma, .inl (cM, 1000, .inl md))] := hD
          have hK : va_K D classes [(cW, .long), (cM, .int)] s := hK
          refine W.eq (g2 := F0 m 87 ls [.int u30.1]) rfl ?_
          refine lv_pop hx hb d_PatternBookModel_closeDecimal_87 rfl ?_
          refine lv_goto (tgt := 97) hx hb d_PatternBookModel_closeDecimal_88 (by decide) ?_
          refine W.vret hx hb hr ?_ hS.2.2 d_PatternBookModel_closeDecimal_97
          exact uEnd (u30.2.1, u30.2.2.1, u30.2.2.2) (hP.sub [0, 1, 2] rfl) (hK.sub [0, 1] rfl) (hD.sub [0, 1, 2] (by decide) rfl) hS (by have eu1 := hu1.symm; subst eu1; have eu2 := hu2.symm; subst eu2; have eu25 := hu25.symm; subst eu25; have eu27 := hu27.symm; subst eu27; have eu30 := hu30.symm; subst eu30; exact ((if_neg c_3).trans ((if_neg c_4).trans ((if_neg c_26).trans ((if_neg c_28).trans (rfl))))).symm) rfl
      · refine lv_iconst (v := 1) hx hb d_PatternBookModel_closeDecimal_68 (by decide) ?_
        refine lv_goto (tgt := 73) hx hb d_PatternBookModel_closeDecimal_69 (by decide) ?_
        refine uCall (WR := [(wa, .inl (cW, 12, .inr (.inl w))), (ma, .inl (cM, 1000, .inl md))]) (RT := [(cW, .long), (cM, .int)]) (va_runV (As := [.int (u1 - (7:Int32)), .int (1:Int32)]) (rest := []) ⟨hx, hb, hml, hown, hts⟩ (c_M_set l D mo wa sa ma H.size (u1 - (7:Int32)) (1:Int32) co kd sg ex hi lo u25.1 u25.2) ⟨uCB 2 hts k_279 k_257 k_280 (by decide +kernel) rfl rfl ⟨Nat.le_of_ble_eq_true rfl, Nat.le_of_ble_eq_true rfl⟩, hts _ k_281, hts _ k_282⟩ (uPreV (ci := 6) (q0 := 2) hK hP hD hN [2] rfl (by decide) [] rfl rfl rfl) rfl rfl hl.1 rfl (lv_room (Nat.le_of_ble_eq_true rfl)) d_PatternBookModel_closeDecimal_73 ⟨(Nat.le_of_ble_eq_true rfl), (Nat.le_of_ble_eq_true rfl)⟩) hK hP hD hS hA [2] [0, 1] rfl rfl (by decide) (by decide) [0, 1] rfl (fun u31 H locs hu31 hP hD hK hS => ?_)
        have hP : va_P D classes [(wa, .inl (cW, 12, .inr (.inl w))), (ma, .inl (cM, 1000, .inl md)), (mo, .inr (6, [.int co, .int kd, .int sg, .int ex, .ref wa, .long hi, .long lo, .long u31.1, .long u31.2, .ref sa, .ref ma]))] H := hP
        have hD : va_D A [(wa, .inl (cW, 12, .inr (.inl w))), (ma, .inl (cM, 1000, .inl md)), (mo, .inr (6, [.int co, .int kd, .int sg, .int ex, .ref wa, .long hi, .long lo, .long u31.1, .long u31.2, .ref sa, .ref ma]))] := hD
        have hK : va_K D classes [(cW, .long), (cM, .int)] s := hK
        refine W.eq (g2 := F0 m 76 ls []) rfl ?_
        refine lv_iload_n hx hb d_PatternBookModel_closeDecimal_76 rfl (lv_at hl 4 rfl) ?_
        refine lv_bipush (v := 6) hx hb d_PatternBookModel_closeDecimal_77 (by decide) ?_
        refine lv_icmp_le (tgt := 91) hx hb d_PatternBookModel_closeDecimal_79 (by decide) (fun c_32 => ?_) (fun c_32 => ?_)
        · have hk := hk.1 c_32
          refine lv_aload_n hx hb d_PatternBookModel_closeDecimal_91 rfl (lv_at hl 3 rfl) ?_
          refine lv_iconst (v := 0) hx hb d_PatternBookModel_closeDecimal_92 (by decide) ?_
          refine lv_iload_n hx hb d_PatternBookModel_closeDecimal_93 rfl (lv_at hl 1 rfl) ?_
          have ho33 := hk
          refine uCall (WR := [(ma, .inl (cM, 1000, .inl md))]) (RT := [(cM, .int)]) (va_runV (As := [.int (0:Int32), .int u2]) (rest := []) ⟨hx, hb, hml, hown, hts⟩ (c_M_layNumber l D mo wa sa ma cW H.size (0:Int32) u2 co kd sg ex hi lo u31.1 u31.2 w ho33) ⟨uCB 2 hts k_347 k_257 k_348 (by decide +kernel) rfl rfl ⟨Nat.le_of_ble_eq_true rfl, Nat.le_of_ble_eq_true rfl⟩, hts _ k_349, hts _ k_350⟩ (uPreV (ci := 6) (q0 := 2) hK hP hD hN [2, 0] rfl (by decide) [0] rfl rfl rfl) rfl rfl hl.1 rfl (lv_room (Nat.le_of_ble_eq_true rfl)) d_PatternBookModel_closeDecimal_94 ⟨(Nat.le_of_ble_eq_true rfl), (Nat.le_of_ble_eq_true rfl)⟩) hK hP hD hS hA [2, 0] [1] rfl rfl (by decide) (by decide) [1] rfl (fun u33 H locs hu33 hP hD hK hS => ?_)
          have hP : va_P D classes [(ma, .inl (cM, 1000, .inl md)), (mo, .inr (6, [.int co, .int kd, .int sg, .int ex, .ref wa, .long hi, .long lo, .long u33.1, .long u33.2, .ref sa, .ref ma])), (wa, .inl (cW, 12, .inr (.inl w)))] H := hP
          have hD : va_D A [(ma, .inl (cM, 1000, .inl md)), (mo, .inr (6, [.int co, .int kd, .int sg, .int ex, .ref wa, .long hi, .long lo, .long u33.1, .long u33.2, .ref sa, .ref ma])), (wa, .inl (cW, 12, .inr (.inl w)))] := hD
          have hK : va_K D classes [(cM, .int), (cW, .long)] s := hK
          refine W.eq (g2 := F0 m 97 ls []) rfl ?_
          refine W.vret hx hb hr ?_ hS.2.2 d_PatternBookModel_closeDecimal_97
          exact uEnd (u33.1, u33.2, w) (hP.sub [1, 2, 0] rfl) (hK.sub [1, 0] rfl) (hD.sub [1, 2, 0] (by decide) rfl) hS (by have eu1 := hu1.symm; subst eu1; have eu2 := hu2.symm; subst eu2; have eu25 := hu25.symm; subst eu25; have eu31 := hu31.symm; subst eu31; have eu33 := hu33.symm; subst eu33; exact ((if_neg c_3).trans ((if_neg c_4).trans ((if_pos c_26).trans ((if_pos c_32).trans (rfl))))).symm) rfl
        · have hk := hk.2 c_32
          refine lv_aload_n hx hb d_PatternBookModel_closeDecimal_82 rfl (lv_at hl 3 rfl) ?_
          refine lv_iload_n hx hb d_PatternBookModel_closeDecimal_83 rfl (lv_at hl 4 rfl) ?_
          have ho34 := hk
          refine uCall (WR := []) (RT := []) (va_runV (As := [.int x]) (rest := []) ⟨hx, hb, hml, hown, hts⟩ (c_M_layDigits l D mo wa sa ma cW cM H.size x co kd sg ex hi lo u31.1 u31.2 w md ho34) ⟨uCB 1 hts k_356 k_257 k_357 (by decide +kernel) rfl rfl ⟨Nat.le_of_ble_eq_true rfl, Nat.le_of_ble_eq_true rfl⟩, hts _ k_358, hts _ k_359⟩ (uPreV (ci := 6) (q0 := 2) hK hP hD hN [2, 0, 1] rfl (by decide) [0, 1] rfl rfl rfl) rfl rfl hl.1 rfl (lv_room (Nat.le_of_ble_eq_true rfl)) d_PatternBookModel_closeDecimal_84 ⟨(Nat.le_of_ble_eq_true rfl), (Nat.le_of_ble_eq_true rfl)⟩) hK hP hD hS hA [2, 0, 1] [] rfl rfl (by decide) (by decide) [] rfl (fun u34 H locs hu34 hP hD hK hS => ?_)
          have hP : va_P D classes [(mo, .inr (6, [.int co, .int kd, .int sg, .int ex, .ref wa, .long hi, .long lo, .long u34.2.1, .long u34.2.2.1, .ref sa, .ref ma])), (wa, .inl (cW, 12, .inr (.inl u34.2.2.2))), (ma, .inl (cM, 1000, .inl md))] H := hP
          have hD : va_D A [(mo, .inr (6, [.int co, .int kd, .int sg, .int ex, .ref wa, .long hi, .long lo, .long u34.2.1, .long u34.2.2.1, .ref sa, .ref ma])), (wa, .inl (cW, 12, .inr (.inl u34.2.2.2))), (ma, .inl (cM, 1000, .inl md))] := hD
          have hK : va_K D classes [(cW, .long), (cM, .int)] s := hK
          refine W.eq (g2 := F0 m 87 ls [.int u34.1]) rfl ?_
          refine lv_pop hx hb d_PatternBookModel_closeDecimal_87 rfl ?_
          refine lv_goto (tgt := 97) hx hb d_PatternBookModel_closeDecimal_88 (by decide) ?_
          refine W.vret hx hb hr ?_ hS.2.2 d_PatternBookModel_closeDecimal_97
          exact uEnd (u34.2.1, u34.2.2.1, u34.2.2.2) (hP.sub [0, 1, 2] rfl) (hK.sub [0, 1] rfl) (hD.sub [0, 1, 2] (by decide) rfl) hS (by have eu1 := hu1.symm; subst eu1; have eu2 := hu2.symm; subst eu2; have eu25 := hu25.symm; subst eu25; have eu31 := hu31.symm; subst eu31; have eu34 := hu34.symm; subst eu34; exact ((if_neg c_3).trans ((if_neg c_4).trans ((if_pos c_26).trans ((if_neg c_32).trans (rfl))))).symm) rfl
  · have hk := hk.1
    refine lv_aload_n hx hb d_PatternBookModel_closeDecimal_25 rfl (lv_at hl 3 rfl) ?_
    refine lv_bipush (v := 30) hx hb d_PatternBookModel_closeDecimal_26 (by decide) ?_
    refine lv_iload_n hx hb d_PatternBookModel_closeDecimal_28 rfl (lv_at hl 2 rfl) ?_
    refine lv_bipush (v := 6) hx hb d_PatternBookModel_closeDecimal_29 (by decide) ?_
    refine lv_isub hx hb d_PatternBookModel_closeDecimal_31 ?_
    refine lv_iconst (v := 5) hx hb d_PatternBookModel_closeDecimal_32 (by decide) ?_
    have ho35 := hk
    refine uCall (WR := [(wa, .inl (cW, 12, .inr (.inl w))), (ma, .inl (cM, 1000, .inl md))]) (RT := [(cW, .long), (cM, .int)]) (va_runV (As := [.int (30:Int32), .int (u1 - (6:Int32)), .int (5:Int32)]) (rest := []) ⟨hx, hb, hml, hown, hts⟩ (c_M_lay l D mo wa sa ma H.size (30:Int32) (u1 - (6:Int32)) (5:Int32) co kd sg ex hi lo lh ll ho35) ⟨uCB 3 hts k_343 k_257 k_344 (by decide +kernel) rfl rfl ⟨Nat.le_of_ble_eq_true rfl, Nat.le_of_ble_eq_true rfl⟩, hts _ k_345, hts _ k_346⟩ (uPreV (ci := 6) (q0 := 0) hK hP hD hN [0] rfl (by decide) [] rfl rfl rfl) rfl rfl hl.1 rfl (lv_room (Nat.le_of_ble_eq_true rfl)) d_PatternBookModel_closeDecimal_33 ⟨(Nat.le_of_ble_eq_true rfl), (Nat.le_of_ble_eq_true rfl)⟩) hK hP hD hS hA [0] [1, 2] rfl rfl (by decide) (by decide) [0, 1] rfl (fun u35 H locs hu35 hP hD hK hS => ?_)
    have hP : va_P D classes [(wa, .inl (cW, 12, .inr (.inl w))), (ma, .inl (cM, 1000, .inl md)), (mo, .inr (6, [.int co, .int kd, .int sg, .int ex, .ref wa, .long hi, .long lo, .long u35.1, .long u35.2, .ref sa, .ref ma]))] H := hP
    have hD : va_D A [(wa, .inl (cW, 12, .inr (.inl w))), (ma, .inl (cM, 1000, .inl md)), (mo, .inr (6, [.int co, .int kd, .int sg, .int ex, .ref wa, .long hi, .long lo, .long u35.1, .long u35.2, .ref sa, .ref ma]))] := hD
    have hK : va_K D classes [(cW, .long), (cM, .int)] s := hK
    refine W.eq (g2 := F0 m 36 ls []) rfl ?_
    refine W.vret hx hb hr ?_ hS.2.2 d_PatternBookModel_closeDecimal_36
    exact uEnd (u35.1, u35.2, w) (hP.sub [2, 0, 1] rfl) (hK.sub [0, 1] rfl) (hD.sub [2, 0, 1] (by decide) rfl) hS (by have eu1 := hu1.symm; subst eu1; have eu2 := hu2.symm; subst eu2; have eu35 := hu35.symm; subst eu35; exact ((if_pos c_3).trans (rfl)).symm) rfl
set_option maxHeartbeats 4000000 in
set_option maxRecDepth 100000 in
/-- PatternBookModel.close(I)V -/
theorem c_M_close (l : Launch) (D : va_G) (mo : Nat) (wa : Nat) (sa : Nat) (ma : Nat) (cW : ClassId) (cM : ClassId) (sz : Nat) (x : Int32) (co : Int32) (kd : Int32) (sg : Int32) (ex : Int32) (hi : Int64) (lo : Int64) (lh : Int64) (ll : Int64) (w : Nat → Int64) (md : Nat → Int32) (hk : mok_M_close x w) : Met l y_PatternBookModel_close (wsOf y_PatternBookModel_close b_PatternBookModel_close 2 none) ({ frames := 4, cells := 0, slots := 0, locals := 95 }) (uP D classes [(mo, .inr (6, [.int co, .int kd, .int sg, .int ex, .ref wa, .long hi, .long lo, .long lh, .long ll, .ref sa, .ref ma])), (wa, .inl (cW, 12, .inr (.inl w))), (ma, .inl (cM, 1000, .inl md))] [(cW, .long), (cM, .int)] sz [.ref mo, .int x]) (uQ D classes (fun _ : Int64 × Int64 × (Nat → Int64) => none) (fun u => u = (sl m_M_close) x kd sg ex w md) (va_A [(mo, .inr (6, [.int co, .int kd, .int sg, .int ex, .ref wa, .long hi, .long lo, .long lh, .long ll, .ref sa, .ref ma])), (wa, .inl (cW, 12, .inr (.inl w))), (ma, .inl (cM, 1000, .inl md))] sz) (fun _ => [(cW, .long), (cM, .int)]) (fun u => [(mo, .inr (6, [.int co, .int kd, .int sg, .int ex, .ref wa, .long hi, .long lo, .long u.1, .long u.2.1, .ref sa, .ref ma])), (wa, .inl (cW, 12, .inr (.inl u.2.2))), (ma, .inl (cM, 1000, .inl md))])) 0 0 (va_A [(mo, .inr (6, [.int co, .int kd, .int sg, .int ex, .ref wa, .long hi, .long lo, .long lh, .long ll, .ref sa, .ref ma])), (wa, .inl (cW, 12, .inr (.inl w))), (ma, .inl (cM, 1000, .inl md))] sz) := by
  rw [sl_eq m_M_close]
  refine uBegin (by decide +kernel) (Nat.le_of_ble_eq_true rfl) ?_
  intro p e s m below meth c A ls H locs hx hb hr hts hown hlocks hml hin hA hP hK hD hN hS hl
  have hl : lv_has ls 2 [(0, .ref mo), (1, .int x)] := hl
  unfold mok_M_close at hk
  refine lv_aload_n hx hb d_PatternBookModel_close_0 rfl (lv_at hl 0 rfl) ?_
  refine lv_lconst (v := 0) hx hb d_PatternBookModel_close_1 (by decide) ?_
  refine va_put (D := D) (ci := 6) (v := .long (0:Int64)) (ty := .long) (C := R_PatternBookModel) (T := F_PatternBookModel) (N := 11) hx hb hts i_PatternBookModel t_PatternBookModel t_PatternBookModel_ok n_PatternBookModel hown hK hP hD hS 0 rfl rfl 7 (by decide) (hts _ k_273) (fun _ h9 => h9) rfl (by decide +kernel) rfl rfl (Nat.le_of_ble_eq_true rfl) d_PatternBookModel_close_2 (fun H locs hP hD hS => ?_)
  have hP : va_P D classes [(mo, .inr (6, [.int co, .int kd, .int sg, .int ex, .ref wa, .long hi, .long lo, .long (0:Int64), .long ll, .ref sa, .ref ma])), (wa, .inl (cW, 12, .inr (.inl w))), (ma, .inl (cM, 1000, .inl md))] H := hP
  have hD : va_D A [(mo, .inr (6, [.int co, .int kd, .int sg, .int ex, .ref wa, .long hi, .long lo, .long (0:Int64), .long ll, .ref sa, .ref ma])), (wa, .inl (cW, 12, .inr (.inl w))), (ma, .inl (cM, 1000, .inl md))] := hD
  refine lv_aload_n hx hb d_PatternBookModel_close_5 rfl (lv_at hl 0 rfl) ?_
  refine lv_lconst (v := 0) hx hb d_PatternBookModel_close_6 (by decide) ?_
  refine va_put (D := D) (ci := 6) (v := .long (0:Int64)) (ty := .long) (C := R_PatternBookModel) (T := F_PatternBookModel) (N := 11) hx hb hts i_PatternBookModel t_PatternBookModel t_PatternBookModel_ok n_PatternBookModel hown hK hP hD hS 0 rfl rfl 8 (by decide) (hts _ k_274) (fun _ h9 => h9) rfl (by decide +kernel) rfl rfl (Nat.le_of_ble_eq_true rfl) d_PatternBookModel_close_7 (fun H locs hP hD hS => ?_)
  have hP : va_P D classes [(mo, .inr (6, [.int co, .int kd, .int sg, .int ex, .ref wa, .long hi, .long lo, .long (0:Int64), .long (0:Int64), .ref sa, .ref ma])), (wa, .inl (cW, 12, .inr (.inl w))), (ma, .inl (cM, 1000, .inl md))] H := hP
  have hD : va_D A [(mo, .inr (6, [.int co, .int kd, .int sg, .int ex, .ref wa, .long hi, .long lo, .long (0:Int64), .long (0:Int64), .ref sa, .ref ma])), (wa, .inl (cW, 12, .inr (.inl w))), (ma, .inl (cM, 1000, .inl md))] := hD
  refine lv_aload_n hx hb d_PatternBookModel_close_10 rfl (lv_at hl 0 rfl) ?_
  refine lv_iload_n hx hb d_PatternBookModel_close_11 rfl (lv_at hl 1 rfl) ?_
  refine uCall (WR := [(mo, .inr (6, [.int co, .int kd, .int sg, .int ex, .ref wa, .long hi, .long lo, .long (0:Int64), .long (0:Int64), .ref sa, .ref ma])), (wa, .inl (cW, 12, .inr (.inl w))), (ma, .inl (cM, 1000, .inl md))]) (RT := [(cW, .long), (cM, .int)]) (va_runS (As := [.int x]) (rest := [.ref mo]) ⟨hx, hb, hml, hown, hts⟩ (c_M_width l D H.size x) ⟨uCB 1 hts k_287 k_257 k_288 (by decide +kernel) rfl rfl ⟨Nat.le_of_ble_eq_true rfl, Nat.le_of_ble_eq_true rfl⟩, hts _ k_289⟩ (uPreS hK hP hD hN [] rfl (by decide) [] rfl) rfl rfl hl.1 rfl (lv_room (Nat.le_of_ble_eq_true rfl)) d_PatternBookModel_close_12 ⟨(Nat.le_of_ble_eq_true rfl), (Nat.le_of_ble_eq_true rfl)⟩) hK hP hD hS hA [] [0, 1, 2] rfl rfl (by decide) (by decide) [0, 1] rfl (fun u1 H locs hu1 hP hD hK hS => ?_)
  have hP : va_P D classes [(mo, .inr (6, [.int co, .int kd, .int sg, .int ex, .ref wa, .long hi, .long lo, .long (0:Int64), .long (0:Int64), .ref sa, .ref ma])), (wa, .inl (cW, 12, .inr (.inl w))), (ma, .inl (cM, 1000, .inl md))] H := hP
  have hD : va_D A [(mo, .inr (6, [.int co, .int kd, .int sg, .int ex, .ref wa, .long hi, .long lo, .long (0:Int64), .long (0:Int64), .ref sa, .ref ma])), (wa, .inl (cW, 12, .inr (.inl w))), (ma, .inl (cM, 1000, .inl md))] := hD
  have hK : va_K D classes [(cW, .long), (cM, .int)] s := hK
  refine W.eq (g2 := F0 m 15 ls [.int u1, .ref mo]) rfl ?_
  refine lv_iconst (v := 1) hx hb d_PatternBookModel_close_15 (by decide) ?_
  refine lv_isub hx hb d_PatternBookModel_close_16 ?_
  refine lv_aload_n hx hb d_PatternBookModel_close_17 rfl (lv_at hl 0 rfl) ?_
  refine va_get (D := D) (ci := 6) (v := .int sg) (C := R_PatternBookModel) (T := F_PatternBookModel) (N := 11) hx hb hts i_PatternBookModel hown hK hP 0 rfl rfl 2 (by decide) (hts _ k_331) (fun _ h9 => h9) rfl d_PatternBookModel_close_18 ?_
  refine uCall (WR := [(wa, .inl (cW, 12, .inr (.inl w))), (ma, .inl (cM, 1000, .inl md))]) (RT := [(cW, .long), (cM, .int)]) (va_runV (As := [.int (u1 - (1:Int32)), .int sg]) (rest := []) ⟨hx, hb, hml, hown, hts⟩ (c_M_set l D mo wa sa ma H.size (u1 - (1:Int32)) sg co kd sg ex hi lo (0:Int64) (0:Int64)) ⟨uCB 2 hts k_279 k_257 k_280 (by decide +kernel) rfl rfl ⟨Nat.le_of_ble_eq_true rfl, Nat.le_of_ble_eq_true rfl⟩, hts _ k_281, hts _ k_282⟩ (uPreV (ci := 6) (q0 := 0) hK hP hD hN [0] rfl (by decide) [] rfl rfl rfl) rfl rfl hl.1 rfl (lv_room (Nat.le_of_ble_eq_true rfl)) d_PatternBookModel_close_21 ⟨(Nat.le_of_ble_eq_true rfl), (Nat.le_of_ble_eq_true rfl)⟩) hK hP hD hS hA [0] [1, 2] rfl rfl (by decide) (by decide) [0, 1] rfl (fun u2 H locs hu2 hP hD hK hS => ?_)
  have hP : va_P D classes [(wa, .inl (cW, 12, .inr (.inl w))), (ma, .inl (cM, 1000, .inl md)), (mo, .inr (6, [.int co, .int kd, .int sg, .int ex, .ref wa, .long hi, .long lo, .long u2.1, .long u2.2, .ref sa, .ref ma]))] H := hP
  have hD : va_D A [(wa, .inl (cW, 12, .inr (.inl w))), (ma, .inl (cM, 1000, .inl md)), (mo, .inr (6, [.int co, .int kd, .int sg, .int ex, .ref wa, .long hi, .long lo, .long u2.1, .long u2.2, .ref sa, .ref ma]))] := hD
  have hK : va_K D classes [(cW, .long), (cM, .int)] s := hK
  refine W.eq (g2 := F0 m 24 ls []) rfl ?_
  refine lv_iload_n hx hb d_PatternBookModel_close_24 rfl (lv_at hl 1 rfl) ?_
  refine lv_iconst (v := 4) hx hb d_PatternBookModel_close_25 (by decide) ?_
  refine lv_icmp_ge (tgt := 37) hx hb d_PatternBookModel_close_26 (by decide) (fun c_3 => ?_) (fun c_3 => ?_)
  · have hk := hk.1 c_3
    refine lv_aload_n hx hb d_PatternBookModel_close_37 rfl (lv_at hl 0 rfl) ?_
    refine lv_iload_n hx hb d_PatternBookModel_close_38 rfl (lv_at hl 1 rfl) ?_
    have ho4 := hk
    refine uCall (WR := []) (RT := []) (va_runV (As := [.int x]) (rest := []) ⟨hx, hb, hml, hown, hts⟩ (c_M_closeDecimal l D mo wa sa ma cW cM H.size x co kd sg ex hi lo u2.1 u2.2 w md ho4) ⟨uCB 1 hts k_360 k_257 k_361 (by decide +kernel) rfl rfl ⟨Nat.le_of_ble_eq_true rfl, Nat.le_of_ble_eq_true rfl⟩, hts _ k_362, hts _ k_363⟩ (uPreV (ci := 6) (q0 := 2) hK hP hD hN [2, 0, 1] rfl (by decide) [0, 1] rfl rfl rfl) rfl rfl hl.1 rfl (lv_room (Nat.le_of_ble_eq_true rfl)) d_PatternBookModel_close_39 ⟨(Nat.le_of_ble_eq_true rfl), (Nat.le_of_ble_eq_true rfl)⟩) hK hP hD hS hA [2, 0, 1] [] rfl rfl (by decide) (by decide) [] rfl (fun u4 H locs hu4 hP hD hK hS => ?_)
    have hP : va_P D classes [(mo, .inr (6, [.int co, .int kd, .int sg, .int ex, .ref wa, .long hi, .long lo, .long u4.1, .long u4.2.1, .ref sa, .ref ma])), (wa, .inl (cW, 12, .inr (.inl u4.2.2))), (ma, .inl (cM, 1000, .inl md))] H := hP
    have hD : va_D A [(mo, .inr (6, [.int co, .int kd, .int sg, .int ex, .ref wa, .long hi, .long lo, .long u4.1, .long u4.2.1, .ref sa, .ref ma])), (wa, .inl (cW, 12, .inr (.inl u4.2.2))), (ma, .inl (cM, 1000, .inl md))] := hD
    have hK : va_K D classes [(cW, .long), (cM, .int)] s := hK
    refine W.eq (g2 := F0 m 42 ls []) rfl ?_
    refine W.vret hx hb hr ?_ hS.2.2 d_PatternBookModel_close_42
    exact uEnd (u4.1, u4.2.1, u4.2.2) (hP.sub [0, 1, 2] rfl) (hK.sub [0, 1] rfl) (hD.sub [0, 1, 2] (by decide) rfl) hS (by have eu1 := hu1.symm; subst eu1; have eu2 := hu2.symm; subst eu2; have eu4 := hu4.symm; subst eu4; exact ((if_pos c_3).trans (rfl)).symm) rfl
  · have hk := hk.2 c_3
    refine lv_aload_n hx hb d_PatternBookModel_close_29 rfl (lv_at hl 0 rfl) ?_
    refine lv_iload_n hx hb d_PatternBookModel_close_30 rfl (lv_at hl 1 rfl) ?_
    have ho5 := hk
    refine uCall (WR := [(ma, .inl (cM, 1000, .inl md))]) (RT := [(cM, .int)]) (va_runV (As := [.int x]) (rest := []) ⟨hx, hb, hml, hown, hts⟩ (c_M_closeBinary l D mo wa sa ma cW H.size x co kd sg ex hi lo u2.1 u2.2 w ho5) ⟨uCB 1 hts k_364 k_257 k_365 (by decide +kernel) rfl rfl ⟨Nat.le_of_ble_eq_true rfl, Nat.le_of_ble_eq_true rfl⟩, hts _ k_366, hts _ k_367⟩ (uPreV (ci := 6) (q0 := 2) hK hP hD hN [2, 0] rfl (by decide) [0] rfl rfl rfl) rfl rfl hl.1 rfl (lv_room (Nat.le_of_ble_eq_true rfl)) d_PatternBookModel_close_31 ⟨(Nat.le_of_ble_eq_true rfl), (Nat.le_of_ble_eq_true rfl)⟩) hK hP hD hS hA [2, 0] [1] rfl rfl (by decide) (by decide) [1] rfl (fun u5 H locs hu5 hP hD hK hS => ?_)
    have hP : va_P D classes [(ma, .inl (cM, 1000, .inl md)), (mo, .inr (6, [.int co, .int kd, .int sg, .int ex, .ref wa, .long hi, .long lo, .long u5.1, .long u5.2, .ref sa, .ref ma])), (wa, .inl (cW, 12, .inr (.inl w)))] H := hP
    have hD : va_D A [(ma, .inl (cM, 1000, .inl md)), (mo, .inr (6, [.int co, .int kd, .int sg, .int ex, .ref wa, .long hi, .long lo, .long u5.1, .long u5.2, .ref sa, .ref ma])), (wa, .inl (cW, 12, .inr (.inl w)))] := hD
    have hK : va_K D classes [(cM, .int), (cW, .long)] s := hK
    refine W.eq (g2 := F0 m 34 ls []) rfl ?_
    refine lv_goto (tgt := 42) hx hb d_PatternBookModel_close_34 (by decide) ?_
    refine W.vret hx hb hr ?_ hS.2.2 d_PatternBookModel_close_42
    exact uEnd (u5.1, u5.2, w) (hP.sub [1, 2, 0] rfl) (hK.sub [1, 0] rfl) (hD.sub [1, 2, 0] (by decide) rfl) hS (by have eu1 := hu1.symm; subst eu1; have eu2 := hu2.symm; subst eu2; have eu5 := hu5.symm; subst eu5; exact ((if_neg c_3).trans (rfl)).symm) rfl
