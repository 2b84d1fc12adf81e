set_option maxHeartbeats 4000000 in
set_option maxRecDepth 100000 in
/-- PatternBook.put(IZIJJ)Z -/
theorem c_K_put (l : Launch) (D : va_G) (bk : Nat) (fa : Nat) (d : Nat) (mk : Nat) (gv : Nat) (td : Nat) (tp : Nat) (b : Nat) (sz : Nat) (x : Int32) (y : Bool) (z : Int32) (v : Int64) (t : Int64) (kd : Int32) (ng : Bool) (ex : Int32) (bh : Int64) (bl : Int64) : Met l y_PatternBook_put (wsOf y_PatternBook_put b_PatternBook_put 8 (some .boolean)) ({ frames := 2, cells := 0, slots := 0, locals := 46 }) (uP D classes [(bk, .inr (5, [.ref fa, .ref d, .ref mk, .ref gv, .ref td, .ref tp])), (d, .inr (1, [.int kd, .int (bI ng), .int ex, .ref b])), (b, .inr (0, [.long bh, .long bl]))] [] sz [.ref bk, .int x, .int (bI y), .int z, .long v, .long t]) (uQ D classes (fun u : Bool × Int32 × Bool × Int32 × Int64 × Int64 => some (.int (bI u.1))) (fun u => u = (sl m_K_put) x y z v t kd ng ex bh bl) (va_A [(bk, .inr (5, [.ref fa, .ref d, .ref mk, .ref gv, .ref td, .ref tp])), (d, .inr (1, [.int kd, .int (bI ng), .int ex, .ref b])), (b, .inr (0, [.long bh, .long bl]))] sz) (fun _ => []) (fun u => [(bk, .inr (5, [.ref fa, .ref d, .ref mk, .ref gv, .ref td, .ref tp])), (d, .inr (1, [.int u.2.1, .int (bI u.2.2.1), .int u.2.2.2.1, .ref b])), (b, .inr (0, [.long u.2.2.2.2.1, .long u.2.2.2.2.2]))])) 0 0 (va_A [(bk, .inr (5, [.ref fa, .ref d, .ref mk, .ref gv, .ref td, .ref tp])), (d, .inr (1, [.int kd, .int (bI ng), .int ex, .ref b])), (b, .inr (0, [.long bh, .long bl]))] sz) := by
  rw [sl_eq m_K_put]
  refine uBegin (by decide +kernel) (Nat.le_of_ble_eq_true rfl) ?_
  intro p e s m below meth c A ls H locs hx hb hr hts hown hlocks hml hin hA hP hK hD hN hS hl
  have hl : lv_has ls 8 [(0, .ref bk), (1, .int x), (2, .int (bI y)), (3, .int z), (4, .long v), (6, .long t)] := hl
  refine lv_iload_n hx hb d_PatternBook_put_0 rfl (lv_at hl 1 rfl) ?_
  refine lv_if_lt (tgt := 9) hx hb d_PatternBook_put_1 (by decide) (fun c_1 => ?_) (fun c_1 => ?_)
  · refine lv_iconst (v := 0) hx hb d_PatternBook_put_9 (by decide) ?_
    refine W.zret hx hb hr rfl ?_ hS.2.2 d_PatternBook_put_10
    exact uEnd (false, kd, ng, ex, bh, bl) (hP.sub [0, 1, 2] rfl) (hK.sub [] rfl) (hD.sub [0, 1, 2] (by decide) rfl) hS (by  exact ((if_pos c_1).trans (rfl)).symm) rfl
  · refine lv_iload_n hx hb d_PatternBook_put_4 rfl (lv_at hl 1 rfl) ?_
    refine lv_iconst (v := 3) hx hb d_PatternBook_put_5 (by decide) ?_
    refine lv_icmp_le (tgt := 11) hx hb d_PatternBook_put_6 (by decide) (fun c_2 => ?_) (fun c_2 => ?_)
    · refine lv_aload_n hx hb d_PatternBook_put_11 rfl (lv_at hl 0 rfl) ?_
      refine va_get (D := D) (ci := 5) (v := .ref d) (C := R_PatternBook) (T := F_PatternBook) (N := 6) hx hb hts i_PatternBook hown hK hP 0 rfl rfl 1 (by decide) (hts _ k_389) (fun _ h9 => h9) rfl d_PatternBook_put_12 ?_
      refine lv_iload_n hx hb d_PatternBook_put_15 rfl (lv_at hl 2 rfl) ?_
      refine va_putN (D := D) (ci := 1) (v := .int (bI y)) (ty := .boolean) (C := R_PatternBook_Datum) (T := F_PatternBook_Datum) (N := 4) hx hb hts i_PatternBook_Datum t_PatternBook_Datum t_PatternBook_Datum_ok n_PatternBook_Datum hown hK hP hD hS 1 rfl rfl 1 (by decide) (va_Nw.use rfl (hN _ kn_20)) (fun _ h9 => h9) rfl (by decide +kernel) (bI_nar _) (bI_fits _) (Nat.le_of_ble_eq_true rfl) d_PatternBook_put_16 (fun H locs hP hD hS => ?_)
      have hP : va_P D classes [(bk, .inr (5, [.ref fa, .ref d, .ref mk, .ref gv, .ref td, .ref tp])), (d, .inr (1, [.int kd, .int (bI y), .int ex, .ref b])), (b, .inr (0, [.long bh, .long bl]))] H := hP
      have hD : va_D A [(bk, .inr (5, [.ref fa, .ref d, .ref mk, .ref gv, .ref td, .ref tp])), (d, .inr (1, [.int kd, .int (bI y), .int ex, .ref b])), (b, .inr (0, [.long bh, .long bl]))] := hD
      refine lv_aload_n hx hb d_PatternBook_put_19 rfl (lv_at hl 0 rfl) ?_
      refine va_get (D := D) (ci := 5) (v := .ref d) (C := R_PatternBook) (T := F_PatternBook) (N := 6) hx hb hts i_PatternBook hown hK hP 0 rfl rfl 1 (by decide) (hts _ k_389) (fun _ h9 => h9) rfl d_PatternBook_put_20 ?_
      refine va_getN (D := D) (ci := 1) (v := .ref b) (C := R_PatternBook_Datum) (T := F_PatternBook_Datum) (N := 4) hx hb hts i_PatternBook_Datum hown hK hP 1 rfl rfl 3 (by decide) (va_Nw.use rfl (hN _ kn_21)) (fun _ h9 => h9) rfl d_PatternBook_put_23 ?_
      refine lv_lload hx hb d_PatternBook_put_26 (lv_at hl 4 rfl) ?_
      refine lv_lload hx hb d_PatternBook_put_28 (lv_at hl 5 rfl) ?_
      refine uCall (WR := [(bk, .inr (5, [.ref fa, .ref d, .ref mk, .ref gv, .ref td, .ref tp])), (d, .inr (1, [.int kd, .int (bI y), .int ex, .ref b]))]) (RT := []) (va_runV (As := [.long v, .long t]) (rest := []) ⟨hx, hb, hml, hown, hts⟩ (c_W_set l D b H.size v t bh bl) ⟨uCB 2 hts k_11 k_12 k_390 (by decide +kernel) rfl rfl ⟨Nat.le_of_ble_eq_true rfl, Nat.le_of_ble_eq_true rfl⟩, hts _ k_14, hts _ k_15⟩ (uPreV (ci := 0) (q0 := 2) hK hP hD hN [2] rfl (by decide) [] rfl rfl rfl) rfl rfl hl.1 rfl (lv_room (Nat.le_of_ble_eq_true rfl)) d_PatternBook_put_30 ⟨(Nat.le_of_ble_eq_true rfl), (Nat.le_of_ble_eq_true rfl)⟩) hK hP hD hS hA [2] [0, 1] rfl rfl (by decide) (by decide) [] rfl (fun u3 H locs hu3 hP hD hK hS => ?_)
      have hP : va_P D classes [(bk, .inr (5, [.ref fa, .ref d, .ref mk, .ref gv, .ref td, .ref tp])), (d, .inr (1, [.int kd, .int (bI y), .int ex, .ref b])), (b, .inr (0, [.long u3.1, .long u3.2]))] H := hP
      have hD : va_D A [(bk, .inr (5, [.ref fa, .ref d, .ref mk, .ref gv, .ref td, .ref tp])), (d, .inr (1, [.int kd, .int (bI y), .int ex, .ref b])), (b, .inr (0, [.long u3.1, .long u3.2]))] := hD
      have hK : va_K D classes [] s := hK
      refine W.eq (g2 := F0 m 33 ls []) rfl ?_
      refine lv_aload_n hx hb d_PatternBook_put_33 rfl (lv_at hl 0 rfl) ?_
      refine va_get (D := D) (ci := 5) (v := .ref d) (C := R_PatternBook) (T := F_PatternBook) (N := 6) hx hb hts i_PatternBook hown hK hP 0 rfl rfl 1 (by decide) (hts _ k_389) (fun _ h9 => h9) rfl d_PatternBook_put_34 ?_
      refine lv_iload_n hx hb d_PatternBook_put_37 rfl (lv_at hl 1 rfl) ?_
      refine lv_iload_n hx hb d_PatternBook_put_38 rfl (lv_at hl 3 rfl) ?_
      refine uCall (WR := [(bk, .inr (5, [.ref fa, .ref d, .ref mk, .ref gv, .ref td, .ref tp]))]) (RT := []) (va_runV (As := [.int x, .int z]) (rest := []) ⟨hx, hb, hml, hown, hts⟩ (c_D_become l D d b H.size x z kd y ex u3.1 u3.2) ⟨uCB 2 hts k_65 k_66 k_391 (by decide +kernel) rfl rfl ⟨Nat.le_of_ble_eq_true rfl, Nat.le_of_ble_eq_true rfl⟩, hts _ k_68, hts _ k_69⟩ (uPreV (ci := 1) (q0 := 1) hK hP hD hN [1, 2] rfl (by decide) [] rfl rfl rfl) rfl rfl hl.1 rfl (lv_room (Nat.le_of_ble_eq_true rfl)) d_PatternBook_put_39 ⟨(Nat.le_of_ble_eq_true rfl), (Nat.le_of_ble_eq_true rfl)⟩) hK hP hD hS hA [1, 2] [0] rfl rfl (by decide) (by decide) [] rfl (fun u4 H locs hu4 hP hD hK hS => ?_)
      have hP : va_P D classes [(bk, .inr (5, [.ref fa, .ref d, .ref mk, .ref gv, .ref td, .ref tp])), (d, .inr (1, [.int u4.1, .int (bI y), .int u4.2.1, .ref b])), (b, .inr (0, [.long u4.2.2.1, .long u4.2.2.2]))] H := hP
      have hD : va_D A [(bk, .inr (5, [.ref fa, .ref d, .ref mk, .ref gv, .ref td, .ref tp])), (d, .inr (1, [.int u4.1, .int (bI y), .int u4.2.1, .ref b])), (b, .inr (0, [.long u4.2.2.1, .long u4.2.2.2]))] := hD
      have hK : va_K D classes [] s := hK
      refine W.eq (g2 := F0 m 42 ls []) rfl ?_
      refine lv_iconst (v := 1) hx hb d_PatternBook_put_42 (by decide) ?_
      refine W.zret hx hb hr rfl ?_ hS.2.2 d_PatternBook_put_43
      exact uEnd (true, u4.1, y, u4.2.1, u4.2.2.1, u4.2.2.2) (hP.sub [0, 1, 2] rfl) (hK.sub [] rfl) (hD.sub [0, 1, 2] (by decide) rfl) hS (by have eu3 := hu3.symm; subst eu3; have eu4 := hu4.symm; subst eu4; exact ((if_neg c_1).trans ((if_pos c_2).trans (rfl))).symm) rfl
    · refine lv_iconst (v := 0) hx hb d_PatternBook_put_9 (by decide) ?_
      refine W.zret hx hb hr rfl ?_ hS.2.2 d_PatternBook_put_10
      exact uEnd (false, kd, ng, ex, bh, bl) (hP.sub [0, 1, 2] rfl) (hK.sub [] rfl) (hD.sub [0, 1, 2] (by decide) rfl) hS (by  exact ((if_neg c_1).trans ((if_neg c_2).trans (rfl))).symm) rfl
set_option maxHeartbeats 4000000 in
set_option maxRecDepth 100000 in
/-- PatternBook.pattern(Z)J -/
theorem c_K_pattern (l : Launch) (D : va_G) (bk : Nat) (fa : Nat) (d : Nat) (mk : Nat) (gv : Nat) (td : Nat) (tp : Nat) (sz : Nat) (x : Bool) (mkh : Int64) (mkl : Int64) : Met l y_PatternBook_pattern (wsOf y_PatternBook_pattern b_PatternBook_pattern 2 (some .long)) ({ frames := 1, cells := 0, slots := 0, locals := 21 }) (uP D classes [(bk, .inr (5, [.ref fa, .ref d, .ref mk, .ref gv, .ref td, .ref tp])), (mk, .inr (0, [.long mkh, .long mkl]))] [] sz [.ref bk, .int (bI x)]) (uQ D classes (fun u : Int64 => some (.long u)) (fun u => u = (sl m_K_pattern) x mkh mkl) (va_A [(bk, .inr (5, [.ref fa, .ref d, .ref mk, .ref gv, .ref td, .ref tp])), (mk, .inr (0, [.long mkh, .long mkl]))] sz) (fun _ => []) (fun u => [(bk, .inr (5, [.ref fa, .ref d, .ref mk, .ref gv, .ref td, .ref tp])), (mk, .inr (0, [.long mkh, .long mkl]))])) 0 0 (va_A [(bk, .inr (5, [.ref fa, .ref d, .ref mk, .ref gv, .ref td, .ref tp])), (mk, .inr (0, [.long mkh, .long mkl]))] sz) := by
  rw [sl_eq m_K_pattern]
  refine uBegin (by decide +kernel) (Nat.le_of_ble_eq_true rfl) ?_
  intro p e s m below meth c A ls H locs hx hb hr hts hown hlocks hml hin hA hP hK hD hN hS hl
  have hl : lv_has ls 2 [(0, .ref bk), (1, .int (bI x))] := hl
  refine lv_aload_n hx hb d_PatternBook_pattern_0 rfl (lv_at hl 0 rfl) ?_
  refine va_get (D := D) (ci := 5) (v := .ref mk) (C := R_PatternBook) (T := F_PatternBook) (N := 6) hx hb hts i_PatternBook hown hK hP 0 rfl rfl 2 (by decide) (hts _ k_392) (fun _ h9 => h9) rfl d_PatternBook_pattern_1 ?_
  refine lv_iload_n hx hb d_PatternBook_pattern_4 rfl (lv_at hl 1 rfl) ?_
  refine uCall (WR := [(bk, .inr (5, [.ref fa, .ref d, .ref mk, .ref gv, .ref td, .ref tp]))]) (RT := []) (va_runV (As := [.int (bI x)]) (rest := []) ⟨hx, hb, hml, hown, hts⟩ (c_W_half l D mk H.size x mkh mkl) ⟨uCB 1 hts k_225 k_12 k_393 (by decide +kernel) rfl rfl ⟨Nat.le_of_ble_eq_true rfl, Nat.le_of_ble_eq_true rfl⟩, hts _ k_227, hts _ k_228⟩ (uPreV (ci := 0) (q0 := 1) hK hP hD hN [1] rfl (by decide) [] rfl rfl rfl) rfl rfl hl.1 rfl (lv_room (Nat.le_of_ble_eq_true rfl)) d_PatternBook_pattern_5 ⟨(Nat.le_of_ble_eq_true rfl), (Nat.le_of_ble_eq_true rfl)⟩) hK hP hD hS hA [1] [0] rfl rfl (by decide) (by decide) [] rfl (fun u1 H locs hu1 hP hD hK hS => ?_)
  have hP : va_P D classes [(bk, .inr (5, [.ref fa, .ref d, .ref mk, .ref gv, .ref td, .ref tp])), (mk, .inr (0, [.long mkh, .long mkl]))] H := hP
  have hD : va_D A [(bk, .inr (5, [.ref fa, .ref d, .ref mk, .ref gv, .ref td, .ref tp])), (mk, .inr (0, [.long mkh, .long mkl]))] := hD
  have hK : va_K D classes [] s := hK
  refine W.eq (g2 := F0 m 8 ls [.long u1]) rfl ?_
  refine W.lret hx hb hr ?_ hS.2.2 d_PatternBook_pattern_8
  exact uEnd u1 (hP.sub [0, 1] rfl) (hK.sub [] rfl) (hD.sub [0, 1] (by decide) rfl) hS (by have eu1 := hu1.symm; subst eu1; exact (rfl).symm) rfl
set_option maxHeartbeats 4000000 in
set_option maxRecDepth 100000 in
/-- PatternBook.look(I)I -/
theorem c_K_look (l : Launch) (D : va_G) (bk : Nat) (fa : Nat) (d : Nat) (mk : Nat) (gv : Nat) (td : Nat) (tp : Nat) (b : Nat) (sz : Nat) (x : Int32) (kd : Int32) (ng : Bool) (ex : Int32) : Met l y_PatternBook_look (wsOf y_PatternBook_look b_PatternBook_look 2 (some .int)) ({ frames := 0, cells := 0, slots := 0, locals := 0 }) (uP D classes [(bk, .inr (5, [.ref fa, .ref d, .ref mk, .ref gv, .ref td, .ref tp])), (d, .inr (1, [.int kd, .int (bI ng), .int ex, .ref b]))] [] sz [.ref bk, .int x]) (uQ D classes (fun u : Int32 => some (.int u)) (fun u => u = (sl m_K_look) x kd ng ex) (va_A [(bk, .inr (5, [.ref fa, .ref d, .ref mk, .ref gv, .ref td, .ref tp])), (d, .inr (1, [.int kd, .int (bI ng), .int ex, .ref b]))] sz) (fun _ => []) (fun u => [(bk, .inr (5, [.ref fa, .ref d, .ref mk, .ref gv, .ref td, .ref tp])), (d, .inr (1, [.int kd, .int (bI ng), .int ex, .ref b]))])) 0 0 (va_A [(bk, .inr (5, [.ref fa, .ref d, .ref mk, .ref gv, .ref td, .ref tp])), (d, .inr (1, [.int kd, .int (bI ng), .int ex, .ref b]))] sz) := by
  rw [sl_eq m_K_look]
  refine uBegin (by decide +kernel) (Nat.le_of_ble_eq_true rfl) ?_
  intro p e s m below meth c A ls H locs hx hb hr hts hown hlocks hml hin hA hP hK hD hN hS hl
  have hl : lv_has ls 2 [(0, .ref bk), (1, .int x)] := hl
  refine lv_iload_n hx hb d_PatternBook_look_0 rfl (lv_at hl 1 rfl) ?_
  by_cases c_1 : x = (0:Int32)
  · refine lv_tableIn (off := 27) (tgt := 28) hx hb d_PatternBook_look_1 (by rw [c_1]; decide) (by rw [c_1]; decide) (by rw [c_1]; rfl) (by decide) ?_
    refine lv_aload_n hx hb d_PatternBook_look_28 rfl (lv_at hl 0 rfl) ?_
    refine va_get (D := D) (ci := 5) (v := .ref d) (C := R_PatternBook) (T := F_PatternBook) (N := 6) hx hb hts i_PatternBook hown hK hP 0 rfl rfl 1 (by decide) (hts _ k_389) (fun _ h9 => h9) rfl d_PatternBook_look_29 ?_
    refine va_getN (D := D) (ci := 1) (v := .int kd) (C := R_PatternBook_Datum) (T := F_PatternBook_Datum) (N := 4) hx hb hts i_PatternBook_Datum hown hK hP 1 rfl rfl 0 (by decide) (va_Nw.use rfl (hN _ kn_22)) (fun _ h9 => h9) rfl d_PatternBook_look_32 ?_
    refine W.iret hx hb hr ?_ hS.2.2 d_PatternBook_look_35
    exact uEnd kd (hP.sub [0, 1] rfl) (hK.sub [] rfl) (hD.sub [0, 1] (by decide) rfl) hS (by  exact ((if_pos c_1).trans (rfl)).symm) rfl
  · by_cases c_2 : x = (1:Int32)
    · refine lv_tableIn (off := 35) (tgt := 36) hx hb d_PatternBook_look_1 (by rw [c_2]; decide) (by rw [c_2]; decide) (by rw [c_2]; rfl) (by decide) ?_
      refine lv_aload_n hx hb d_PatternBook_look_36 rfl (lv_at hl 0 rfl) ?_
      refine va_get (D := D) (ci := 5) (v := .ref d) (C := R_PatternBook) (T := F_PatternBook) (N := 6) hx hb hts i_PatternBook hown hK hP 0 rfl rfl 1 (by decide) (hts _ k_389) (fun _ h9 => h9) rfl d_PatternBook_look_37 ?_
      refine va_getN (D := D) (ci := 1) (v := .int (bI ng)) (C := R_PatternBook_Datum) (T := F_PatternBook_Datum) (N := 4) hx hb hts i_PatternBook_Datum hown hK hP 1 rfl rfl 1 (by decide) (va_Nw.use rfl (hN _ kn_20)) (fun _ h9 => h9) rfl d_PatternBook_look_40 ?_
      refine lv_if_eq (tgt := 50) hx hb d_PatternBook_look_43 (by decide) (fun c_3 => ?_) (fun c_3 => ?_)
      · refine lv_iconst (v := 0) hx hb d_PatternBook_look_50 (by decide) ?_
        refine W.iret hx hb hr ?_ hS.2.2 d_PatternBook_look_51
        exact uEnd (0:Int32) (hP.sub [0, 1] rfl) (hK.sub [] rfl) (hD.sub [0, 1] (by decide) rfl) hS (by  exact ((if_neg c_1).trans ((if_pos c_2).trans ((if_pos c_3).trans (rfl)))).symm) rfl
      · refine lv_iconst (v := 1) hx hb d_PatternBook_look_46 (by decide) ?_
        refine lv_goto (tgt := 51) hx hb d_PatternBook_look_47 (by decide) ?_
        refine W.iret hx hb hr ?_ hS.2.2 d_PatternBook_look_51
        exact uEnd (1:Int32) (hP.sub [0, 1] rfl) (hK.sub [] rfl) (hD.sub [0, 1] (by decide) rfl) hS (by  exact ((if_neg c_1).trans ((if_pos c_2).trans ((if_neg c_3).trans (rfl)))).symm) rfl
    · by_cases c_4 : x = (2:Int32)
      · refine lv_tableIn (off := 51) (tgt := 52) hx hb d_PatternBook_look_1 (by rw [c_4]; decide) (by rw [c_4]; decide) (by rw [c_4]; rfl) (by decide) ?_
        refine lv_aload_n hx hb d_PatternBook_look_52 rfl (lv_at hl 0 rfl) ?_
        refine va_get (D := D) (ci := 5) (v := .ref d) (C := R_PatternBook) (T := F_PatternBook) (N := 6) hx hb hts i_PatternBook hown hK hP 0 rfl rfl 1 (by decide) (hts _ k_389) (fun _ h9 => h9) rfl d_PatternBook_look_53 ?_
        refine va_getN (D := D) (ci := 1) (v := .int ex) (C := R_PatternBook_Datum) (T := F_PatternBook_Datum) (N := 4) hx hb hts i_PatternBook_Datum hown hK hP 1 rfl rfl 2 (by decide) (va_Nw.use rfl (hN _ kn_23)) (fun _ h9 => h9) rfl d_PatternBook_look_56 ?_
        refine W.iret hx hb hr ?_ hS.2.2 d_PatternBook_look_59
        exact uEnd ex (hP.sub [0, 1] rfl) (hK.sub [] rfl) (hD.sub [0, 1] (by decide) rfl) hS (by  exact ((if_neg c_1).trans ((if_neg c_2).trans ((if_pos c_4).trans (rfl)))).symm) rfl
      · refine lv_tableOut (tgt := 60) hx hb d_PatternBook_look_1 (by have z0 := lv_neT c_1 (show (0:Int32).toInt = 0 by decide); have z1 := lv_neT c_2 (show (1:Int32).toInt = 1 by decide); have z2 := lv_neT c_4 (show (2:Int32).toInt = 2 by decide); omega) (by decide) ?_
        refine lv_iconst (v := (-1)) hx hb d_PatternBook_look_60 (by decide) ?_
        refine W.iret hx hb hr ?_ hS.2.2 d_PatternBook_look_61
        exact uEnd (-1:Int32) (hP.sub [0, 1] rfl) (hK.sub [] rfl) (hD.sub [0, 1] (by decide) rfl) hS (by  exact ((if_neg c_1).trans ((if_neg c_2).trans ((if_neg c_4).trans (rfl)))).symm) rfl
set_option maxHeartbeats 4000000 in
set_option maxRecDepth 100000 in
/-- PatternBook.part(Z)J -/
theorem c_K_part (l : Launch) (D : va_G) (bk : Nat) (fa : Nat) (d : Nat) (mk : Nat) (gv : Nat) (td : Nat) (tp : Nat) (b : Nat) (sz : Nat) (x : Bool) (kd : Int32) (ng : Bool) (ex : Int32) (bh : Int64) (bl : Int64) : Met l y_PatternBook_part (wsOf y_PatternBook_part b_PatternBook_part 2 (some .long)) ({ frames := 1, cells := 0, slots := 0, locals := 21 }) (uP D classes [(bk, .inr (5, [.ref fa, .ref d, .ref mk, .ref gv, .ref td, .ref tp])), (d, .inr (1, [.int kd, .int (bI ng), .int ex, .ref b])), (b, .inr (0, [.long bh, .long bl]))] [] sz [.ref bk, .int (bI x)]) (uQ D classes (fun u : Int64 => some (.long u)) (fun u => u = (sl m_K_part) x bh bl) (va_A [(bk, .inr (5, [.ref fa, .ref d, .ref mk, .ref gv, .ref td, .ref tp])), (d, .inr (1, [.int kd, .int (bI ng), .int ex, .ref b])), (b, .inr (0, [.long bh, .long bl]))] sz) (fun _ => []) (fun u => [(bk, .inr (5, [.ref fa, .ref d, .ref mk, .ref gv, .ref td, .ref tp])), (d, .inr (1, [.int kd, .int (bI ng), .int ex, .ref b])), (b, .inr (0, [.long bh, .long bl]))])) 0 0 (va_A [(bk, .inr (5, [.ref fa, .ref d, .ref mk, .ref gv, .ref td, .ref tp])), (d, .inr (1, [.int kd, .int (bI ng), .int ex, .ref b])), (b, .inr (0, [.long bh, .long bl]))] sz) := by
  rw [sl_eq m_K_part]
  refine uBegin (by decide +kernel) (Nat.le_of_ble_eq_true rfl) ?_
  intro p e s m below meth c A ls H locs hx hb hr hts hown hlocks hml hin hA hP hK hD hN hS hl
  have hl : lv_has ls 2 [(0, .ref bk), (1, .int (bI x))] := hl
  refine lv_aload_n hx hb d_PatternBook_part_0 rfl (lv_at hl 0 rfl) ?_
  refine va_get (D := D) (ci := 5) (v := .ref d) (C := R_PatternBook) (T := F_PatternBook) (N := 6) hx hb hts i_PatternBook hown hK hP 0 rfl rfl 1 (by decide) (hts _ k_389) (fun _ h9 => h9) rfl d_PatternBook_part_1 ?_
  refine va_getN (D := D) (ci := 1) (v := .ref b) (C := R_PatternBook_Datum) (T := F_PatternBook_Datum) (N := 4) hx hb hts i_PatternBook_Datum hown hK hP 1 rfl rfl 3 (by decide) (va_Nw.use rfl (hN _ kn_21)) (fun _ h9 => h9) rfl d_PatternBook_part_4 ?_
  refine lv_iload_n hx hb d_PatternBook_part_7 rfl (lv_at hl 1 rfl) ?_
  refine uCall (WR := [(bk, .inr (5, [.ref fa, .ref d, .ref mk, .ref gv, .ref td, .ref tp])), (d, .inr (1, [.int kd, .int (bI ng), .int ex, .ref b]))]) (RT := []) (va_runV (As := [.int (bI x)]) (rest := []) ⟨hx, hb, hml, hown, hts⟩ (c_W_half l D b H.size x bh bl) ⟨uCB 1 hts k_225 k_12 k_393 (by decide +kernel) rfl rfl ⟨Nat.le_of_ble_eq_true rfl, Nat.le_of_ble_eq_true rfl⟩, hts _ k_227, hts _ k_228⟩ (uPreV (ci := 0) (q0 := 2) hK hP hD hN [2] rfl (by decide) [] rfl rfl rfl) rfl rfl hl.1 rfl (lv_room (Nat.le_of_ble_eq_true rfl)) d_PatternBook_part_8 ⟨(Nat.le_of_ble_eq_true rfl), (Nat.le_of_ble_eq_true rfl)⟩) hK hP hD hS hA [2] [0, 1] rfl rfl (by decide) (by decide) [] rfl (fun u1 H locs hu1 hP hD hK hS => ?_)
  have hP : va_P D classes [(bk, .inr (5, [.ref fa, .ref d, .ref mk, .ref gv, .ref td, .ref tp])), (d, .inr (1, [.int kd, .int (bI ng), .int ex, .ref b])), (b, .inr (0, [.long bh, .long bl]))] H := hP
  have hD : va_D A [(bk, .inr (5, [.ref fa, .ref d, .ref mk, .ref gv, .ref td, .ref tp])), (d, .inr (1, [.int kd, .int (bI ng), .int ex, .ref b])), (b, .inr (0, [.long bh, .long bl]))] := hD
  have hK : va_K D classes [] s := hK
  refine W.eq (g2 := F0 m 11 ls [.long u1]) rfl ?_
  refine W.lret hx hb hr ?_ hS.2.2 d_PatternBook_part_11
  exact uEnd u1 (hP.sub [0, 1, 2] rfl) (hK.sub [] rfl) (hD.sub [0, 1, 2] (by decide) rfl) hS (by have eu1 := hu1.symm; subst eu1; exact (rfl).symm) rfl
set_option maxHeartbeats 4000000 in
set_option maxRecDepth 100000 in
/-- PatternBook.digits(I)I -/
theorem c_K_digits (l : Launch) (D : va_G) (bk : Nat) (fa : Nat) (d : Nat) (mk : Nat) (gv : Nat) (td : Nat) (tp : Nat) (sz : Nat) (x : Int32) : Met l y_PatternBook_digits (wsOf y_PatternBook_digits b_PatternBook_digits 2 (some .int)) ({ frames := 3, cells := 0, slots := 0, locals := 70 }) (uP D classes [(bk, .inr (5, [.ref fa, .ref d, .ref mk, .ref gv, .ref td, .ref tp]))] [] sz [.ref bk, .int x]) (uQ D classes (fun u : Int32 => some (.int u)) (fun u => u = (sl m_K_digits) x) (va_A [(bk, .inr (5, [.ref fa, .ref d, .ref mk, .ref gv, .ref td, .ref tp]))] sz) (fun _ => []) (fun u => [(bk, .inr (5, [.ref fa, .ref d, .ref mk, .ref gv, .ref td, .ref tp]))])) 0 0 (va_A [(bk, .inr (5, [.ref fa, .ref d, .ref mk, .ref gv, .ref td, .ref tp]))] sz) := by
  rw [sl_eq m_K_digits]
  refine uBegin (by decide +kernel) (Nat.le_of_ble_eq_true rfl) ?_
  intro p e s m below meth c A ls H locs hx hb hr hts hown hlocks hml hin hA hP hK hD hN hS hl
  have hl : lv_has ls 2 [(0, .ref bk), (1, .int x)] := hl
  refine lv_iload_n hx hb d_PatternBook_digits_0 rfl (lv_at hl 1 rfl) ?_
  refine lv_if_lt (tgt := 11) hx hb d_PatternBook_digits_1 (by decide) (fun c_1 => ?_) (fun c_1 => ?_)
  · refine lv_iconst (v := (-1)) hx hb d_PatternBook_digits_11 (by decide) ?_
    refine W.iret hx hb hr ?_ hS.2.2 d_PatternBook_digits_12
    exact uEnd (-1:Int32) (hP.sub [0] rfl) (hK.sub [] rfl) (hD.sub [0] (by decide) rfl) hS (by  exact ((if_pos c_1).trans (rfl)).symm) rfl
  · refine lv_iload_n hx hb d_PatternBook_digits_4 rfl (lv_at hl 1 rfl) ?_
    refine lv_sipush (v := 1023) hx hb d_PatternBook_digits_5 (by decide) ?_
    refine lv_icmp_le (tgt := 13) hx hb d_PatternBook_digits_8 (by decide) (fun c_2 => ?_) (fun c_2 => ?_)
    · refine lv_iload_n hx hb d_PatternBook_digits_13 rfl (lv_at hl 1 rfl) ?_
      refine uCall (WR := [(bk, .inr (5, [.ref fa, .ref d, .ref mk, .ref gv, .ref td, .ref tp]))]) (RT := []) (va_runS (As := [.int x]) (rest := []) ⟨hx, hb, hml, hown, hts⟩ (c_E_read l D H.size x) ⟨uCB 1 hts k_216 k_35 k_394 (by decide +kernel) rfl rfl ⟨Nat.le_of_ble_eq_true rfl, Nat.le_of_ble_eq_true rfl⟩, hts _ k_218⟩ (uPreS hK hP hD hN [] rfl (by decide) [] rfl) rfl rfl hl.1 rfl (lv_room (Nat.le_of_ble_eq_true rfl)) d_PatternBook_digits_14 ⟨(Nat.le_of_ble_eq_true rfl), (Nat.le_of_ble_eq_true rfl)⟩) hK hP hD hS hA [] [0] rfl rfl (by decide) (by decide) [] rfl (fun u3 H locs hu3 hP hD hK hS => ?_)
      have hP : va_P D classes [(bk, .inr (5, [.ref fa, .ref d, .ref mk, .ref gv, .ref td, .ref tp]))] H := hP
      have hD : va_D A [(bk, .inr (5, [.ref fa, .ref d, .ref mk, .ref gv, .ref td, .ref tp]))] := hD
      have hK : va_K D classes [] s := hK
      refine W.eq (g2 := F0 m 17 ls [.int u3]) rfl ?_
      refine W.iret hx hb hr ?_ hS.2.2 d_PatternBook_digits_17
      exact uEnd u3 (hP.sub [0] rfl) (hK.sub [] rfl) (hD.sub [0] (by decide) rfl) hS (by have eu3 := hu3.symm; subst eu3; exact ((if_neg c_1).trans ((if_pos c_2).trans (rfl))).symm) rfl
    · refine lv_iconst (v := (-1)) hx hb d_PatternBook_digits_11 (by decide) ?_
      refine W.iret hx hb hr ?_ hS.2.2 d_PatternBook_digits_12
      exact uEnd (-1:Int32) (hP.sub [0] rfl) (hK.sub [] rfl) (hD.sub [0] (by decide) rfl) hS (by  exact ((if_neg c_1).trans ((if_neg c_2).trans (rfl))).symm) rfl
set_option maxHeartbeats 4000000 in
set_option maxRecDepth 100000 in
/-- PatternBook.declet(I)I -/
theorem c_K_declet (l : Launch) (D : va_G) (bk : Nat) (fa : Nat) (d : Nat) (mk : Nat) (gv : Nat) (td : Nat) (tp : Nat) (sz : Nat) (x : Int32) : Met l y_PatternBook_declet (wsOf y_PatternBook_declet b_PatternBook_declet 2 (some .int)) ({ frames := 2, cells := 0, slots := 0, locals := 48 }) (uP D classes [(bk, .inr (5, [.ref fa, .ref d, .ref mk, .ref gv, .ref td, .ref tp]))] [] sz [.ref bk, .int x]) (uQ D classes (fun u : Int32 => some (.int u)) (fun u => u = (sl m_K_declet) x) (va_A [(bk, .inr (5, [.ref fa, .ref d, .ref mk, .ref gv, .ref td, .ref tp]))] sz) (fun _ => []) (fun u => [(bk, .inr (5, [.ref fa, .ref d, .ref mk, .ref gv, .ref td, .ref tp]))])) 0 0 (va_A [(bk, .inr (5, [.ref fa, .ref d, .ref mk, .ref gv, .ref td, .ref tp]))] sz) := by
  rw [sl_eq m_K_declet]
  refine uBegin (by decide +kernel) (Nat.le_of_ble_eq_true rfl) ?_
  intro p e s m below meth c A ls H locs hx hb hr hts hown hlocks hml hin hA hP hK hD hN hS hl
  have hl : lv_has ls 2 [(0, .ref bk), (1, .int x)] := hl
  refine lv_iload_n hx hb d_PatternBook_declet_0 rfl (lv_at hl 1 rfl) ?_
  refine lv_if_lt (tgt := 11) hx hb d_PatternBook_declet_1 (by decide) (fun c_1 => ?_) (fun c_1 => ?_)
  · refine lv_iconst (v := (-1)) hx hb d_PatternBook_declet_11 (by decide) ?_
    refine W.iret hx hb hr ?_ hS.2.2 d_PatternBook_declet_12
    exact uEnd (-1:Int32) (hP.sub [0] rfl) (hK.sub [] rfl) (hD.sub [0] (by decide) rfl) hS (by  exact ((if_pos c_1).trans (rfl)).symm) rfl
  · refine lv_iload_n hx hb d_PatternBook_declet_4 rfl (lv_at hl 1 rfl) ?_
    refine lv_sipush (v := 999) hx hb d_PatternBook_declet_5 (by decide) ?_
    refine lv_icmp_le (tgt := 13) hx hb d_PatternBook_declet_8 (by decide) (fun c_2 => ?_) (fun c_2 => ?_)
    · refine lv_iload_n hx hb d_PatternBook_declet_13 rfl (lv_at hl 1 rfl) ?_
      refine uCall (WR := [(bk, .inr (5, [.ref fa, .ref d, .ref mk, .ref gv, .ref td, .ref tp]))]) (RT := []) (va_runS (As := [.int x]) (rest := []) ⟨hx, hb, hml, hown, hts⟩ (c_E_write l D H.size x) ⟨uCB 1 hts k_233 k_35 k_395 (by decide +kernel) rfl rfl ⟨Nat.le_of_ble_eq_true rfl, Nat.le_of_ble_eq_true rfl⟩, hts _ k_235⟩ (uPreS hK hP hD hN [] rfl (by decide) [] rfl) rfl rfl hl.1 rfl (lv_room (Nat.le_of_ble_eq_true rfl)) d_PatternBook_declet_14 ⟨(Nat.le_of_ble_eq_true rfl), (Nat.le_of_ble_eq_true rfl)⟩) hK hP hD hS hA [] [0] rfl rfl (by decide) (by decide) [] rfl (fun u3 H locs hu3 hP hD hK hS => ?_)
      have hP : va_P D classes [(bk, .inr (5, [.ref fa, .ref d, .ref mk, .ref gv, .ref td, .ref tp]))] H := hP
      have hD : va_D A [(bk, .inr (5, [.ref fa, .ref d, .ref mk, .ref gv, .ref td, .ref tp]))] := hD
      have hK : va_K D classes [] s := hK
      refine W.eq (g2 := F0 m 17 ls [.int u3]) rfl ?_
      refine W.iret hx hb hr ?_ hS.2.2 d_PatternBook_declet_17
      exact uEnd u3 (hP.sub [0] rfl) (hK.sub [] rfl) (hD.sub [0] (by decide) rfl) hS (by have eu3 := hu3.symm; subst eu3; exact ((if_neg c_1).trans ((if_pos c_2).trans (rfl))).symm) rfl
    · refine lv_iconst (v := (-1)) hx hb d_PatternBook_declet_11 (by decide) ?_
      refine W.iret hx hb hr ?_ hS.2.2 d_PatternBook_declet_12
      exact uEnd (-1:Int32) (hP.sub [0] rfl) (hK.sub [] rfl) (hD.sub [0] (by decide) rfl) hS (by  exact ((if_neg c_1).trans ((if_neg c_2).trans (rfl))).symm) rfl
set_option maxHeartbeats 4000000 in
set_option maxRecDepth 100000 in
/-- PatternBook.formatAt(I)LPatternBook$Format; -/
theorem c_K_formatAt (l : Launch) (D : va_G) (bk : Nat) (fa : Nat) (d : Nat) (mk : Nat) (gv : Nat) (td : Nat) (tp : Nat) (f : Nat) (cF : ClassId) (sz : Nat) (g : Nat → Option Nat) (k : Nat) (hk10 : k < 10) (hg : g k = some f) : Met l y_PatternBook_formatAt (wsOf y_PatternBook_formatAt b_PatternBook_formatAt 2 (some (.object "PatternBook$Format"))) ({ frames := 0, cells := 0, slots := 0, locals := 0 }) (uP D classes [(bk, .inr (5, [.ref fa, .ref d, .ref mk, .ref gv, .ref td, .ref tp])), (fa, .inl (cF, 10, .inr (.inr (.inr (.inr g)))))] [(cF, .object "PatternBook$Format")] sz [.ref bk, .int (nI k)]) (uQ D classes (fun _ : Unit => some (.ref f)) (fun u => True) (va_A [(bk, .inr (5, [.ref fa, .ref d, .ref mk, .ref gv, .ref td, .ref tp])), (fa, .inl (cF, 10, .inr (.inr (.inr (.inr g)))))] sz) (fun _ => [(cF, .object "PatternBook$Format")]) (fun u => [(bk, .inr (5, [.ref fa, .ref d, .ref mk, .ref gv, .ref td, .ref tp])), (fa, .inl (cF, 10, .inr (.inr (.inr (.inr g)))))])) 0 0 (va_A [(bk, .inr (5, [.ref fa, .ref d, .ref mk, .ref gv, .ref td, .ref tp])), (fa, .inl (cF, 10, .inr (.inr (.inr (.inr g)))))] sz) := by
  refine uBegin (by decide +kernel) (Nat.le_of_ble_eq_true rfl) ?_
  intro p e s m below meth c A ls H locs hx hb hr hts hown hlocks hml hin hA hP hK hD hN hS hl
  have hl : lv_has ls 2 [(0, .ref bk), (1, .int (nI k))] := hl
  refine lv_iload_n hx hb d_PatternBook_formatAt_0 rfl (lv_at hl 1 rfl) ?_
  refine lv_if_lt (tgt := 13) hx hb d_PatternBook_formatAt_1 (by decide) (fun c_1 => ?_) (fun c_1 => ?_)
  · exact absurd c_1 (nI_pos (by omega))
  · refine lv_iload_n hx hb d_PatternBook_formatAt_4 rfl (lv_at hl 1 rfl) ?_
    refine lv_aload_n hx hb d_PatternBook_formatAt_5 rfl (lv_at hl 0 rfl) ?_
    refine va_get (D := D) (ci := 5) (v := .ref fa) (C := R_PatternBook) (T := F_PatternBook) (N := 6) hx hb hts i_PatternBook hown hK hP 0 rfl rfl 0 (by decide) (hts _ k_396) (fun _ h9 => h9) rfl d_PatternBook_formatAt_6 ?_
    refine va_alen hx hb hK hP 1 0 rfl rfl (v := 10) rfl d_PatternBook_formatAt_9 ?_
    refine lv_icmp_lt (tgt := 23) hx hb d_PatternBook_formatAt_10 (by decide) (fun c_2 => ?_) (fun c_2 => ?_)
    · refine lv_aload_n hx hb d_PatternBook_formatAt_23 rfl (lv_at hl 0 rfl) ?_
      refine va_get (D := D) (ci := 5) (v := .ref fa) (C := R_PatternBook) (T := F_PatternBook) (N := 6) hx hb hts i_PatternBook hown hK hP 0 rfl rfl 0 (by decide) (hts _ k_396) (fun _ h9 => h9) rfl d_PatternBook_formatAt_24 ?_
      refine lv_iload_n hx hb d_PatternBook_formatAt_27 rfl (lv_at hl 1 rfl) ?_
      refine va_aldq hx hb hK hP 1 0 rfl rfl (vp_in_nI hk10 (by decide)) d_PatternBook_formatAt_28 ?_
      refine W.eq (g2 := F0 m 29 ls [.ref f]) (by rw [nI_clamp (by omega), hg]; rfl) ?_
      refine W.aret hx hb hr (Or.inl ⟨_, rfl⟩) (Or.inr ⟨_, rfl⟩) ?_ hS.2.2 d_PatternBook_formatAt_29
      exact uEnd () (hP.sub [0, 1] rfl) (hK.sub [0] rfl) (hD.sub [0, 1] (by decide) rfl) hS trivial rfl
    · exact absurd (nI_lt (b := 10) hk10 (by decide)) c_2
