set_option maxHeartbeats 4000000 in
set_option maxRecDepth 100000 in
/-- PatternBook$Binary.hasNumber(LPatternBook$Datum;)Z -/
theorem c_B_hasNumber (l : Launch) (D : va_G) (f : Nat) (d : Nat) (b : Nat) (sz : Nat) (fb : Int32) (fp : Int32) (fl : Int32) (fg : Int32) (ft : Int32) (ff : Int32) (fu : Int64) (kd : Int32) (ng : Bool) (ex : Int32) (bh : Int64) (bl : Int64) : Met l y_PatternBook_Binary_hasNumber (wsOf y_PatternBook_Binary_hasNumber b_PatternBook_Binary_hasNumber 2 (some .boolean)) ({ frames := 1, cells := 0, slots := 0, locals := 21 }) (uP D classes [(f, .inr (2, [.int fb, .int fp, .int fl, .int fg, .int ft, .int ff, .long fu])), (d, .inr (1, [.int kd, .int (bI ng), .int ex, .ref b])), (b, .inr (0, [.long bh, .long bl]))] [] sz [.ref f, .ref d]) (uQ D classes (fun u : Bool => some (.int (bI u))) (fun u => u = (sl m_B_hasNumber) fp fl ft ex bh bl) (va_A [(f, .inr (2, [.int fb, .int fp, .int fl, .int fg, .int ft, .int ff, .long fu])), (d, .inr (1, [.int kd, .int (bI ng), .int ex, .ref b])), (b, .inr (0, [.long bh, .long bl]))] sz) (fun _ => []) (fun u => [(f, .inr (2, [.int fb, .int fp, .int fl, .int fg, .int ft, .int ff, .long fu])), (d, .inr (1, [.int kd, .int (bI ng), .int ex, .ref b])), (b, .inr (0, [.long bh, .long bl]))])) 0 0 (va_A [(f, .inr (2, [.int fb, .int fp, .int fl, .int fg, .int ft, .int ff, .long fu])), (d, .inr (1, [.int kd, .int (bI ng), .int ex, .ref b])), (b, .inr (0, [.long bh, .long bl]))] sz) := by
  rw [sl_eq m_B_hasNumber]
  refine uBegin (by decide +kernel) (Nat.le_of_ble_eq_true rfl) ?_
  intro p e s m below meth c A ls H locs hx hb hr hts hown hlocks hml hin hA hP hK hD hN hS hl
  have hl : lv_has ls 2 [(0, .ref f), (1, .ref d)] := hl
  refine lv_aload_n hx hb d_PatternBook_Binary_hasNumber_0 rfl (lv_at hl 1 rfl) ?_
  refine va_getN (D := D) (ci := 1) (v := .ref b) (C := R_PatternBook_Datum) (T := F_PatternBook_Datum) (N := 4) hx hb hts i_PatternBook_Datum hown hK hP 1 rfl rfl 3 (by decide) (va_Nw.use rfl (hN _ kn_2)) (fun _ h9 => h9) rfl d_PatternBook_Binary_hasNumber_1 ?_
  refine lv_aload_n hx hb d_PatternBook_Binary_hasNumber_4 rfl (lv_at hl 0 rfl) ?_
  refine va_get (D := D) (ci := 2) (v := .int ft) (C := R_PatternBook_Binary) (T := F_PatternBook_Binary) (N := 7) hx hb hts i_PatternBook_Binary hown hK hP 0 rfl rfl 4 (by decide) (hts _ k_44) (fun _ h9 => h9) rfl d_PatternBook_Binary_hasNumber_5 ?_
  refine uCall (WR := [(f, .inr (2, [.int fb, .int fp, .int fl, .int fg, .int ft, .int ff, .long fu])), (d, .inr (1, [.int kd, .int (bI ng), .int ex, .ref b]))]) (RT := []) (va_runV (As := [.int ft]) (rest := []) ⟨hx, hb, hml, hown, hts⟩ (c_W_fits l D b H.size ft bh bl) ⟨uCB 1 hts k_45 k_12 k_46 (by decide +kernel) rfl rfl ⟨Nat.le_of_ble_eq_true rfl, Nat.le_of_ble_eq_true rfl⟩, hts _ k_47, hts _ k_48⟩ (uPreV (ci := 0) (q0 := 2) hK hP hD hN [2] rfl (by decide) [] rfl rfl rfl) rfl rfl hl.1 rfl (lv_room (Nat.le_of_ble_eq_true rfl)) d_PatternBook_Binary_hasNumber_8 ⟨(Nat.le_of_ble_eq_true rfl), (Nat.le_of_ble_eq_true rfl)⟩) hK hP hD hS hA [2] [0, 1] rfl rfl (by decide) (by decide) [] rfl (fun u1 H locs hu1 hP hD hK hS => ?_)
  have hP : va_P D classes [(f, .inr (2, [.int fb, .int fp, .int fl, .int fg, .int ft, .int ff, .long fu])), (d, .inr (1, [.int kd, .int (bI ng), .int ex, .ref b])), (b, .inr (0, [.long bh, .long bl]))] H := hP
  have hD : va_D A [(f, .inr (2, [.int fb, .int fp, .int fl, .int fg, .int ft, .int ff, .long fu])), (d, .inr (1, [.int kd, .int (bI ng), .int ex, .ref b])), (b, .inr (0, [.long bh, .long bl]))] := hD
  have hK : va_K D classes [] s := hK
  refine W.eq (g2 := F0 m 11 ls [.int (bI u1)]) rfl ?_
  refine lv_if_eq (tgt := 31) hx hb d_PatternBook_Binary_hasNumber_11 (by decide) (fun c_2 => ?_) (fun c_2 => ?_)
  · refine lv_aload_n hx hb d_PatternBook_Binary_hasNumber_31 rfl (lv_at hl 1 rfl) ?_
    refine va_getN (D := D) (ci := 1) (v := .ref b) (C := R_PatternBook_Datum) (T := F_PatternBook_Datum) (N := 4) hx hb hts i_PatternBook_Datum hown hK hP 1 rfl rfl 3 (by decide) (va_Nw.use rfl (hN _ kn_2)) (fun _ h9 => h9) rfl d_PatternBook_Binary_hasNumber_32 ?_
    refine lv_aload_n hx hb d_PatternBook_Binary_hasNumber_35 rfl (lv_at hl 0 rfl) ?_
    refine va_get (D := D) (ci := 2) (v := .int fp) (C := R_PatternBook_Binary) (T := F_PatternBook_Binary) (N := 7) hx hb hts i_PatternBook_Binary hown hK hP 0 rfl rfl 1 (by decide) (hts _ k_50) (fun x9 h9 => u_same (hts _ k_49) x9 h9) rfl d_PatternBook_Binary_hasNumber_36 ?_
    refine uCall (WR := [(f, .inr (2, [.int fb, .int fp, .int fl, .int fg, .int ft, .int ff, .long fu])), (d, .inr (1, [.int kd, .int (bI ng), .int ex, .ref b]))]) (RT := []) (va_runV (As := [.int fp]) (rest := []) ⟨hx, hb, hml, hown, hts⟩ (c_W_fits l D b H.size fp bh bl) ⟨uCB 1 hts k_45 k_12 k_46 (by decide +kernel) rfl rfl ⟨Nat.le_of_ble_eq_true rfl, Nat.le_of_ble_eq_true rfl⟩, hts _ k_47, hts _ k_48⟩ (uPreV (ci := 0) (q0 := 2) hK hP hD hN [2] rfl (by decide) [] rfl rfl rfl) rfl rfl hl.1 rfl (lv_room (Nat.le_of_ble_eq_true rfl)) d_PatternBook_Binary_hasNumber_39 ⟨(Nat.le_of_ble_eq_true rfl), (Nat.le_of_ble_eq_true rfl)⟩) hK hP hD hS hA [2] [0, 1] rfl rfl (by decide) (by decide) [] rfl (fun u3 H locs hu3 hP hD hK hS => ?_)
    have hP : va_P D classes [(f, .inr (2, [.int fb, .int fp, .int fl, .int fg, .int ft, .int ff, .long fu])), (d, .inr (1, [.int kd, .int (bI ng), .int ex, .ref b])), (b, .inr (0, [.long bh, .long bl]))] H := hP
    have hD : va_D A [(f, .inr (2, [.int fb, .int fp, .int fl, .int fg, .int ft, .int ff, .long fu])), (d, .inr (1, [.int kd, .int (bI ng), .int ex, .ref b])), (b, .inr (0, [.long bh, .long bl]))] := hD
    have hK : va_K D classes [] s := hK
    refine W.eq (g2 := F0 m 42 ls [.int (bI u3)]) rfl ?_
    refine W.zret hx hb hr (bI_nar _) ?_ hS.2.2 d_PatternBook_Binary_hasNumber_42
    exact uEnd u3 (hP.sub [0, 1, 2] rfl) (hK.sub [] rfl) (hD.sub [0, 1, 2] (by decide) rfl) hS (by have eu1 := hu1.symm; subst eu1; have eu3 := hu3.symm; subst eu3; exact ((if_pos c_2).trans (rfl)).symm) rfl
  · refine lv_aload_n hx hb d_PatternBook_Binary_hasNumber_14 rfl (lv_at hl 1 rfl) ?_
    refine va_getN (D := D) (ci := 1) (v := .int ex) (C := R_PatternBook_Datum) (T := F_PatternBook_Datum) (N := 4) hx hb hts i_PatternBook_Datum hown hK hP 1 rfl rfl 2 (by decide) (va_Nw.use rfl (hN _ kn_3)) (fun _ h9 => h9) rfl d_PatternBook_Binary_hasNumber_15 ?_
    refine lv_aload_n hx hb d_PatternBook_Binary_hasNumber_18 rfl (lv_at hl 0 rfl) ?_
    refine va_get (D := D) (ci := 2) (v := .int fl) (C := R_PatternBook_Binary) (T := F_PatternBook_Binary) (N := 7) hx hb hts i_PatternBook_Binary hown hK hP 0 rfl rfl 2 (by decide) (hts _ k_52) (fun x9 h9 => u_same (hts _ k_51) x9 h9) rfl d_PatternBook_Binary_hasNumber_19 ?_
    refine lv_icmp_ne (tgt := 29) hx hb d_PatternBook_Binary_hasNumber_22 (by decide) (fun c_4 => ?_) (fun c_4 => ?_)
    · refine lv_iconst (v := 0) hx hb d_PatternBook_Binary_hasNumber_29 (by decide) ?_
      refine W.zret hx hb hr rfl ?_ hS.2.2 d_PatternBook_Binary_hasNumber_30
      exact uEnd false (hP.sub [0, 1, 2] rfl) (hK.sub [] rfl) (hD.sub [0, 1, 2] (by decide) rfl) hS (by have eu1 := hu1.symm; subst eu1; exact ((if_neg c_2).trans ((if_neg c_4).trans (rfl))).symm) rfl
    · refine lv_iconst (v := 1) hx hb d_PatternBook_Binary_hasNumber_25 (by decide) ?_
      refine lv_goto (tgt := 30) hx hb d_PatternBook_Binary_hasNumber_26 (by decide) ?_
      refine W.zret hx hb hr rfl ?_ hS.2.2 d_PatternBook_Binary_hasNumber_30
      exact uEnd true (hP.sub [0, 1, 2] rfl) (hK.sub [] rfl) (hD.sub [0, 1, 2] (by decide) rfl) hS (by have eu1 := hu1.symm; subst eu1; exact ((if_neg c_2).trans ((if_pos c_4).trans (rfl))).symm) rfl
set_option maxHeartbeats 4000000 in
set_option maxRecDepth 100000 in
/-- PatternBook$Binary.hasNan(LPatternBook$Datum;)Z -/
theorem c_B_hasNan (l : Launch) (D : va_G) (f : Nat) (d : Nat) (b : Nat) (sz : Nat) (fb : Int32) (fp : Int32) (fl : Int32) (fg : Int32) (ft : Int32) (ff : Int32) (fu : Int64) (kd : Int32) (ng : Bool) (ex : Int32) (bh : Int64) (bl : Int64) : Met l y_PatternBook_Binary_hasNan (wsOf y_PatternBook_Binary_hasNan b_PatternBook_Binary_hasNan 3 (some .boolean)) ({ frames := 1, cells := 0, slots := 0, locals := 21 }) (uP D classes [(f, .inr (2, [.int fb, .int fp, .int fl, .int fg, .int ft, .int ff, .long fu])), (d, .inr (1, [.int kd, .int (bI ng), .int ex, .ref b])), (b, .inr (0, [.long bh, .long bl]))] [] sz [.ref f, .ref d]) (uQ D classes (fun u : Bool => some (.int (bI u))) (fun u => u = (sl m_B_hasNan) ft kd bh bl) (va_A [(f, .inr (2, [.int fb, .int fp, .int fl, .int fg, .int ft, .int ff, .long fu])), (d, .inr (1, [.int kd, .int (bI ng), .int ex, .ref b])), (b, .inr (0, [.long bh, .long bl]))] sz) (fun _ => []) (fun u => [(f, .inr (2, [.int fb, .int fp, .int fl, .int fg, .int ft, .int ff, .long fu])), (d, .inr (1, [.int kd, .int (bI ng), .int ex, .ref b])), (b, .inr (0, [.long bh, .long bl]))])) 0 0 (va_A [(f, .inr (2, [.int fb, .int fp, .int fl, .int fg, .int ft, .int ff, .long fu])), (d, .inr (1, [.int kd, .int (bI ng), .int ex, .ref b])), (b, .inr (0, [.long bh, .long bl]))] sz) := by
  rw [sl_eq m_B_hasNan]
  refine uBegin (by decide +kernel) (Nat.le_of_ble_eq_true rfl) ?_
  intro p e s m below meth c A ls H locs hx hb hr hts hown hlocks hml hin hA hP hK hD hN hS hl
  have hl : lv_has ls 3 [(0, .ref f), (1, .ref d)] := hl
  refine lv_aload_n hx hb d_PatternBook_Binary_hasNan_0 rfl (lv_at hl 1 rfl) ?_
  refine va_getN (D := D) (ci := 1) (v := .int kd) (C := R_PatternBook_Datum) (T := F_PatternBook_Datum) (N := 4) hx hb hts i_PatternBook_Datum hown hK hP 1 rfl rfl 0 (by decide) (va_Nw.use rfl (hN _ kn_4)) (fun _ h9 => h9) rfl d_PatternBook_Binary_hasNan_1 ?_
  refine lv_iconst (v := 3) hx hb d_PatternBook_Binary_hasNan_4 (by decide) ?_
  refine lv_icmp_ne (tgt := 22) hx hb d_PatternBook_Binary_hasNan_5 (by decide) (fun c_1 => ?_) (fun c_1 => ?_)
  · refine lv_iconst (v := 0) hx hb d_PatternBook_Binary_hasNan_22 (by decide) ?_
    refine lv_istore_n (lv' := [(2, .int (0:Int32)), (0, .ref f), (1, .ref d)]) hx hb d_PatternBook_Binary_hasNan_23 rfl hl (by decide) rfl (fun ls hl => ?_)
    refine lv_aload_n hx hb d_PatternBook_Binary_hasNan_24 rfl (lv_at hl 2 rfl) ?_
    refine va_getN (D := D) (ci := 1) (v := .ref b) (C := R_PatternBook_Datum) (T := F_PatternBook_Datum) (N := 4) hx hb hts i_PatternBook_Datum hown hK hP 1 rfl rfl 3 (by decide) (va_Nw.use rfl (hN _ kn_2)) (fun _ h9 => h9) rfl d_PatternBook_Binary_hasNan_25 ?_
    refine lv_aload_n hx hb d_PatternBook_Binary_hasNan_28 rfl (lv_at hl 1 rfl) ?_
    refine va_get (D := D) (ci := 2) (v := .int ft) (C := R_PatternBook_Binary) (T := F_PatternBook_Binary) (N := 7) hx hb hts i_PatternBook_Binary hown hK hP 0 rfl rfl 4 (by decide) (hts _ k_44) (fun _ h9 => h9) rfl d_PatternBook_Binary_hasNan_29 ?_
    refine lv_iconst (v := 1) hx hb d_PatternBook_Binary_hasNan_32 (by decide) ?_
    refine lv_isub hx hb d_PatternBook_Binary_hasNan_33 ?_
    refine uCall (WR := [(f, .inr (2, [.int fb, .int fp, .int fl, .int fg, .int ft, .int ff, .long fu])), (d, .inr (1, [.int kd, .int (bI ng), .int ex, .ref b]))]) (RT := []) (va_runV (As := [.int (ft - (1:Int32))]) (rest := []) ⟨hx, hb, hml, hown, hts⟩ (c_W_fits l D b H.size (ft - (1:Int32)) bh bl) ⟨uCB 1 hts k_45 k_12 k_46 (by decide +kernel) rfl rfl ⟨Nat.le_of_ble_eq_true rfl, Nat.le_of_ble_eq_true rfl⟩, hts _ k_47, hts _ k_48⟩ (uPreV (ci := 0) (q0 := 2) hK hP hD hN [2] rfl (by decide) [] rfl rfl rfl) rfl rfl hl.1 rfl (lv_room (Nat.le_of_ble_eq_true rfl)) d_PatternBook_Binary_hasNan_34 ⟨(Nat.le_of_ble_eq_true rfl), (Nat.le_of_ble_eq_true rfl)⟩) hK hP hD hS hA [2] [0, 1] rfl rfl (by decide) (by decide) [] rfl (fun u2 H locs hu2 hP hD hK hS => ?_)
    have hP : va_P D classes [(f, .inr (2, [.int fb, .int fp, .int fl, .int fg, .int ft, .int ff, .long fu])), (d, .inr (1, [.int kd, .int (bI ng), .int ex, .ref b])), (b, .inr (0, [.long bh, .long bl]))] H := hP
    have hD : va_D A [(f, .inr (2, [.int fb, .int fp, .int fl, .int fg, .int ft, .int ff, .long fu])), (d, .inr (1, [.int kd, .int (bI ng), .int ex, .ref b])), (b, .inr (0, [.long bh, .long bl]))] := hD
    have hK : va_K D classes [] s := hK
    refine W.eq (g2 := F0 m 37 ls [.int (bI u2)]) rfl ?_
    refine lv_if_eq (tgt := 48) hx hb d_PatternBook_Binary_hasNan_37 (by decide) (fun c_3 => ?_) (fun c_3 => ?_)
    · refine lv_iconst (v := 0) hx hb d_PatternBook_Binary_hasNan_48 (by decide) ?_
      refine W.zret hx hb hr rfl ?_ hS.2.2 d_PatternBook_Binary_hasNan_49
      exact uEnd false (hP.sub [0, 1, 2] rfl) (hK.sub [] rfl) (hD.sub [0, 1, 2] (by decide) rfl) hS (by have eu2 := hu2.symm; subst eu2; exact ((if_neg c_1).trans ((if_pos c_3).trans (rfl))).symm) rfl
    · refine lv_iload_n hx hb d_PatternBook_Binary_hasNan_40 rfl (lv_at hl 0 rfl) ?_
      refine lv_if_ne (tgt := 48) hx hb d_PatternBook_Binary_hasNan_41 (by decide) (fun c_4 => ?_) (fun c_4 => ?_)
      · exact absurd (by decide) c_4
      · refine lv_iconst (v := 1) hx hb d_PatternBook_Binary_hasNan_44 (by decide) ?_
        refine lv_goto (tgt := 49) hx hb d_PatternBook_Binary_hasNan_45 (by decide) ?_
        refine W.zret hx hb hr rfl ?_ hS.2.2 d_PatternBook_Binary_hasNan_49
        exact uEnd true (hP.sub [0, 1, 2] rfl) (hK.sub [] rfl) (hD.sub [0, 1, 2] (by decide) rfl) hS (by have eu2 := hu2.symm; subst eu2; exact ((if_neg c_1).trans ((if_neg c_3).trans (rfl))).symm) rfl
  · refine lv_aload_n hx hb d_PatternBook_Binary_hasNan_8 rfl (lv_at hl 1 rfl) ?_
    refine va_getN (D := D) (ci := 1) (v := .ref b) (C := R_PatternBook_Datum) (T := F_PatternBook_Datum) (N := 4) hx hb hts i_PatternBook_Datum hown hK hP 1 rfl rfl 3 (by decide) (va_Nw.use rfl (hN _ kn_2)) (fun _ h9 => h9) rfl d_PatternBook_Binary_hasNan_9 ?_
    refine uCall (WR := [(f, .inr (2, [.int fb, .int fp, .int fl, .int fg, .int ft, .int ff, .long fu])), (d, .inr (1, [.int kd, .int (bI ng), .int ex, .ref b]))]) (RT := []) (va_runV (As := []) (rest := []) ⟨hx, hb, hml, hown, hts⟩ (c_W_isZero l D b H.size bh bl) ⟨uCB 0 hts k_53 k_12 k_54 (by decide +kernel) rfl rfl ⟨Nat.le_of_ble_eq_true rfl, Nat.le_of_ble_eq_true rfl⟩, hts _ k_55, hts _ k_56⟩ (uPreV (ci := 0) (q0 := 2) hK hP hD hN [2] rfl (by decide) [] rfl rfl rfl) rfl rfl hl.1 rfl (lv_room (Nat.le_of_ble_eq_true rfl)) d_PatternBook_Binary_hasNan_12 ⟨(Nat.le_of_ble_eq_true rfl), (Nat.le_of_ble_eq_true rfl)⟩) hK hP hD hS hA [2] [0, 1] rfl rfl (by decide) (by decide) [] rfl (fun u5 H locs hu5 hP hD hK hS => ?_)
    have hP : va_P D classes [(f, .inr (2, [.int fb, .int fp, .int fl, .int fg, .int ft, .int ff, .long fu])), (d, .inr (1, [.int kd, .int (bI ng), .int ex, .ref b])), (b, .inr (0, [.long bh, .long bl]))] H := hP
    have hD : va_D A [(f, .inr (2, [.int fb, .int fp, .int fl, .int fg, .int ft, .int ff, .long fu])), (d, .inr (1, [.int kd, .int (bI ng), .int ex, .ref b])), (b, .inr (0, [.long bh, .long bl]))] := hD
    have hK : va_K D classes [] s := hK
    refine W.eq (g2 := F0 m 15 ls [.int (bI u5)]) rfl ?_
    refine lv_if_eq (tgt := 22) hx hb d_PatternBook_Binary_hasNan_15 (by decide) (fun c_6 => ?_) (fun c_6 => ?_)
    · refine lv_iconst (v := 0) hx hb d_PatternBook_Binary_hasNan_22 (by decide) ?_
      refine lv_istore_n (lv' := [(2, .int (0:Int32)), (0, .ref f), (1, .ref d)]) hx hb d_PatternBook_Binary_hasNan_23 rfl hl (by decide) rfl (fun ls hl => ?_)
      refine lv_aload_n hx hb d_PatternBook_Binary_hasNan_24 rfl (lv_at hl 2 rfl) ?_
      refine va_getN (D := D) (ci := 1) (v := .ref b) (C := R_PatternBook_Datum) (T := F_PatternBook_Datum) (N := 4) hx hb hts i_PatternBook_Datum hown hK hP 1 rfl rfl 3 (by decide) (va_Nw.use rfl (hN _ kn_2)) (fun _ h9 => h9) rfl d_PatternBook_Binary_hasNan_25 ?_
      refine lv_aload_n hx hb d_PatternBook_Binary_hasNan_28 rfl (lv_at hl 1 rfl) ?_
      refine va_get (D := D) (ci := 2) (v := .int ft) (C := R_PatternBook_Binary) (T := F_PatternBook_Binary) (N := 7) hx hb hts i_PatternBook_Binary hown hK hP 0 rfl rfl 4 (by decide) (hts _ k_44) (fun _ h9 => h9) rfl d_PatternBook_Binary_hasNan_29 ?_
      refine lv_iconst (v := 1) hx hb d_PatternBook_Binary_hasNan_32 (by decide) ?_
      refine lv_isub hx hb d_PatternBook_Binary_hasNan_33 ?_
      refine uCall (WR := [(f, .inr (2, [.int fb, .int fp, .int fl, .int fg, .int ft, .int ff, .long fu])), (d, .inr (1, [.int kd, .int (bI ng), .int ex, .ref b]))]) (RT := []) (va_runV (As := [.int (ft - (1:Int32))]) (rest := []) ⟨hx, hb, hml, hown, hts⟩ (c_W_fits l D b H.size (ft - (1:Int32)) bh bl) ⟨uCB 1 hts k_45 k_12 k_46 (by decide +kernel) rfl rfl ⟨Nat.le_of_ble_eq_true rfl, Nat.le_of_ble_eq_true rfl⟩, hts _ k_47, hts _ k_48⟩ (uPreV (ci := 0) (q0 := 2) hK hP hD hN [2] rfl (by decide) [] rfl rfl rfl) rfl rfl hl.1 rfl (lv_room (Nat.le_of_ble_eq_true rfl)) d_PatternBook_Binary_hasNan_34 ⟨(Nat.le_of_ble_eq_true rfl), (Nat.le_of_ble_eq_true rfl)⟩) hK hP hD hS hA [2] [0, 1] rfl rfl (by decide) (by decide) [] rfl (fun u7 H locs hu7 hP hD hK hS => ?_)
      have hP : va_P D classes [(f, .inr (2, [.int fb, .int fp, .int fl, .int fg, .int ft, .int ff, .long fu])), (d, .inr (1, [.int kd, .int (bI ng), .int ex, .ref b])), (b, .inr (0, [.long bh, .long bl]))] H := hP
      have hD : va_D A [(f, .inr (2, [.int fb, .int fp, .int fl, .int fg, .int ft, .int ff, .long fu])), (d, .inr (1, [.int kd, .int (bI ng), .int ex, .ref b])), (b, .inr (0, [.long bh, .long bl]))] := hD
      have hK : va_K D classes [] s := hK
      refine W.eq (g2 := F0 m 37 ls [.int (bI u7)]) rfl ?_
      refine lv_if_eq (tgt := 48) hx hb d_PatternBook_Binary_hasNan_37 (by decide) (fun c_8 => ?_) (fun c_8 => ?_)
      · refine lv_iconst (v := 0) hx hb d_PatternBook_Binary_hasNan_48 (by decide) ?_
        refine W.zret hx hb hr rfl ?_ hS.2.2 d_PatternBook_Binary_hasNan_49
        exact uEnd false (hP.sub [0, 1, 2] rfl) (hK.sub [] rfl) (hD.sub [0, 1, 2] (by decide) rfl) hS (by have eu5 := hu5.symm; subst eu5; have eu7 := hu7.symm; subst eu7; exact ((if_pos c_1).trans ((if_pos c_6).trans ((if_pos c_8).trans (rfl)))).symm) rfl
      · refine lv_iload_n hx hb d_PatternBook_Binary_hasNan_40 rfl (lv_at hl 0 rfl) ?_
        refine lv_if_ne (tgt := 48) hx hb d_PatternBook_Binary_hasNan_41 (by decide) (fun c_9 => ?_) (fun c_9 => ?_)
        · exact absurd (by decide) c_9
        · refine lv_iconst (v := 1) hx hb d_PatternBook_Binary_hasNan_44 (by decide) ?_
          refine lv_goto (tgt := 49) hx hb d_PatternBook_Binary_hasNan_45 (by decide) ?_
          refine W.zret hx hb hr rfl ?_ hS.2.2 d_PatternBook_Binary_hasNan_49
          exact uEnd true (hP.sub [0, 1, 2] rfl) (hK.sub [] rfl) (hD.sub [0, 1, 2] (by decide) rfl) hS (by have eu5 := hu5.symm; subst eu5; have eu7 := hu7.symm; subst eu7; exact ((if_pos c_1).trans ((if_pos c_6).trans ((if_neg c_8).trans (rfl)))).symm) rfl
    · refine lv_iconst (v := 1) hx hb d_PatternBook_Binary_hasNan_18 (by decide) ?_
      refine lv_goto (tgt := 23) hx hb d_PatternBook_Binary_hasNan_19 (by decide) ?_
      refine lv_istore_n (lv' := [(2, .int (1:Int32)), (0, .ref f), (1, .ref d)]) hx hb d_PatternBook_Binary_hasNan_23 rfl hl (by decide) rfl (fun ls hl => ?_)
      refine lv_aload_n hx hb d_PatternBook_Binary_hasNan_24 rfl (lv_at hl 2 rfl) ?_
      refine va_getN (D := D) (ci := 1) (v := .ref b) (C := R_PatternBook_Datum) (T := F_PatternBook_Datum) (N := 4) hx hb hts i_PatternBook_Datum hown hK hP 1 rfl rfl 3 (by decide) (va_Nw.use rfl (hN _ kn_2)) (fun _ h9 => h9) rfl d_PatternBook_Binary_hasNan_25 ?_
      refine lv_aload_n hx hb d_PatternBook_Binary_hasNan_28 rfl (lv_at hl 1 rfl) ?_
      refine va_get (D := D) (ci := 2) (v := .int ft) (C := R_PatternBook_Binary) (T := F_PatternBook_Binary) (N := 7) hx hb hts i_PatternBook_Binary hown hK hP 0 rfl rfl 4 (by decide) (hts _ k_44) (fun _ h9 => h9) rfl d_PatternBook_Binary_hasNan_29 ?_
      refine lv_iconst (v := 1) hx hb d_PatternBook_Binary_hasNan_32 (by decide) ?_
      refine lv_isub hx hb d_PatternBook_Binary_hasNan_33 ?_
      refine uCall (WR := [(f, .inr (2, [.int fb, .int fp, .int fl, .int fg, .int ft, .int ff, .long fu])), (d, .inr (1, [.int kd, .int (bI ng), .int ex, .ref b]))]) (RT := []) (va_runV (As := [.int (ft - (1:Int32))]) (rest := []) ⟨hx, hb, hml, hown, hts⟩ (c_W_fits l D b H.size (ft - (1:Int32)) bh bl) ⟨uCB 1 hts k_45 k_12 k_46 (by decide +kernel) rfl rfl ⟨Nat.le_of_ble_eq_true rfl, Nat.le_of_ble_eq_true rfl⟩, hts _ k_47, hts _ k_48⟩ (uPreV (ci := 0) (q0 := 2) hK hP hD hN [2] rfl (by decide) [] rfl rfl rfl) rfl rfl hl.1 rfl (lv_room (Nat.le_of_ble_eq_true rfl)) d_PatternBook_Binary_hasNan_34 ⟨(Nat.le_of_ble_eq_true rfl), (Nat.le_of_ble_eq_true rfl)⟩) hK hP hD hS hA [2] [0, 1] rfl rfl (by decide) (by decide) [] rfl (fun u10 H locs hu10 hP hD hK hS => ?_)
      have hP : va_P D classes [(f, .inr (2, [.int fb, .int fp, .int fl, .int fg, .int ft, .int ff, .long fu])), (d, .inr (1, [.int kd, .int (bI ng), .int ex, .ref b])), (b, .inr (0, [.long bh, .long bl]))] H := hP
      have hD : va_D A [(f, .inr (2, [.int fb, .int fp, .int fl, .int fg, .int ft, .int ff, .long fu])), (d, .inr (1, [.int kd, .int (bI ng), .int ex, .ref b])), (b, .inr (0, [.long bh, .long bl]))] := hD
      have hK : va_K D classes [] s := hK
      refine W.eq (g2 := F0 m 37 ls [.int (bI u10)]) rfl ?_
      refine lv_if_eq (tgt := 48) hx hb d_PatternBook_Binary_hasNan_37 (by decide) (fun c_11 => ?_) (fun c_11 => ?_)
      · refine lv_iconst (v := 0) hx hb d_PatternBook_Binary_hasNan_48 (by decide) ?_
        refine W.zret hx hb hr rfl ?_ hS.2.2 d_PatternBook_Binary_hasNan_49
        exact uEnd false (hP.sub [0, 1, 2] rfl) (hK.sub [] rfl) (hD.sub [0, 1, 2] (by decide) rfl) hS (by have eu5 := hu5.symm; subst eu5; have eu10 := hu10.symm; subst eu10; exact ((if_pos c_1).trans ((if_neg c_6).trans ((if_pos c_11).trans (rfl)))).symm) rfl
      · refine lv_iload_n hx hb d_PatternBook_Binary_hasNan_40 rfl (lv_at hl 0 rfl) ?_
        refine lv_if_ne (tgt := 48) hx hb d_PatternBook_Binary_hasNan_41 (by decide) (fun c_12 => ?_) (fun c_12 => ?_)
        · refine lv_iconst (v := 0) hx hb d_PatternBook_Binary_hasNan_48 (by decide) ?_
          refine W.zret hx hb hr rfl ?_ hS.2.2 d_PatternBook_Binary_hasNan_49
          exact uEnd false (hP.sub [0, 1, 2] rfl) (hK.sub [] rfl) (hD.sub [0, 1, 2] (by decide) rfl) hS (by have eu5 := hu5.symm; subst eu5; have eu10 := hu10.symm; subst eu10; exact ((if_pos c_1).trans ((if_neg c_6).trans ((if_neg c_11).trans (rfl)))).symm) rfl
        · exact absurd c_12 (by decide)
set_option maxHeartbeats 4000000 in
set_option maxRecDepth 100000 in
/-- PatternBook$Binary.readSpecial(LPatternBook$Datum;)V -/
theorem c_B_special (l : Launch) (D : va_G) (f : Nat) (d : Nat) (b : Nat) (sz : Nat) (fb : Int32) (fp : Int32) (fl : Int32) (fg : Int32) (ft : Int32) (ff : Int32) (fu : Int64) (kd : Int32) (ng : Bool) (ex : Int32) (bh : Int64) (bl : Int64) : Met l y_PatternBook_Binary_readSpecial (wsOf y_PatternBook_Binary_readSpecial b_PatternBook_Binary_readSpecial 3 none) ({ frames := 2, cells := 0, slots := 0, locals := 46 }) (uP D classes [(f, .inr (2, [.int fb, .int fp, .int fl, .int fg, .int ft, .int ff, .long fu])), (d, .inr (1, [.int kd, .int (bI ng), .int ex, .ref b])), (b, .inr (0, [.long bh, .long bl]))] [] sz [.ref f, .ref d]) (uQ D classes (fun _ : Int32 × Int32 × Int64 × Int64 => none) (fun u => u = (sl m_B_special) ft bh bl) (va_A [(f, .inr (2, [.int fb, .int fp, .int fl, .int fg, .int ft, .int ff, .long fu])), (d, .inr (1, [.int kd, .int (bI ng), .int ex, .ref b])), (b, .inr (0, [.long bh, .long bl]))] sz) (fun _ => []) (fun u => [(f, .inr (2, [.int fb, .int fp, .int fl, .int fg, .int ft, .int ff, .long fu])), (d, .inr (1, [.int u.1, .int (bI ng), .int u.2.1, .ref b])), (b, .inr (0, [.long u.2.2.1, .long u.2.2.2]))])) 0 0 (va_A [(f, .inr (2, [.int fb, .int fp, .int fl, .int fg, .int ft, .int ff, .long fu])), (d, .inr (1, [.int kd, .int (bI ng), .int ex, .ref b])), (b, .inr (0, [.long bh, .long bl]))] sz) := by
  rw [sl_eq m_B_special]
  refine uBegin (by decide +kernel) (Nat.le_of_ble_eq_true rfl) ?_
  intro p e s m below meth c A ls H locs hx hb hr hts hown hlocks hml hin hA hP hK hD hN hS hl
  have hl : lv_has ls 3 [(0, .ref f), (1, .ref d)] := hl
  refine lv_aload_n hx hb d_PatternBook_Binary_readSpecial_0 rfl (lv_at hl 1 rfl) ?_
  refine va_getN (D := D) (ci := 1) (v := .ref b) (C := R_PatternBook_Datum) (T := F_PatternBook_Datum) (N := 4) hx hb hts i_PatternBook_Datum hown hK hP 1 rfl rfl 3 (by decide) (va_Nw.use rfl (hN _ kn_2)) (fun _ h9 => h9) rfl d_PatternBook_Binary_readSpecial_1 ?_
  refine uCall (WR := [(f, .inr (2, [.int fb, .int fp, .int fl, .int fg, .int ft, .int ff, .long fu])), (d, .inr (1, [.int kd, .int (bI ng), .int ex, .ref b]))]) (RT := []) (va_runV (As := []) (rest := []) ⟨hx, hb, hml, hown, hts⟩ (c_W_isZero l D b H.size bh bl) ⟨uCB 0 hts k_53 k_12 k_54 (by decide +kernel) rfl rfl ⟨Nat.le_of_ble_eq_true rfl, Nat.le_of_ble_eq_true rfl⟩, hts _ k_55, hts _ k_56⟩ (uPreV (ci := 0) (q0 := 2) hK hP hD hN [2] rfl (by decide) [] rfl rfl rfl) rfl rfl hl.1 rfl (lv_room (Nat.le_of_ble_eq_true rfl)) d_PatternBook_Binary_readSpecial_4 ⟨(Nat.le_of_ble_eq_true rfl), (Nat.le_of_ble_eq_true rfl)⟩) hK hP hD hS hA [2] [0, 1] rfl rfl (by decide) (by decide) [] rfl (fun u1 H locs hu1 hP hD hK hS => ?_)
  have hP : va_P D classes [(f, .inr (2, [.int fb, .int fp, .int fl, .int fg, .int ft, .int ff, .long fu])), (d, .inr (1, [.int kd, .int (bI ng), .int ex, .ref b])), (b, .inr (0, [.long bh, .long bl]))] H := hP
  have hD : va_D A [(f, .inr (2, [.int fb, .int fp, .int fl, .int fg, .int ft, .int ff, .long fu])), (d, .inr (1, [.int kd, .int (bI ng), .int ex, .ref b])), (b, .inr (0, [.long bh, .long bl]))] := hD
  have hK : va_K D classes [] s := hK
  refine W.eq (g2 := F0 m 7 ls [.int (bI u1)]) rfl ?_
  refine lv_if_eq (tgt := 17) hx hb d_PatternBook_Binary_readSpecial_7 (by decide) (fun c_2 => ?_) (fun c_2 => ?_)
  · refine lv_aload_n hx hb d_PatternBook_Binary_readSpecial_17 rfl (lv_at hl 1 rfl) ?_
    refine va_getN (D := D) (ci := 1) (v := .ref b) (C := R_PatternBook_Datum) (T := F_PatternBook_Datum) (N := 4) hx hb hts i_PatternBook_Datum hown hK hP 1 rfl rfl 3 (by decide) (va_Nw.use rfl (hN _ kn_2)) (fun _ h9 => h9) rfl d_PatternBook_Binary_readSpecial_18 ?_
    refine lv_aload_n hx hb d_PatternBook_Binary_readSpecial_21 rfl (lv_at hl 0 rfl) ?_
    refine va_get (D := D) (ci := 2) (v := .int ft) (C := R_PatternBook_Binary) (T := F_PatternBook_Binary) (N := 7) hx hb hts i_PatternBook_Binary hown hK hP 0 rfl rfl 4 (by decide) (hts _ k_44) (fun _ h9 => h9) rfl d_PatternBook_Binary_readSpecial_22 ?_
    refine lv_iconst (v := 1) hx hb d_PatternBook_Binary_readSpecial_25 (by decide) ?_
    refine lv_isub hx hb d_PatternBook_Binary_readSpecial_26 ?_
    refine lv_iconst (v := 1) hx hb d_PatternBook_Binary_readSpecial_27 (by decide) ?_
    refine uCall (WR := [(f, .inr (2, [.int fb, .int fp, .int fl, .int fg, .int ft, .int ff, .long fu])), (d, .inr (1, [.int kd, .int (bI ng), .int ex, .ref b]))]) (RT := []) (va_runV (As := [.int (ft - (1:Int32)), .int (1:Int32)]) (rest := []) ⟨hx, hb, hml, hown, hts⟩ (c_W_bitsAt l D b H.size (ft - (1:Int32)) (1:Int32) bh bl) ⟨uCB 2 hts k_57 k_12 k_58 (by decide +kernel) rfl rfl ⟨Nat.le_of_ble_eq_true rfl, Nat.le_of_ble_eq_true rfl⟩, hts _ k_59, hts _ k_60⟩ (uPreV (ci := 0) (q0 := 2) hK hP hD hN [2] rfl (by decide) [] rfl rfl rfl) rfl rfl hl.1 rfl (lv_room (Nat.le_of_ble_eq_true rfl)) d_PatternBook_Binary_readSpecial_28 ⟨(Nat.le_of_ble_eq_true rfl), (Nat.le_of_ble_eq_true rfl)⟩) hK hP hD hS hA [2] [0, 1] rfl rfl (by decide) (by decide) [] rfl (fun u3 H locs hu3 hP hD hK hS => ?_)
    have hP : va_P D classes [(f, .inr (2, [.int fb, .int fp, .int fl, .int fg, .int ft, .int ff, .long fu])), (d, .inr (1, [.int kd, .int (bI ng), .int ex, .ref b])), (b, .inr (0, [.long bh, .long bl]))] H := hP
    have hD : va_D A [(f, .inr (2, [.int fb, .int fp, .int fl, .int fg, .int ft, .int ff, .long fu])), (d, .inr (1, [.int kd, .int (bI ng), .int ex, .ref b])), (b, .inr (0, [.long bh, .long bl]))] := hD
    have hK : va_K D classes [] s := hK
    refine W.eq (g2 := F0 m 31 ls [.long u3]) rfl ?_
    refine lv_lconst (v := 1) hx hb d_PatternBook_Binary_readSpecial_31 (by decide) ?_
    refine W.lcmp hx hb d_PatternBook_Binary_readSpecial_32 ?_
    refine lv_if_ne (tgt := 40) hx hb d_PatternBook_Binary_readSpecial_33 (by decide) (fun c_4 => ?_) (fun c_4 => ?_)
    · refine lv_iconst (v := 0) hx hb d_PatternBook_Binary_readSpecial_40 (by decide) ?_
      refine lv_istore_n (lv' := [(2, .int (0:Int32)), (0, .ref f), (1, .ref d)]) hx hb d_PatternBook_Binary_readSpecial_41 rfl hl (by decide) rfl (fun ls hl => ?_)
      refine lv_aload_n hx hb d_PatternBook_Binary_readSpecial_42 rfl (lv_at hl 2 rfl) ?_
      refine va_getN (D := D) (ci := 1) (v := .ref b) (C := R_PatternBook_Datum) (T := F_PatternBook_Datum) (N := 4) hx hb hts i_PatternBook_Datum hown hK hP 1 rfl rfl 3 (by decide) (va_Nw.use rfl (hN _ kn_2)) (fun _ h9 => h9) rfl d_PatternBook_Binary_readSpecial_43 ?_
      refine lv_aload_n hx hb d_PatternBook_Binary_readSpecial_46 rfl (lv_at hl 1 rfl) ?_
      refine va_get (D := D) (ci := 2) (v := .int ft) (C := R_PatternBook_Binary) (T := F_PatternBook_Binary) (N := 7) hx hb hts i_PatternBook_Binary hown hK hP 0 rfl rfl 4 (by decide) (hts _ k_44) (fun _ h9 => h9) rfl d_PatternBook_Binary_readSpecial_47 ?_
      refine lv_iconst (v := 1) hx hb d_PatternBook_Binary_readSpecial_50 (by decide) ?_
      refine lv_isub hx hb d_PatternBook_Binary_readSpecial_51 ?_
      refine uCall (WR := [(f, .inr (2, [.int fb, .int fp, .int fl, .int fg, .int ft, .int ff, .long fu])), (d, .inr (1, [.int kd, .int (bI ng), .int ex, .ref b]))]) (RT := []) (va_runV (As := [.int (ft - (1:Int32))]) (rest := []) ⟨hx, hb, hml, hown, hts⟩ (c_W_keep l D b H.size (ft - (1:Int32)) bh bl) ⟨uCB 1 hts k_61 k_12 k_62 (by decide +kernel) rfl rfl ⟨Nat.le_of_ble_eq_true rfl, Nat.le_of_ble_eq_true rfl⟩, hts _ k_63, hts _ k_64⟩ (uPreV (ci := 0) (q0 := 2) hK hP hD hN [2] rfl (by decide) [] rfl rfl rfl) rfl rfl hl.1 rfl (lv_room (Nat.le_of_ble_eq_true rfl)) d_PatternBook_Binary_readSpecial_52 ⟨(Nat.le_of_ble_eq_true rfl), (Nat.le_of_ble_eq_true rfl)⟩) hK hP hD hS hA [2] [0, 1] rfl rfl (by decide) (by decide) [] rfl (fun u5 H locs hu5 hP hD hK hS => ?_)
      have hP : va_P D classes [(f, .inr (2, [.int fb, .int fp, .int fl, .int fg, .int ft, .int ff, .long fu])), (d, .inr (1, [.int kd, .int (bI ng), .int ex, .ref b])), (b, .inr (0, [.long u5.1, .long u5.2]))] H := hP
      have hD : va_D A [(f, .inr (2, [.int fb, .int fp, .int fl, .int fg, .int ft, .int ff, .long fu])), (d, .inr (1, [.int kd, .int (bI ng), .int ex, .ref b])), (b, .inr (0, [.long u5.1, .long u5.2]))] := hD
      have hK : va_K D classes [] s := hK
      refine W.eq (g2 := F0 m 55 ls []) rfl ?_
      refine lv_aload_n hx hb d_PatternBook_Binary_readSpecial_55 rfl (lv_at hl 2 rfl) ?_
      refine lv_iload_n hx hb d_PatternBook_Binary_readSpecial_56 rfl (lv_at hl 0 rfl) ?_
      refine lv_if_eq (tgt := 64) hx hb d_PatternBook_Binary_readSpecial_57 (by decide) (fun c_6 => ?_) (fun c_6 => ?_)
      · refine lv_iconst (v := 3) hx hb d_PatternBook_Binary_readSpecial_64 (by decide) ?_
        refine lv_iconst (v := 0) hx hb d_PatternBook_Binary_readSpecial_65 (by decide) ?_
        refine uCall (WR := [(f, .inr (2, [.int fb, .int fp, .int fl, .int fg, .int ft, .int ff, .long fu]))]) (RT := []) (va_runV (As := [.int (3:Int32), .int (0:Int32)]) (rest := []) ⟨hx, hb, hml, hown, hts⟩ (c_D_become l D d b H.size (3:Int32) (0:Int32) kd ng ex u5.1 u5.2) ⟨uCB 2 hts k_65 k_66 k_67 (by decide +kernel) rfl rfl ⟨Nat.le_of_ble_eq_true rfl, Nat.le_of_ble_eq_true rfl⟩, hts _ k_68, hts _ k_69⟩ (uPreV (ci := 1) (q0 := 1) hK hP hD hN [1, 2] rfl (by decide) [] rfl rfl rfl) rfl rfl hl.1 rfl (lv_room (Nat.le_of_ble_eq_true rfl)) d_PatternBook_Binary_readSpecial_66 ⟨(Nat.le_of_ble_eq_true rfl), (Nat.le_of_ble_eq_true rfl)⟩) hK hP hD hS hA [1, 2] [0] rfl rfl (by decide) (by decide) [] rfl (fun u7 H locs hu7 hP hD hK hS => ?_)
        have hP : va_P D classes [(f, .inr (2, [.int fb, .int fp, .int fl, .int fg, .int ft, .int ff, .long fu])), (d, .inr (1, [.int u7.1, .int (bI ng), .int u7.2.1, .ref b])), (b, .inr (0, [.long u7.2.2.1, .long u7.2.2.2]))] H := hP
        have hD : va_D A [(f, .inr (2, [.int fb, .int fp, .int fl, .int fg, .int ft, .int ff, .long fu])), (d, .inr (1, [.int u7.1, .int (bI ng), .int u7.2.1, .ref b])), (b, .inr (0, [.long u7.2.2.1, .long u7.2.2.2]))] := hD
        have hK : va_K D classes [] s := hK
        refine W.eq (g2 := F0 m 69 ls []) rfl ?_
        refine W.vret hx hb hr ?_ hS.2.2 d_PatternBook_Binary_readSpecial_69
        exact uEnd (u7.1, u7.2.1, u7.2.2.1, u7.2.2.2) (hP.sub [0, 1, 2] rfl) (hK.sub [] rfl) (hD.sub [0, 1, 2] (by decide) rfl) hS (by have eu1 := hu1.symm; subst eu1; have eu3 := hu3.symm; subst eu3; have eu5 := hu5.symm; subst eu5; have eu7 := hu7.symm; subst eu7; exact ((if_pos c_2).trans ((if_neg c_4).trans (rfl))).symm) rfl
      · exact absurd (by decide) c_6
    · refine lv_iconst (v := 1) hx hb d_PatternBook_Binary_readSpecial_36 (by decide) ?_
      refine lv_goto (tgt := 41) hx hb d_PatternBook_Binary_readSpecial_37 (by decide) ?_
      refine lv_istore_n (lv' := [(2, .int (1:Int32)), (0, .ref f), (1, .ref d)]) hx hb d_PatternBook_Binary_readSpecial_41 rfl hl (by decide) rfl (fun ls hl => ?_)
      refine lv_aload_n hx hb d_PatternBook_Binary_readSpecial_42 rfl (lv_at hl 2 rfl) ?_
      refine va_getN (D := D) (ci := 1) (v := .ref b) (C := R_PatternBook_Datum) (T := F_PatternBook_Datum) (N := 4) hx hb hts i_PatternBook_Datum hown hK hP 1 rfl rfl 3 (by decide) (va_Nw.use rfl (hN _ kn_2)) (fun _ h9 => h9) rfl d_PatternBook_Binary_readSpecial_43 ?_
      refine lv_aload_n hx hb d_PatternBook_Binary_readSpecial_46 rfl (lv_at hl 1 rfl) ?_
      refine va_get (D := D) (ci := 2) (v := .int ft) (C := R_PatternBook_Binary) (T := F_PatternBook_Binary) (N := 7) hx hb hts i_PatternBook_Binary hown hK hP 0 rfl rfl 4 (by decide) (hts _ k_44) (fun _ h9 => h9) rfl d_PatternBook_Binary_readSpecial_47 ?_
      refine lv_iconst (v := 1) hx hb d_PatternBook_Binary_readSpecial_50 (by decide) ?_
      refine lv_isub hx hb d_PatternBook_Binary_readSpecial_51 ?_
      refine uCall (WR := [(f, .inr (2, [.int fb, .int fp, .int fl, .int fg, .int ft, .int ff, .long fu])), (d, .inr (1, [.int kd, .int (bI ng), .int ex, .ref b]))]) (RT := []) (va_runV (As := [.int (ft - (1:Int32))]) (rest := []) ⟨hx, hb, hml, hown, hts⟩ (c_W_keep l D b H.size (ft - (1:Int32)) bh bl) ⟨uCB 1 hts k_61 k_12 k_62 (by decide +kernel) rfl rfl ⟨Nat.le_of_ble_eq_true rfl, Nat.le_of_ble_eq_true rfl⟩, hts _ k_63, hts _ k_64⟩ (uPreV (ci := 0) (q0 := 2) hK hP hD hN [2] rfl (by decide) [] rfl rfl rfl) rfl rfl hl.1 rfl (lv_room (Nat.le_of_ble_eq_true rfl)) d_PatternBook_Binary_readSpecial_52 ⟨(Nat.le_of_ble_eq_true rfl), (Nat.le_of_ble_eq_true rfl)⟩) hK hP hD hS hA [2] [0, 1] rfl rfl (by decide) (by decide) [] rfl (fun u8 H locs hu8 hP hD hK hS => ?_)
      have hP : va_P D classes [(f, .inr (2, [.int fb, .int fp, .int fl, .int fg, .int ft, .int ff, .long fu])), (d, .inr (1, [.int kd, .int (bI ng), .int ex, .ref b])), (b, .inr (0, [.long u8.1, .long u8.2]))] H := hP
      have hD : va_D A [(f, .inr (2, [.int fb, .int fp, .int fl, .int fg, .int ft, .int ff, .long fu])), (d, .inr (1, [.int kd, .int (bI ng), .int ex, .ref b])), (b, .inr (0, [.long u8.1, .long u8.2]))] := hD
      have hK : va_K D classes [] s := hK
      refine W.eq (g2 := F0 m 55 ls []) rfl ?_
      refine lv_aload_n hx hb d_PatternBook_Binary_readSpecial_55 rfl (lv_at hl 2 rfl) ?_
      refine lv_iload_n hx hb d_PatternBook_Binary_readSpecial_56 rfl (lv_at hl 0 rfl) ?_
      refine lv_if_eq (tgt := 64) hx hb d_PatternBook_Binary_readSpecial_57 (by decide) (fun c_9 => ?_) (fun c_9 => ?_)
      · exact absurd c_9 (by decide)
      · refine lv_iconst (v := 2) hx hb d_PatternBook_Binary_readSpecial_60 (by decide) ?_
        refine lv_goto (tgt := 65) hx hb d_PatternBook_Binary_readSpecial_61 (by decide) ?_
        refine lv_iconst (v := 0) hx hb d_PatternBook_Binary_readSpecial_65 (by decide) ?_
        refine uCall (WR := [(f, .inr (2, [.int fb, .int fp, .int fl, .int fg, .int ft, .int ff, .long fu]))]) (RT := []) (va_runV (As := [.int (2:Int32), .int (0:Int32)]) (rest := []) ⟨hx, hb, hml, hown, hts⟩ (c_D_become l D d b H.size (2:Int32) (0:Int32) kd ng ex u8.1 u8.2) ⟨uCB 2 hts k_65 k_66 k_67 (by decide +kernel) rfl rfl ⟨Nat.le_of_ble_eq_true rfl, Nat.le_of_ble_eq_true rfl⟩, hts _ k_68, hts _ k_69⟩ (uPreV (ci := 1) (q0 := 1) hK hP hD hN [1, 2] rfl (by decide) [] rfl rfl rfl) rfl rfl hl.1 rfl (lv_room (Nat.le_of_ble_eq_true rfl)) d_PatternBook_Binary_readSpecial_66 ⟨(Nat.le_of_ble_eq_true rfl), (Nat.le_of_ble_eq_true rfl)⟩) hK hP hD hS hA [1, 2] [0] rfl rfl (by decide) (by decide) [] rfl (fun u10 H locs hu10 hP hD hK hS => ?_)
        have hP : va_P D classes [(f, .inr (2, [.int fb, .int fp, .int fl, .int fg, .int ft, .int ff, .long fu])), (d, .inr (1, [.int u10.1, .int (bI ng), .int u10.2.1, .ref b])), (b, .inr (0, [.long u10.2.2.1, .long u10.2.2.2]))] H := hP
        have hD : va_D A [(f, .inr (2, [.int fb, .int fp, .int fl, .int fg, .int ft, .int ff, .long fu])), (d, .inr (1, [.int u10.1, .int (bI ng), .int u10.2.1, .ref b])), (b, .inr (0, [.long u10.2.2.1, .long u10.2.2.2]))] := hD
        have hK : va_K D classes [] s := hK
        refine W.eq (g2 := F0 m 69 ls []) rfl ?_
        refine W.vret hx hb hr ?_ hS.2.2 d_PatternBook_Binary_readSpecial_69
        exact uEnd (u10.1, u10.2.1, u10.2.2.1, u10.2.2.2) (hP.sub [0, 1, 2] rfl) (hK.sub [] rfl) (hD.sub [0, 1, 2] (by decide) rfl) hS (by have eu1 := hu1.symm; subst eu1; have eu3 := hu3.symm; subst eu3; have eu8 := hu8.symm; subst eu8; have eu10 := hu10.symm; subst eu10; exact ((if_pos c_2).trans ((if_pos c_4).trans (rfl))).symm) rfl
  · refine lv_aload_n hx hb d_PatternBook_Binary_readSpecial_10 rfl (lv_at hl 1 rfl) ?_
    refine lv_iconst (v := 1) hx hb d_PatternBook_Binary_readSpecial_11 (by decide) ?_
    refine lv_iconst (v := 0) hx hb d_PatternBook_Binary_readSpecial_12 (by decide) ?_
    refine uCall (WR := [(f, .inr (2, [.int fb, .int fp, .int fl, .int fg, .int ft, .int ff, .long fu]))]) (RT := []) (va_runV (As := [.int (1:Int32), .int (0:Int32)]) (rest := []) ⟨hx, hb, hml, hown, hts⟩ (c_D_become l D d b H.size (1:Int32) (0:Int32) kd ng ex bh bl) ⟨uCB 2 hts k_65 k_66 k_67 (by decide +kernel) rfl rfl ⟨Nat.le_of_ble_eq_true rfl, Nat.le_of_ble_eq_true rfl⟩, hts _ k_68, hts _ k_69⟩ (uPreV (ci := 1) (q0 := 1) hK hP hD hN [1, 2] rfl (by decide) [] rfl rfl rfl) rfl rfl hl.1 rfl (lv_room (Nat.le_of_ble_eq_true rfl)) d_PatternBook_Binary_readSpecial_13 ⟨(Nat.le_of_ble_eq_true rfl), (Nat.le_of_ble_eq_true rfl)⟩) hK hP hD hS hA [1, 2] [0] rfl rfl (by decide) (by decide) [] rfl (fun u11 H locs hu11 hP hD hK hS => ?_)
    have hP : va_P D classes [(f, .inr (2, [.int fb, .int fp, .int fl, .int fg, .int ft, .int ff, .long fu])), (d, .inr (1, [.int u11.1, .int (bI ng), .int u11.2.1, .ref b])), (b, .inr (0, [.long u11.2.2.1, .long u11.2.2.2]))] H := hP
    have hD : va_D A [(f, .inr (2, [.int fb, .int fp, .int fl, .int fg, .int ft, .int ff, .long fu])), (d, .inr (1, [.int u11.1, .int (bI ng), .int u11.2.1, .ref b])), (b, .inr (0, [.long u11.2.2.1, .long u11.2.2.2]))] := hD
    have hK : va_K D classes [] s := hK
    refine W.eq (g2 := F0 m 16 ls []) rfl ?_
    refine W.vret hx hb hr ?_ hS.2.2 d_PatternBook_Binary_readSpecial_16
    exact uEnd (u11.1, u11.2.1, u11.2.2.1, u11.2.2.2) (hP.sub [0, 1, 2] rfl) (hK.sub [] rfl) (hD.sub [0, 1, 2] (by decide) rfl) hS (by have eu1 := hu1.symm; subst eu1; have eu11 := hu11.symm; subst eu11; exact ((if_neg c_2).trans (rfl)).symm) rfl
set_option maxHeartbeats 4000000 in
set_option maxRecDepth 100000 in
/-- PatternBook$Binary.readUnsigned(LPatternBook$Wide;LPatternBook$Datum;)V -/
theorem c_B_readU (l : Launch) (D : va_G) (f : Nat) (w : Nat) (d : Nat) (b : Nat) (sz : Nat) (fb : Int32) (fp : Int32) (fl : Int32) (fg : Int32) (ft : Int32) (ff : Int32) (fu : Int64) (wh : Int64) (wl : Int64) (kd : Int32) (ng : Bool) (ex : Int32) (bh : Int64) (bl : Int64) : Met l y_PatternBook_Binary_readUnsigned (wsOf y_PatternBook_Binary_readUnsigned b_PatternBook_Binary_readUnsigned 5 none) ({ frames := 3, cells := 0, slots := 0, locals := 68 }) (uP D classes [(f, .inr (2, [.int fb, .int fp, .int fl, .int fg, .int ft, .int ff, .long fu])), (w, .inr (0, [.long wh, .long wl])), (d, .inr (1, [.int kd, .int (bI ng), .int ex, .ref b])), (b, .inr (0, [.long bh, .long bl]))] [] sz [.ref f, .ref w, .ref d]) (uQ D classes (fun _ : Int32 × Int32 × Int64 × Int64 => none) (fun u => u = (sl m_B_readU) fl ft ff fu wh wl) (va_A [(f, .inr (2, [.int fb, .int fp, .int fl, .int fg, .int ft, .int ff, .long fu])), (w, .inr (0, [.long wh, .long wl])), (d, .inr (1, [.int kd, .int (bI ng), .int ex, .ref b])), (b, .inr (0, [.long bh, .long bl]))] sz) (fun _ => []) (fun u => [(f, .inr (2, [.int fb, .int fp, .int fl, .int fg, .int ft, .int ff, .long fu])), (w, .inr (0, [.long wh, .long wl])), (d, .inr (1, [.int u.1, .int (bI ng), .int u.2.1, .ref b])), (b, .inr (0, [.long u.2.2.1, .long u.2.2.2]))])) 0 0 (va_A [(f, .inr (2, [.int fb, .int fp, .int fl, .int fg, .int ft, .int ff, .long fu])), (w, .inr (0, [.long wh, .long wl])), (d, .inr (1, [.int kd, .int (bI ng), .int ex, .ref b])), (b, .inr (0, [.long bh, .long bl]))] sz) := by
  rw [sl_eq m_B_readU]
  refine uBegin (by decide +kernel) (Nat.le_of_ble_eq_true rfl) ?_
  intro p e s m below meth c A ls H locs hx hb hr hts hown hlocks hml hin hA hP hK hD hN hS hl
  have hl : lv_has ls 5 [(0, .ref f), (1, .ref w), (2, .ref d)] := hl
  refine lv_aload_n hx hb d_PatternBook_Binary_readUnsigned_0 rfl (lv_at hl 1 rfl) ?_
  refine lv_aload_n hx hb d_PatternBook_Binary_readUnsigned_1 rfl (lv_at hl 0 rfl) ?_
  refine va_get (D := D) (ci := 2) (v := .int ft) (C := R_PatternBook_Binary) (T := F_PatternBook_Binary) (N := 7) hx hb hts i_PatternBook_Binary hown hK hP 0 rfl rfl 4 (by decide) (hts _ k_44) (fun _ h9 => h9) rfl d_PatternBook_Binary_readUnsigned_2 ?_
  refine lv_aload_n hx hb d_PatternBook_Binary_readUnsigned_5 rfl (lv_at hl 0 rfl) ?_
  refine va_get (D := D) (ci := 2) (v := .int ff) (C := R_PatternBook_Binary) (T := F_PatternBook_Binary) (N := 7) hx hb hts i_PatternBook_Binary hown hK hP 0 rfl rfl 5 (by decide) (hts _ k_70) (fun _ h9 => h9) rfl d_PatternBook_Binary_readUnsigned_6 ?_
  refine uCall (WR := [(f, .inr (2, [.int fb, .int fp, .int fl, .int fg, .int ft, .int ff, .long fu])), (d, .inr (1, [.int kd, .int (bI ng), .int ex, .ref b])), (b, .inr (0, [.long bh, .long bl]))]) (RT := []) (va_runV (As := [.int ft, .int ff]) (rest := []) ⟨hx, hb, hml, hown, hts⟩ (c_W_bitsAt l D w H.size ft ff wh wl) ⟨uCB 2 hts k_57 k_12 k_58 (by decide +kernel) rfl rfl ⟨Nat.le_of_ble_eq_true rfl, Nat.le_of_ble_eq_true rfl⟩, hts _ k_59, hts _ k_60⟩ (uPreV (ci := 0) (q0 := 1) hK hP hD hN [1] rfl (by decide) [] rfl rfl rfl) rfl rfl hl.1 rfl (lv_room (Nat.le_of_ble_eq_true rfl)) d_PatternBook_Binary_readUnsigned_9 ⟨(Nat.le_of_ble_eq_true rfl), (Nat.le_of_ble_eq_true rfl)⟩) hK hP hD hS hA [1] [0, 2, 3] rfl rfl (by decide) (by decide) [] rfl (fun u1 H locs hu1 hP hD hK hS => ?_)
  have hP : va_P D classes [(f, .inr (2, [.int fb, .int fp, .int fl, .int fg, .int ft, .int ff, .long fu])), (d, .inr (1, [.int kd, .int (bI ng), .int ex, .ref b])), (b, .inr (0, [.long bh, .long bl])), (w, .inr (0, [.long wh, .long wl]))] H := hP
  have hD : va_D A [(f, .inr (2, [.int fb, .int fp, .int fl, .int fg, .int ft, .int ff, .long fu])), (d, .inr (1, [.int kd, .int (bI ng), .int ex, .ref b])), (b, .inr (0, [.long bh, .long bl])), (w, .inr (0, [.long wh, .long wl]))] := hD
  have hK : va_K D classes [] s := hK
  refine W.eq (g2 := F0 m 12 ls [.long u1]) rfl ?_
  refine lv_lstore_n (lv' := [(3, .long u1), (0, .ref f), (1, .ref w), (2, .ref d)]) hx hb d_PatternBook_Binary_readUnsigned_12 rfl hl (by decide) rfl (fun ls hl => ?_)
  refine lv_aload_n hx hb d_PatternBook_Binary_readUnsigned_13 rfl (lv_at hl 3 rfl) ?_
  refine va_getN (D := D) (ci := 1) (v := .ref b) (C := R_PatternBook_Datum) (T := F_PatternBook_Datum) (N := 4) hx hb hts i_PatternBook_Datum hown hK hP 1 rfl rfl 3 (by decide) (va_Nw.use rfl (hN _ kn_2)) (fun _ h9 => h9) rfl d_PatternBook_Binary_readUnsigned_14 ?_
  refine lv_aload_n hx hb d_PatternBook_Binary_readUnsigned_17 rfl (lv_at hl 2 rfl) ?_
  refine uCall (WR := [(f, .inr (2, [.int fb, .int fp, .int fl, .int fg, .int ft, .int ff, .long fu])), (d, .inr (1, [.int kd, .int (bI ng), .int ex, .ref b]))]) (RT := []) (va_runV (As := [.ref w]) (rest := []) ⟨hx, hb, hml, hown, hts⟩ (c_W_copy l D b w H.size bh bl wh wl) ⟨uCB 1 hts k_71 k_12 k_72 (by decide +kernel) rfl rfl ⟨Nat.le_of_ble_eq_true rfl, Nat.le_of_ble_eq_true rfl⟩, hts _ k_73, hts _ k_74⟩ (uPreV (ci := 0) (q0 := 2) hK hP hD hN [2, 3] rfl (by decide) [] rfl rfl rfl) rfl rfl hl.1 rfl (lv_room (Nat.le_of_ble_eq_true rfl)) d_PatternBook_Binary_readUnsigned_18 ⟨(Nat.le_of_ble_eq_true rfl), (Nat.le_of_ble_eq_true rfl)⟩) hK hP hD hS hA [2, 3] [0, 1] rfl rfl (by decide) (by decide) [] rfl (fun u2 H locs hu2 hP hD hK hS => ?_)
  have hP : va_P D classes [(f, .inr (2, [.int fb, .int fp, .int fl, .int fg, .int ft, .int ff, .long fu])), (d, .inr (1, [.int kd, .int (bI ng), .int ex, .ref b])), (b, .inr (0, [.long u2.1, .long u2.2])), (w, .inr (0, [.long wh, .long wl]))] H := hP
  have hD : va_D A [(f, .inr (2, [.int fb, .int fp, .int fl, .int fg, .int ft, .int ff, .long fu])), (d, .inr (1, [.int kd, .int (bI ng), .int ex, .ref b])), (b, .inr (0, [.long u2.1, .long u2.2])), (w, .inr (0, [.long wh, .long wl]))] := hD
  have hK : va_K D classes [] s := hK
  refine W.eq (g2 := F0 m 21 ls []) rfl ?_
  refine lv_aload_n hx hb d_PatternBook_Binary_readUnsigned_21 rfl (lv_at hl 3 rfl) ?_
  refine va_getN (D := D) (ci := 1) (v := .ref b) (C := R_PatternBook_Datum) (T := F_PatternBook_Datum) (N := 4) hx hb hts i_PatternBook_Datum hown hK hP 1 rfl rfl 3 (by decide) (va_Nw.use rfl (hN _ kn_2)) (fun _ h9 => h9) rfl d_PatternBook_Binary_readUnsigned_22 ?_
  refine lv_aload_n hx hb d_PatternBook_Binary_readUnsigned_25 rfl (lv_at hl 1 rfl) ?_
  refine va_get (D := D) (ci := 2) (v := .int ft) (C := R_PatternBook_Binary) (T := F_PatternBook_Binary) (N := 7) hx hb hts i_PatternBook_Binary hown hK hP 0 rfl rfl 4 (by decide) (hts _ k_44) (fun _ h9 => h9) rfl d_PatternBook_Binary_readUnsigned_26 ?_
  refine uCall (WR := [(f, .inr (2, [.int fb, .int fp, .int fl, .int fg, .int ft, .int ff, .long fu])), (d, .inr (1, [.int kd, .int (bI ng), .int ex, .ref b])), (w, .inr (0, [.long wh, .long wl]))]) (RT := []) (va_runV (As := [.int ft]) (rest := []) ⟨hx, hb, hml, hown, hts⟩ (c_W_keep l D b H.size ft u2.1 u2.2) ⟨uCB 1 hts k_61 k_12 k_62 (by decide +kernel) rfl rfl ⟨Nat.le_of_ble_eq_true rfl, Nat.le_of_ble_eq_true rfl⟩, hts _ k_63, hts _ k_64⟩ (uPreV (ci := 0) (q0 := 2) hK hP hD hN [2] rfl (by decide) [] rfl rfl rfl) rfl rfl hl.1 rfl (lv_room (Nat.le_of_ble_eq_true rfl)) d_PatternBook_Binary_readUnsigned_29 ⟨(Nat.le_of_ble_eq_true rfl), (Nat.le_of_ble_eq_true rfl)⟩) hK hP hD hS hA [2] [0, 1, 3] rfl rfl (by decide) (by decide) [] rfl (fun u3 H locs hu3 hP hD hK hS => ?_)
  have hP : va_P D classes [(f, .inr (2, [.int fb, .int fp, .int fl, .int fg, .int ft, .int ff, .long fu])), (d, .inr (1, [.int kd, .int (bI ng), .int ex, .ref b])), (w, .inr (0, [.long wh, .long wl])), (b, .inr (0, [.long u3.1, .long u3.2]))] H := hP
  have hD : va_D A [(f, .inr (2, [.int fb, .int fp, .int fl, .int fg, .int ft, .int ff, .long fu])), (d, .inr (1, [.int kd, .int (bI ng), .int ex, .ref b])), (w, .inr (0, [.long wh, .long wl])), (b, .inr (0, [.long u3.1, .long u3.2]))] := hD
  have hK : va_K D classes [] s := hK
  refine W.eq (g2 := F0 m 32 ls []) rfl ?_
  refine lv_lload_n hx hb d_PatternBook_Binary_readUnsigned_32 rfl (lv_at hl 0 rfl) ?_
  refine lv_aload_n hx hb d_PatternBook_Binary_readUnsigned_33 rfl (lv_at hl 1 rfl) ?_
  refine va_get (D := D) (ci := 2) (v := .long fu) (C := R_PatternBook_Binary) (T := F_PatternBook_Binary) (N := 7) hx hb hts i_PatternBook_Binary hown hK hP 0 rfl rfl 6 (by decide) (hts _ k_75) (fun _ h9 => h9) rfl d_PatternBook_Binary_readUnsigned_34 ?_
  refine W.lcmp hx hb d_PatternBook_Binary_readUnsigned_37 ?_
  refine lv_if_ne (tgt := 49) hx hb d_PatternBook_Binary_readUnsigned_38 (by decide) (fun c_4 => ?_) (fun c_4 => ?_)
  · refine lv_lload_n hx hb d_PatternBook_Binary_readUnsigned_49 rfl (lv_at hl 0 rfl) ?_
    refine lv_lconst (v := 0) hx hb d_PatternBook_Binary_readUnsigned_50 (by decide) ?_
    refine W.lcmp hx hb d_PatternBook_Binary_readUnsigned_51 ?_
    refine lv_if_ne (tgt := 67) hx hb d_PatternBook_Binary_readUnsigned_52 (by decide) (fun c_5 => ?_) (fun c_5 => ?_)
    · refine lv_aload_n hx hb d_PatternBook_Binary_readUnsigned_67 rfl (lv_at hl 3 rfl) ?_
      refine va_getN (D := D) (ci := 1) (v := .ref b) (C := R_PatternBook_Datum) (T := F_PatternBook_Datum) (N := 4) hx hb hts i_PatternBook_Datum hown hK hP 1 rfl rfl 3 (by decide) (va_Nw.use rfl (hN _ kn_2)) (fun _ h9 => h9) rfl d_PatternBook_Binary_readUnsigned_68 ?_
      refine lv_aload_n hx hb d_PatternBook_Binary_readUnsigned_71 rfl (lv_at hl 1 rfl) ?_
      refine va_get (D := D) (ci := 2) (v := .int ft) (C := R_PatternBook_Binary) (T := F_PatternBook_Binary) (N := 7) hx hb hts i_PatternBook_Binary hown hK hP 0 rfl rfl 4 (by decide) (hts _ k_44) (fun _ h9 => h9) rfl d_PatternBook_Binary_readUnsigned_72 ?_
      refine lv_lconst (v := 1) hx hb d_PatternBook_Binary_readUnsigned_75 (by decide) ?_
      refine uCall (WR := [(f, .inr (2, [.int fb, .int fp, .int fl, .int fg, .int ft, .int ff, .long fu])), (d, .inr (1, [.int kd, .int (bI ng), .int ex, .ref b])), (w, .inr (0, [.long wh, .long wl]))]) (RT := []) (va_runV (As := [.int ft, .long (1:Int64)]) (rest := []) ⟨hx, hb, hml, hown, hts⟩ (c_W_addBits l D b H.size ft (1:Int64) u3.1 u3.2) ⟨uCB 2 hts k_76 k_12 k_77 (by decide +kernel) rfl rfl ⟨Nat.le_of_ble_eq_true rfl, Nat.le_of_ble_eq_true rfl⟩, hts _ k_78, hts _ k_79⟩ (uPreV (ci := 0) (q0 := 3) hK hP hD hN [3] rfl (by decide) [] rfl rfl rfl) rfl rfl hl.1 rfl (lv_room (Nat.le_of_ble_eq_true rfl)) d_PatternBook_Binary_readUnsigned_76 ⟨(Nat.le_of_ble_eq_true rfl), (Nat.le_of_ble_eq_true rfl)⟩) hK hP hD hS hA [3] [0, 1, 2] rfl rfl (by decide) (by decide) [] rfl (fun u6 H locs hu6 hP hD hK hS => ?_)
      have hP : va_P D classes [(f, .inr (2, [.int fb, .int fp, .int fl, .int fg, .int ft, .int ff, .long fu])), (d, .inr (1, [.int kd, .int (bI ng), .int ex, .ref b])), (w, .inr (0, [.long wh, .long wl])), (b, .inr (0, [.long u6.1, .long u6.2]))] H := hP
      have hD : va_D A [(f, .inr (2, [.int fb, .int fp, .int fl, .int fg, .int ft, .int ff, .long fu])), (d, .inr (1, [.int kd, .int (bI ng), .int ex, .ref b])), (w, .inr (0, [.long wh, .long wl])), (b, .inr (0, [.long u6.1, .long u6.2]))] := hD
      have hK : va_K D classes [] s := hK
      refine W.eq (g2 := F0 m 79 ls []) rfl ?_
      refine lv_aload_n hx hb d_PatternBook_Binary_readUnsigned_79 rfl (lv_at hl 3 rfl) ?_
      refine lv_iconst (v := 0) hx hb d_PatternBook_Binary_readUnsigned_80 (by decide) ?_
      refine lv_lload_n hx hb d_PatternBook_Binary_readUnsigned_81 rfl (lv_at hl 0 rfl) ?_
      refine lv_l2i hx hb d_PatternBook_Binary_readUnsigned_82 rfl ?_
      refine lv_iconst (v := 1) hx hb d_PatternBook_Binary_readUnsigned_83 (by decide) ?_
      refine lv_isub hx hb d_PatternBook_Binary_readUnsigned_84 ?_
      refine lv_aload_n hx hb d_PatternBook_Binary_readUnsigned_85 rfl (lv_at hl 1 rfl) ?_
      refine va_get (D := D) (ci := 2) (v := .int fl) (C := R_PatternBook_Binary) (T := F_PatternBook_Binary) (N := 7) hx hb hts i_PatternBook_Binary hown hK hP 0 rfl rfl 2 (by decide) (hts _ k_52) (fun x9 h9 => u_same (hts _ k_51) x9 h9) rfl d_PatternBook_Binary_readUnsigned_86 ?_
      refine lv_iadd hx hb d_PatternBook_Binary_readUnsigned_89 ?_
      refine uCall (WR := [(f, .inr (2, [.int fb, .int fp, .int fl, .int fg, .int ft, .int ff, .long fu])), (w, .inr (0, [.long wh, .long wl]))]) (RT := []) (va_runV (As := [.int (0:Int32), .int (((Int64.toInt32 u1) - (1:Int32)) + fl)]) (rest := []) ⟨hx, hb, hml, hown, hts⟩ (c_D_become l D d b H.size (0:Int32) (((Int64.toInt32 u1) - (1:Int32)) + fl) kd ng ex u6.1 u6.2) ⟨uCB 2 hts k_65 k_66 k_67 (by decide +kernel) rfl rfl ⟨Nat.le_of_ble_eq_true rfl, Nat.le_of_ble_eq_true rfl⟩, hts _ k_68, hts _ k_69⟩ (uPreV (ci := 1) (q0 := 1) hK hP hD hN [1, 3] rfl (by decide) [] rfl rfl rfl) rfl rfl hl.1 rfl (lv_room (Nat.le_of_ble_eq_true rfl)) d_PatternBook_Binary_readUnsigned_90 ⟨(Nat.le_of_ble_eq_true rfl), (Nat.le_of_ble_eq_true rfl)⟩) hK hP hD hS hA [1, 3] [0, 2] rfl rfl (by decide) (by decide) [] rfl (fun u7 H locs hu7 hP hD hK hS => ?_)
      have hP : va_P D classes [(f, .inr (2, [.int fb, .int fp, .int fl, .int fg, .int ft, .int ff, .long fu])), (w, .inr (0, [.long wh, .long wl])), (d, .inr (1, [.int u7.1, .int (bI ng), .int u7.2.1, .ref b])), (b, .inr (0, [.long u7.2.2.1, .long u7.2.2.2]))] H := hP
      have hD : va_D A [(f, .inr (2, [.int fb, .int fp, .int fl, .int fg, .int ft, .int ff, .long fu])), (w, .inr (0, [.long wh, .long wl])), (d, .inr (1, [.int u7.1, .int (bI ng), .int u7.2.1, .ref b])), (b, .inr (0, [.long u7.2.2.1, .long u7.2.2.2]))] := hD
      have hK : va_K D classes [] s := hK
      refine W.eq (g2 := F0 m 93 ls []) rfl ?_
      refine W.vret hx hb hr ?_ hS.2.2 d_PatternBook_Binary_readUnsigned_93
      exact uEnd (u7.1, u7.2.1, u7.2.2.1, u7.2.2.2) (hP.sub [0, 1, 2, 3] rfl) (hK.sub [] rfl) (hD.sub [0, 1, 2, 3] (by decide) rfl) hS (by have eu1 := hu1.symm; subst eu1; have eu2 := hu2.symm; subst eu2; have eu3 := hu3.symm; subst eu3; have eu6 := hu6.symm; subst eu6; have eu7 := hu7.symm; subst eu7; exact ((if_neg c_4).trans ((if_neg c_5).trans (rfl))).symm) rfl
    · refine lv_aload_n hx hb d_PatternBook_Binary_readUnsigned_55 rfl (lv_at hl 3 rfl) ?_
      refine lv_iconst (v := 0) hx hb d_PatternBook_Binary_readUnsigned_56 (by decide) ?_
      refine lv_aload_n hx hb d_PatternBook_Binary_readUnsigned_57 rfl (lv_at hl 1 rfl) ?_
      refine va_get (D := D) (ci := 2) (v := .int fl) (C := R_PatternBook_Binary) (T := F_PatternBook_Binary) (N := 7) hx hb hts i_PatternBook_Binary hown hK hP 0 rfl rfl 2 (by decide) (hts _ k_52) (fun x9 h9 => u_same (hts _ k_51) x9 h9) rfl d_PatternBook_Binary_readUnsigned_58 ?_
      refine uCall (WR := [(f, .inr (2, [.int fb, .int fp, .int fl, .int fg, .int ft, .int ff, .long fu])), (w, .inr (0, [.long wh, .long wl]))]) (RT := []) (va_runV (As := [.int (0:Int32), .int fl]) (rest := []) ⟨hx, hb, hml, hown, hts⟩ (c_D_become l D d b H.size (0:Int32) fl kd ng ex u3.1 u3.2) ⟨uCB 2 hts k_65 k_66 k_67 (by decide +kernel) rfl rfl ⟨Nat.le_of_ble_eq_true rfl, Nat.le_of_ble_eq_true rfl⟩, hts _ k_68, hts _ k_69⟩ (uPreV (ci := 1) (q0 := 1) hK hP hD hN [1, 3] rfl (by decide) [] rfl rfl rfl) rfl rfl hl.1 rfl (lv_room (Nat.le_of_ble_eq_true rfl)) d_PatternBook_Binary_readUnsigned_61 ⟨(Nat.le_of_ble_eq_true rfl), (Nat.le_of_ble_eq_true rfl)⟩) hK hP hD hS hA [1, 3] [0, 2] rfl rfl (by decide) (by decide) [] rfl (fun u8 H locs hu8 hP hD hK hS => ?_)
      have hP : va_P D classes [(f, .inr (2, [.int fb, .int fp, .int fl, .int fg, .int ft, .int ff, .long fu])), (w, .inr (0, [.long wh, .long wl])), (d, .inr (1, [.int u8.1, .int (bI ng), .int u8.2.1, .ref b])), (b, .inr (0, [.long u8.2.2.1, .long u8.2.2.2]))] H := hP
      have hD : va_D A [(f, .inr (2, [.int fb, .int fp, .int fl, .int fg, .int ft, .int ff, .long fu])), (w, .inr (0, [.long wh, .long wl])), (d, .inr (1, [.int u8.1, .int (bI ng), .int u8.2.1, .ref b])), (b, .inr (0, [.long u8.2.2.1, .long u8.2.2.2]))] := hD
      have hK : va_K D classes [] s := hK
      refine W.eq (g2 := F0 m 64 ls []) rfl ?_
      refine lv_goto (tgt := 93) hx hb d_PatternBook_Binary_readUnsigned_64 (by decide) ?_
      refine W.vret hx hb hr ?_ hS.2.2 d_PatternBook_Binary_readUnsigned_93
      exact uEnd (u8.1, u8.2.1, u8.2.2.1, u8.2.2.2) (hP.sub [0, 1, 2, 3] rfl) (hK.sub [] rfl) (hD.sub [0, 1, 2, 3] (by decide) rfl) hS (by have eu1 := hu1.symm; subst eu1; have eu2 := hu2.symm; subst eu2; have eu3 := hu3.symm; subst eu3; have eu8 := hu8.symm; subst eu8; exact ((if_neg c_4).trans ((if_pos c_5).trans (rfl))).symm) rfl
  · refine lv_aload_n hx hb d_PatternBook_Binary_readUnsigned_41 rfl (lv_at hl 1 rfl) ?_
    refine lv_aload_n hx hb d_PatternBook_Binary_readUnsigned_42 rfl (lv_at hl 3 rfl) ?_
    refine uCall (WR := [(w, .inr (0, [.long wh, .long wl]))]) (RT := []) (va_runV (As := [.ref d]) (rest := []) ⟨hx, hb, hml, hown, hts⟩ (c_B_special l D f d b H.size fb fp fl fg ft ff fu kd ng ex u3.1 u3.2) ⟨uCB 1 hts k_80 k_81 k_82 (by decide +kernel) rfl rfl ⟨Nat.le_of_ble_eq_true rfl, Nat.le_of_ble_eq_true rfl⟩, hts _ k_83, hts _ k_84⟩ (uPreV (ci := 2) (q0 := 0) hK hP hD hN [0, 1, 3] rfl (by decide) [] rfl rfl rfl) rfl rfl hl.1 rfl (lv_room (Nat.le_of_ble_eq_true rfl)) d_PatternBook_Binary_readUnsigned_43 ⟨(Nat.le_of_ble_eq_true rfl), (Nat.le_of_ble_eq_true rfl)⟩) hK hP hD hS hA [0, 1, 3] [2] rfl rfl (by decide) (by decide) [] rfl (fun u9 H locs hu9 hP hD hK hS => ?_)
    have hP : va_P D classes [(w, .inr (0, [.long wh, .long wl])), (f, .inr (2, [.int fb, .int fp, .int fl, .int fg, .int ft, .int ff, .long fu])), (d, .inr (1, [.int u9.1, .int (bI ng), .int u9.2.1, .ref b])), (b, .inr (0, [.long u9.2.2.1, .long u9.2.2.2]))] H := hP
    have hD : va_D A [(w, .inr (0, [.long wh, .long wl])), (f, .inr (2, [.int fb, .int fp, .int fl, .int fg, .int ft, .int ff, .long fu])), (d, .inr (1, [.int u9.1, .int (bI ng), .int u9.2.1, .ref b])), (b, .inr (0, [.long u9.2.2.1, .long u9.2.2.2]))] := hD
    have hK : va_K D classes [] s := hK
    refine W.eq (g2 := F0 m 46 ls []) rfl ?_
    refine lv_goto (tgt := 93) hx hb d_PatternBook_Binary_readUnsigned_46 (by decide) ?_
    refine W.vret hx hb hr ?_ hS.2.2 d_PatternBook_Binary_readUnsigned_93
    exact uEnd (u9.1, u9.2.1, u9.2.2.1, u9.2.2.2) (hP.sub [1, 0, 2, 3] rfl) (hK.sub [] rfl) (hD.sub [1, 0, 2, 3] (by decide) rfl) hS (by have eu1 := hu1.symm; subst eu1; have eu2 := hu2.symm; subst eu2; have eu3 := hu3.symm; subst eu3; have eu9 := hu9.symm; subst eu9; exact ((if_pos c_4).trans (rfl)).symm) rfl
set_option maxHeartbeats 4000000 in
set_option maxRecDepth 100000 in
/-- PatternBook$Binary.fieldOf(LPatternBook$Datum;)J -/
theorem c_B_fieldOf (l : Launch) (D : va_G) (f : Nat) (d : Nat) (b : Nat) (sz : Nat) (fb : Int32) (fp : Int32) (fl : Int32) (fg : Int32) (ft : Int32) (ff : Int32) (fu : Int64) (kd : Int32) (ng : Bool) (ex : Int32) (bh : Int64) (bl : Int64) : Met l y_PatternBook_Binary_fieldOf (wsOf y_PatternBook_Binary_fieldOf b_PatternBook_Binary_fieldOf 2 (some .long)) ({ frames := 1, cells := 0, slots := 0, locals := 21 }) (uP D classes [(f, .inr (2, [.int fb, .int fp, .int fl, .int fg, .int ft, .int ff, .long fu])), (d, .inr (1, [.int kd, .int (bI ng), .int ex, .ref b])), (b, .inr (0, [.long bh, .long bl]))] [] sz [.ref f, .ref d]) (uQ D classes (fun u : Int64 => some (.long u)) (fun u => u = (sl m_B_fieldOf) fl ft fu kd ex bh bl) (va_A [(f, .inr (2, [.int fb, .int fp, .int fl, .int fg, .int ft, .int ff, .long fu])), (d, .inr (1, [.int kd, .int (bI ng), .int ex, .ref b])), (b, .inr (0, [.long bh, .long bl]))] sz) (fun _ => []) (fun u => [(f, .inr (2, [.int fb, .int fp, .int fl, .int fg, .int ft, .int ff, .long fu])), (d, .inr (1, [.int kd, .int (bI ng), .int ex, .ref b])), (b, .inr (0, [.long bh, .long bl]))])) 0 0 (va_A [(f, .inr (2, [.int fb, .int fp, .int fl, .int fg, .int ft, .int ff, .long fu])), (d, .inr (1, [.int kd, .int (bI ng), .int ex, .ref b])), (b, .inr (0, [.long bh, .long bl]))] sz) := by
  rw [sl_eq m_B_fieldOf]
  refine uBegin (by decide +kernel) (Nat.le_of_ble_eq_true rfl) ?_
  intro p e s m below meth c A ls H locs hx hb hr hts hown hlocks hml hin hA hP hK hD hN hS hl
  have hl : lv_has ls 2 [(0, .ref f), (1, .ref d)] := hl
  refine lv_aload_n hx hb d_PatternBook_Binary_fieldOf_0 rfl (lv_at hl 1 rfl) ?_
  refine va_getN (D := D) (ci := 1) (v := .int kd) (C := R_PatternBook_Datum) (T := F_PatternBook_Datum) (N := 4) hx hb hts i_PatternBook_Datum hown hK hP 1 rfl rfl 0 (by decide) (va_Nw.use rfl (hN _ kn_4)) (fun _ h9 => h9) rfl d_PatternBook_Binary_fieldOf_1 ?_
  refine lv_if_eq (tgt := 12) hx hb d_PatternBook_Binary_fieldOf_4 (by decide) (fun c_1 => ?_) (fun c_1 => ?_)
  · refine lv_aload_n hx hb d_PatternBook_Binary_fieldOf_12 rfl (lv_at hl 1 rfl) ?_
    refine va_getN (D := D) (ci := 1) (v := .ref b) (C := R_PatternBook_Datum) (T := F_PatternBook_Datum) (N := 4) hx hb hts i_PatternBook_Datum hown hK hP 1 rfl rfl 3 (by decide) (va_Nw.use rfl (hN _ kn_2)) (fun _ h9 => h9) rfl d_PatternBook_Binary_fieldOf_13 ?_
    refine lv_aload_n hx hb d_PatternBook_Binary_fieldOf_16 rfl (lv_at hl 0 rfl) ?_
    refine va_get (D := D) (ci := 2) (v := .int ft) (C := R_PatternBook_Binary) (T := F_PatternBook_Binary) (N := 7) hx hb hts i_PatternBook_Binary hown hK hP 0 rfl rfl 4 (by decide) (hts _ k_44) (fun _ h9 => h9) rfl d_PatternBook_Binary_fieldOf_17 ?_
    refine uCall (WR := [(f, .inr (2, [.int fb, .int fp, .int fl, .int fg, .int ft, .int ff, .long fu])), (d, .inr (1, [.int kd, .int (bI ng), .int ex, .ref b]))]) (RT := []) (va_runV (As := [.int ft]) (rest := []) ⟨hx, hb, hml, hown, hts⟩ (c_W_fits l D b H.size ft bh bl) ⟨uCB 1 hts k_45 k_12 k_46 (by decide +kernel) rfl rfl ⟨Nat.le_of_ble_eq_true rfl, Nat.le_of_ble_eq_true rfl⟩, hts _ k_47, hts _ k_48⟩ (uPreV (ci := 0) (q0 := 2) hK hP hD hN [2] rfl (by decide) [] rfl rfl rfl) rfl rfl hl.1 rfl (lv_room (Nat.le_of_ble_eq_true rfl)) d_PatternBook_Binary_fieldOf_20 ⟨(Nat.le_of_ble_eq_true rfl), (Nat.le_of_ble_eq_true rfl)⟩) hK hP hD hS hA [2] [0, 1] rfl rfl (by decide) (by decide) [] rfl (fun u2 H locs hu2 hP hD hK hS => ?_)
    have hP : va_P D classes [(f, .inr (2, [.int fb, .int fp, .int fl, .int fg, .int ft, .int ff, .long fu])), (d, .inr (1, [.int kd, .int (bI ng), .int ex, .ref b])), (b, .inr (0, [.long bh, .long bl]))] H := hP
    have hD : va_D A [(f, .inr (2, [.int fb, .int fp, .int fl, .int fg, .int ft, .int ff, .long fu])), (d, .inr (1, [.int kd, .int (bI ng), .int ex, .ref b])), (b, .inr (0, [.long bh, .long bl]))] := hD
    have hK : va_K D classes [] s := hK
    refine W.eq (g2 := F0 m 23 ls [.int (bI u2)]) rfl ?_
    refine lv_if_eq (tgt := 28) hx hb d_PatternBook_Binary_fieldOf_23 (by decide) (fun c_3 => ?_) (fun c_3 => ?_)
    · refine lv_aload_n hx hb d_PatternBook_Binary_fieldOf_28 rfl (lv_at hl 1 rfl) ?_
      refine va_getN (D := D) (ci := 1) (v := .int ex) (C := R_PatternBook_Datum) (T := F_PatternBook_Datum) (N := 4) hx hb hts i_PatternBook_Datum hown hK hP 1 rfl rfl 2 (by decide) (va_Nw.use rfl (hN _ kn_3)) (fun _ h9 => h9) rfl d_PatternBook_Binary_fieldOf_29 ?_
      refine lv_aload_n hx hb d_PatternBook_Binary_fieldOf_32 rfl (lv_at hl 0 rfl) ?_
      refine va_get (D := D) (ci := 2) (v := .int fl) (C := R_PatternBook_Binary) (T := F_PatternBook_Binary) (N := 7) hx hb hts i_PatternBook_Binary hown hK hP 0 rfl rfl 2 (by decide) (hts _ k_52) (fun x9 h9 => u_same (hts _ k_51) x9 h9) rfl d_PatternBook_Binary_fieldOf_33 ?_
      refine lv_isub hx hb d_PatternBook_Binary_fieldOf_36 ?_
      refine lv_iconst (v := 1) hx hb d_PatternBook_Binary_fieldOf_37 (by decide) ?_
      refine lv_iadd hx hb d_PatternBook_Binary_fieldOf_38 ?_
      refine lv_i2l hx hb d_PatternBook_Binary_fieldOf_39 rfl ?_
      refine W.lret hx hb hr ?_ hS.2.2 d_PatternBook_Binary_fieldOf_40
      exact uEnd (Int32.toInt64 ((ex - fl) + (1:Int32))) (hP.sub [0, 1, 2] rfl) (hK.sub [] rfl) (hD.sub [0, 1, 2] (by decide) rfl) hS (by have eu2 := hu2.symm; subst eu2; exact ((if_pos c_1).trans ((if_pos c_3).trans (rfl))).symm) rfl
    · refine lv_lconst (v := 0) hx hb d_PatternBook_Binary_fieldOf_26 (by decide) ?_
      refine W.lret hx hb hr ?_ hS.2.2 d_PatternBook_Binary_fieldOf_27
      exact uEnd (0:Int64) (hP.sub [0, 1, 2] rfl) (hK.sub [] rfl) (hD.sub [0, 1, 2] (by decide) rfl) hS (by have eu2 := hu2.symm; subst eu2; exact ((if_pos c_1).trans ((if_neg c_3).trans (rfl))).symm) rfl
  · refine lv_aload_n hx hb d_PatternBook_Binary_fieldOf_7 rfl (lv_at hl 0 rfl) ?_
    refine va_get (D := D) (ci := 2) (v := .long fu) (C := R_PatternBook_Binary) (T := F_PatternBook_Binary) (N := 7) hx hb hts i_PatternBook_Binary hown hK hP 0 rfl rfl 6 (by decide) (hts _ k_75) (fun _ h9 => h9) rfl d_PatternBook_Binary_fieldOf_8 ?_
    refine W.lret hx hb hr ?_ hS.2.2 d_PatternBook_Binary_fieldOf_11
    exact uEnd fu (hP.sub [0, 1, 2] rfl) (hK.sub [] rfl) (hD.sub [0, 1, 2] (by decide) rfl) hS (by  exact ((if_neg c_1).trans (rfl)).symm) rfl
set_option maxHeartbeats 4000000 in
set_option maxRecDepth 100000 in
/-- PatternBook$Binary.writeUnsigned(LPatternBook$Datum;LPatternBook$Wide;)V -/
theorem c_B_writeU (l : Launch) (D : va_G) (f : Nat) (d : Nat) (w : Nat) (b : Nat) (sz : Nat) (fb : Int32) (fp : Int32) (fl : Int32) (fg : Int32) (ft : Int32) (ff : Int32) (fu : Int64) (kd : Int32) (ng : Bool) (ex : Int32) (bh : Int64) (bl : Int64) (wh : Int64) (wl : Int64) : Met l y_PatternBook_Binary_writeUnsigned (wsOf y_PatternBook_Binary_writeUnsigned b_PatternBook_Binary_writeUnsigned 3 none) ({ frames := 2, cells := 0, slots := 0, locals := 45 }) (uP D classes [(f, .inr (2, [.int fb, .int fp, .int fl, .int fg, .int ft, .int ff, .long fu])), (d, .inr (1, [.int kd, .int (bI ng), .int ex, .ref b])), (b, .inr (0, [.long bh, .long bl])), (w, .inr (0, [.long wh, .long wl]))] [] sz [.ref f, .ref d, .ref w]) (uQ D classes (fun _ : Int64 × Int64 => none) (fun u => u = (sl m_B_writeU) fl ft fu kd ex bh bl) (va_A [(f, .inr (2, [.int fb, .int fp, .int fl, .int fg, .int ft, .int ff, .long fu])), (d, .inr (1, [.int kd, .int (bI ng), .int ex, .ref b])), (b, .inr (0, [.long bh, .long bl])), (w, .inr (0, [.long wh, .long wl]))] sz) (fun _ => []) (fun u => [(f, .inr (2, [.int fb, .int fp, .int fl, .int fg, .int ft, .int ff, .long fu])), (d, .inr (1, [.int kd, .int (bI ng), .int ex, .ref b])), (b, .inr (0, [.long bh, .long bl])), (w, .inr (0, [.long u.1, .long u.2]))])) 0 0 (va_A [(f, .inr (2, [.int fb, .int fp, .int fl, .int fg, .int ft, .int ff, .long fu])), (d, .inr (1, [.int kd, .int (bI ng), .int ex, .ref b])), (b, .inr (0, [.long bh, .long bl])), (w, .inr (0, [.long wh, .long wl]))] sz) := by
  rw [sl_eq m_B_writeU]
  refine uBegin (by decide +kernel) (Nat.le_of_ble_eq_true rfl) ?_
  intro p e s m below meth c A ls H locs hx hb hr hts hown hlocks hml hin hA hP hK hD hN hS hl
  have hl : lv_has ls 3 [(0, .ref f), (1, .ref d), (2, .ref w)] := hl
  refine lv_aload_n hx hb d_PatternBook_Binary_writeUnsigned_0 rfl (lv_at hl 2 rfl) ?_
  refine lv_aload_n hx hb d_PatternBook_Binary_writeUnsigned_1 rfl (lv_at hl 1 rfl) ?_
  refine va_getN (D := D) (ci := 1) (v := .ref b) (C := R_PatternBook_Datum) (T := F_PatternBook_Datum) (N := 4) hx hb hts i_PatternBook_Datum hown hK hP 1 rfl rfl 3 (by decide) (va_Nw.use rfl (hN _ kn_2)) (fun _ h9 => h9) rfl d_PatternBook_Binary_writeUnsigned_2 ?_
  refine uCall (WR := [(f, .inr (2, [.int fb, .int fp, .int fl, .int fg, .int ft, .int ff, .long fu])), (d, .inr (1, [.int kd, .int (bI ng), .int ex, .ref b]))]) (RT := []) (va_runV (As := [.ref b]) (rest := []) ⟨hx, hb, hml, hown, hts⟩ (c_W_copy l D w b H.size wh wl bh bl) ⟨uCB 1 hts k_71 k_12 k_72 (by decide +kernel) rfl rfl ⟨Nat.le_of_ble_eq_true rfl, Nat.le_of_ble_eq_true rfl⟩, hts _ k_73, hts _ k_74⟩ (uPreV (ci := 0) (q0 := 3) hK hP hD hN [3, 2] rfl (by decide) [] rfl rfl rfl) rfl rfl hl.1 rfl (lv_room (Nat.le_of_ble_eq_true rfl)) d_PatternBook_Binary_writeUnsigned_5 ⟨(Nat.le_of_ble_eq_true rfl), (Nat.le_of_ble_eq_true rfl)⟩) hK hP hD hS hA [3, 2] [0, 1] rfl rfl (by decide) (by decide) [] rfl (fun u1 H locs hu1 hP hD hK hS => ?_)
  have hP : va_P D classes [(f, .inr (2, [.int fb, .int fp, .int fl, .int fg, .int ft, .int ff, .long fu])), (d, .inr (1, [.int kd, .int (bI ng), .int ex, .ref b])), (w, .inr (0, [.long u1.1, .long u1.2])), (b, .inr (0, [.long bh, .long bl]))] H := hP
  have hD : va_D A [(f, .inr (2, [.int fb, .int fp, .int fl, .int fg, .int ft, .int ff, .long fu])), (d, .inr (1, [.int kd, .int (bI ng), .int ex, .ref b])), (w, .inr (0, [.long u1.1, .long u1.2])), (b, .inr (0, [.long bh, .long bl]))] := hD
  have hK : va_K D classes [] s := hK
  refine W.eq (g2 := F0 m 8 ls []) rfl ?_
  refine lv_aload_n hx hb d_PatternBook_Binary_writeUnsigned_8 rfl (lv_at hl 2 rfl) ?_
  refine lv_aload_n hx hb d_PatternBook_Binary_writeUnsigned_9 rfl (lv_at hl 0 rfl) ?_
  refine va_get (D := D) (ci := 2) (v := .int ft) (C := R_PatternBook_Binary) (T := F_PatternBook_Binary) (N := 7) hx hb hts i_PatternBook_Binary hown hK hP 0 rfl rfl 4 (by decide) (hts _ k_44) (fun _ h9 => h9) rfl d_PatternBook_Binary_writeUnsigned_10 ?_
  refine uCall (WR := [(f, .inr (2, [.int fb, .int fp, .int fl, .int fg, .int ft, .int ff, .long fu])), (d, .inr (1, [.int kd, .int (bI ng), .int ex, .ref b])), (b, .inr (0, [.long bh, .long bl]))]) (RT := []) (va_runV (As := [.int ft]) (rest := []) ⟨hx, hb, hml, hown, hts⟩ (c_W_keep l D w H.size ft u1.1 u1.2) ⟨uCB 1 hts k_61 k_12 k_62 (by decide +kernel) rfl rfl ⟨Nat.le_of_ble_eq_true rfl, Nat.le_of_ble_eq_true rfl⟩, hts _ k_63, hts _ k_64⟩ (uPreV (ci := 0) (q0 := 2) hK hP hD hN [2] rfl (by decide) [] rfl rfl rfl) rfl rfl hl.1 rfl (lv_room (Nat.le_of_ble_eq_true rfl)) d_PatternBook_Binary_writeUnsigned_13 ⟨(Nat.le_of_ble_eq_true rfl), (Nat.le_of_ble_eq_true rfl)⟩) hK hP hD hS hA [2] [0, 1, 3] rfl rfl (by decide) (by decide) [] rfl (fun u2 H locs hu2 hP hD hK hS => ?_)
  have hP : va_P D classes [(f, .inr (2, [.int fb, .int fp, .int fl, .int fg, .int ft, .int ff, .long fu])), (d, .inr (1, [.int kd, .int (bI ng), .int ex, .ref b])), (b, .inr (0, [.long bh, .long bl])), (w, .inr (0, [.long u2.1, .long u2.2]))] H := hP
  have hD : va_D A [(f, .inr (2, [.int fb, .int fp, .int fl, .int fg, .int ft, .int ff, .long fu])), (d, .inr (1, [.int kd, .int (bI ng), .int ex, .ref b])), (b, .inr (0, [.long bh, .long bl])), (w, .inr (0, [.long u2.1, .long u2.2]))] := hD
  have hK : va_K D classes [] s := hK
  refine W.eq (g2 := F0 m 16 ls []) rfl ?_
  refine lv_aload_n hx hb d_PatternBook_Binary_writeUnsigned_16 rfl (lv_at hl 2 rfl) ?_
  refine lv_aload_n hx hb d_PatternBook_Binary_writeUnsigned_17 rfl (lv_at hl 0 rfl) ?_
  refine va_get (D := D) (ci := 2) (v := .int ft) (C := R_PatternBook_Binary) (T := F_PatternBook_Binary) (N := 7) hx hb hts i_PatternBook_Binary hown hK hP 0 rfl rfl 4 (by decide) (hts _ k_44) (fun _ h9 => h9) rfl d_PatternBook_Binary_writeUnsigned_18 ?_
  refine lv_aload_n hx hb d_PatternBook_Binary_writeUnsigned_21 rfl (lv_at hl 0 rfl) ?_
  refine lv_aload_n hx hb d_PatternBook_Binary_writeUnsigned_22 rfl (lv_at hl 1 rfl) ?_
  refine uCall (WR := [(w, .inr (0, [.long u2.1, .long u2.2]))]) (RT := []) (va_runV (As := [.ref d]) (rest := [.int ft, .ref w]) ⟨hx, hb, hml, hown, hts⟩ (c_B_fieldOf l D f d b H.size fb fp fl fg ft ff fu kd ng ex bh bl) ⟨uCB 1 hts k_85 k_81 k_86 (by decide +kernel) rfl rfl ⟨Nat.le_of_ble_eq_true rfl, Nat.le_of_ble_eq_true rfl⟩, hts _ k_87, hts _ k_88⟩ (uPreV (ci := 2) (q0 := 0) hK hP hD hN [0, 1, 2] rfl (by decide) [] rfl rfl rfl) rfl rfl hl.1 rfl (lv_room (Nat.le_of_ble_eq_true rfl)) d_PatternBook_Binary_writeUnsigned_23 ⟨(Nat.le_of_ble_eq_true rfl), (Nat.le_of_ble_eq_true rfl)⟩) hK hP hD hS hA [0, 1, 2] [3] rfl rfl (by decide) (by decide) [] rfl (fun u3 H locs hu3 hP hD hK hS => ?_)
  have hP : va_P D classes [(w, .inr (0, [.long u2.1, .long u2.2])), (f, .inr (2, [.int fb, .int fp, .int fl, .int fg, .int ft, .int ff, .long fu])), (d, .inr (1, [.int kd, .int (bI ng), .int ex, .ref b])), (b, .inr (0, [.long bh, .long bl]))] H := hP
  have hD : va_D A [(w, .inr (0, [.long u2.1, .long u2.2])), (f, .inr (2, [.int fb, .int fp, .int fl, .int fg, .int ft, .int ff, .long fu])), (d, .inr (1, [.int kd, .int (bI ng), .int ex, .ref b])), (b, .inr (0, [.long bh, .long bl]))] := hD
  have hK : va_K D classes [] s := hK
  refine W.eq (g2 := F0 m 26 ls [.long u3, .int ft, .ref w]) rfl ?_
  refine uCall (WR := [(f, .inr (2, [.int fb, .int fp, .int fl, .int fg, .int ft, .int ff, .long fu])), (d, .inr (1, [.int kd, .int (bI ng), .int ex, .ref b])), (b, .inr (0, [.long bh, .long bl]))]) (RT := []) (va_runV (As := [.int ft, .long u3]) (rest := []) ⟨hx, hb, hml, hown, hts⟩ (c_W_addBits l D w H.size ft u3 u2.1 u2.2) ⟨uCB 2 hts k_76 k_12 k_77 (by decide +kernel) rfl rfl ⟨Nat.le_of_ble_eq_true rfl, Nat.le_of_ble_eq_true rfl⟩, hts _ k_78, hts _ k_79⟩ (uPreV (ci := 0) (q0 := 0) hK hP hD hN [0] rfl (by decide) [] rfl rfl rfl) rfl rfl hl.1 rfl (lv_room (Nat.le_of_ble_eq_true rfl)) d_PatternBook_Binary_writeUnsigned_26 ⟨(Nat.le_of_ble_eq_true rfl), (Nat.le_of_ble_eq_true rfl)⟩) hK hP hD hS hA [0] [1, 2, 3] rfl rfl (by decide) (by decide) [] rfl (fun u4 H locs hu4 hP hD hK hS => ?_)
  have hP : va_P D classes [(f, .inr (2, [.int fb, .int fp, .int fl, .int fg, .int ft, .int ff, .long fu])), (d, .inr (1, [.int kd, .int (bI ng), .int ex, .ref b])), (b, .inr (0, [.long bh, .long bl])), (w, .inr (0, [.long u4.1, .long u4.2]))] H := hP
  have hD : va_D A [(f, .inr (2, [.int fb, .int fp, .int fl, .int fg, .int ft, .int ff, .long fu])), (d, .inr (1, [.int kd, .int (bI ng), .int ex, .ref b])), (b, .inr (0, [.long bh, .long bl])), (w, .inr (0, [.long u4.1, .long u4.2]))] := hD
  have hK : va_K D classes [] s := hK
  refine W.eq (g2 := F0 m 29 ls []) rfl ?_
  refine lv_aload_n hx hb d_PatternBook_Binary_writeUnsigned_29 rfl (lv_at hl 1 rfl) ?_
  refine va_getN (D := D) (ci := 1) (v := .int kd) (C := R_PatternBook_Datum) (T := F_PatternBook_Datum) (N := 4) hx hb hts i_PatternBook_Datum hown hK hP 1 rfl rfl 0 (by decide) (va_Nw.use rfl (hN _ kn_4)) (fun _ h9 => h9) rfl d_PatternBook_Binary_writeUnsigned_30 ?_
  refine lv_iconst (v := 2) hx hb d_PatternBook_Binary_writeUnsigned_33 (by decide) ?_
  refine lv_icmp_ne (tgt := 48) hx hb d_PatternBook_Binary_writeUnsigned_34 (by decide) (fun c_5 => ?_) (fun c_5 => ?_)
  · refine W.vret hx hb hr ?_ hS.2.2 d_PatternBook_Binary_writeUnsigned_48
    exact uEnd (u4.1, u4.2) (hP.sub [0, 1, 2, 3] rfl) (hK.sub [] rfl) (hD.sub [0, 1, 2, 3] (by decide) rfl) hS (by have eu1 := hu1.symm; subst eu1; have eu2 := hu2.symm; subst eu2; have eu3 := hu3.symm; subst eu3; have eu4 := hu4.symm; subst eu4; exact ((if_neg c_5).trans (rfl)).symm) rfl
  · refine lv_aload_n hx hb d_PatternBook_Binary_writeUnsigned_37 rfl (lv_at hl 2 rfl) ?_
    refine lv_aload_n hx hb d_PatternBook_Binary_writeUnsigned_38 rfl (lv_at hl 0 rfl) ?_
    refine va_get (D := D) (ci := 2) (v := .int ft) (C := R_PatternBook_Binary) (T := F_PatternBook_Binary) (N := 7) hx hb hts i_PatternBook_Binary hown hK hP 0 rfl rfl 4 (by decide) (hts _ k_44) (fun _ h9 => h9) rfl d_PatternBook_Binary_writeUnsigned_39 ?_
    refine lv_iconst (v := 1) hx hb d_PatternBook_Binary_writeUnsigned_42 (by decide) ?_
    refine lv_isub hx hb d_PatternBook_Binary_writeUnsigned_43 ?_
    refine lv_lconst (v := 1) hx hb d_PatternBook_Binary_writeUnsigned_44 (by decide) ?_
    refine uCall (WR := [(f, .inr (2, [.int fb, .int fp, .int fl, .int fg, .int ft, .int ff, .long fu])), (d, .inr (1, [.int kd, .int (bI ng), .int ex, .ref b])), (b, .inr (0, [.long bh, .long bl]))]) (RT := []) (va_runV (As := [.int (ft - (1:Int32)), .long (1:Int64)]) (rest := []) ⟨hx, hb, hml, hown, hts⟩ (c_W_addBits l D w H.size (ft - (1:Int32)) (1:Int64) u4.1 u4.2) ⟨uCB 2 hts k_76 k_12 k_77 (by decide +kernel) rfl rfl ⟨Nat.le_of_ble_eq_true rfl, Nat.le_of_ble_eq_true rfl⟩, hts _ k_78, hts _ k_79⟩ (uPreV (ci := 0) (q0 := 3) hK hP hD hN [3] rfl (by decide) [] rfl rfl rfl) rfl rfl hl.1 rfl (lv_room (Nat.le_of_ble_eq_true rfl)) d_PatternBook_Binary_writeUnsigned_45 ⟨(Nat.le_of_ble_eq_true rfl), (Nat.le_of_ble_eq_true rfl)⟩) hK hP hD hS hA [3] [0, 1, 2] rfl rfl (by decide) (by decide) [] rfl (fun u6 H locs hu6 hP hD hK hS => ?_)
    have hP : va_P D classes [(f, .inr (2, [.int fb, .int fp, .int fl, .int fg, .int ft, .int ff, .long fu])), (d, .inr (1, [.int kd, .int (bI ng), .int ex, .ref b])), (b, .inr (0, [.long bh, .long bl])), (w, .inr (0, [.long u6.1, .long u6.2]))] H := hP
    have hD : va_D A [(f, .inr (2, [.int fb, .int fp, .int fl, .int fg, .int ft, .int ff, .long fu])), (d, .inr (1, [.int kd, .int (bI ng), .int ex, .ref b])), (b, .inr (0, [.long bh, .long bl])), (w, .inr (0, [.long u6.1, .long u6.2]))] := hD
    have hK : va_K D classes [] s := hK
    refine W.eq (g2 := F0 m 48 ls []) rfl ?_
    refine W.vret hx hb hr ?_ hS.2.2 d_PatternBook_Binary_writeUnsigned_48
    exact uEnd (u6.1, u6.2) (hP.sub [0, 1, 2, 3] rfl) (hK.sub [] rfl) (hD.sub [0, 1, 2, 3] (by decide) rfl) hS (by have eu1 := hu1.symm; subst eu1; have eu2 := hu2.symm; subst eu2; have eu3 := hu3.symm; subst eu3; have eu4 := hu4.symm; subst eu4; have eu6 := hu6.symm; subst eu6; exact ((if_pos c_5).trans (rfl)).symm) rfl
set_option maxHeartbeats 4000000 in
set_option maxRecDepth 100000 in
/-- PatternBook$Format.has(LPatternBook$Datum;)Z -/
theorem c_B_has (l : Launch) (D : va_G) (f : Nat) (d : Nat) (b : Nat) (sz : Nat) (fb : Int32) (fp : Int32) (fl : Int32) (fg : Int32) (ft : Int32) (ff : Int32) (fu : Int64) (kd : Int32) (ng : Bool) (ex : Int32) (bh : Int64) (bl : Int64) : Met l y_PatternBook_Format_has (wsOf y_PatternBook_Format_has b_PatternBook_Format_has 2 (some .boolean)) ({ frames := 2, cells := 0, slots := 0, locals := 43 }) (uP D classes [(f, .inr (2, [.int fb, .int fp, .int fl, .int fg, .int ft, .int ff, .long fu])), (d, .inr (1, [.int kd, .int (bI ng), .int ex, .ref b])), (b, .inr (0, [.long bh, .long bl]))] [] sz [.ref f, .ref d]) (uQ D classes (fun u : Bool => some (.int (bI u))) (fun u => u = (sl m_B_has) fp fl fg ft kd ex bh bl) (va_A [(f, .inr (2, [.int fb, .int fp, .int fl, .int fg, .int ft, .int ff, .long fu])), (d, .inr (1, [.int kd, .int (bI ng), .int ex, .ref b])), (b, .inr (0, [.long bh, .long bl]))] sz) (fun _ => []) (fun u => [(f, .inr (2, [.int fb, .int fp, .int fl, .int fg, .int ft, .int ff, .long fu])), (d, .inr (1, [.int kd, .int (bI ng), .int ex, .ref b])), (b, .inr (0, [.long bh, .long bl]))])) 0 0 (va_A [(f, .inr (2, [.int fb, .int fp, .int fl, .int fg, .int ft, .int ff, .long fu])), (d, .inr (1, [.int kd, .int (bI ng), .int ex, .ref b])), (b, .inr (0, [.long bh, .long bl]))] sz) := by
  rw [sl_eq m_B_has]
  refine uBegin (by decide +kernel) (Nat.le_of_ble_eq_true rfl) ?_
  intro p e s m below meth c A ls H locs hx hb hr hts hown hlocks hml hin hA hP hK hD hN hS hl
  have hl : lv_has ls 2 [(0, .ref f), (1, .ref d)] := hl
  refine lv_aload_n hx hb d_PatternBook_Format_has_0 rfl (lv_at hl 1 rfl) ?_
  refine va_getN (D := D) (ci := 1) (v := .int kd) (C := R_PatternBook_Datum) (T := F_PatternBook_Datum) (N := 4) hx hb hts i_PatternBook_Datum hown hK hP 1 rfl rfl 0 (by decide) (va_Nw.use rfl (hN _ kn_5)) (fun _ h9 => h9) rfl d_PatternBook_Format_has_1 ?_
  by_cases c_1 : kd = (0:Int32)
  · refine lv_lookup (off := 28) (tgt := 32) hx hb d_PatternBook_Format_has_4 (by decide) (by rw [c_1]; rfl) (by decide) ?_
    refine lv_aload_n hx hb d_PatternBook_Format_has_32 rfl (lv_at hl 1 rfl) ?_
    refine va_getN (D := D) (ci := 1) (v := .int ex) (C := R_PatternBook_Datum) (T := F_PatternBook_Datum) (N := 4) hx hb hts i_PatternBook_Datum hown hK hP 1 rfl rfl 2 (by decide) (va_Nw.use rfl (hN _ kn_6)) (fun _ h9 => h9) rfl d_PatternBook_Format_has_33 ?_
    refine lv_aload_n hx hb d_PatternBook_Format_has_36 rfl (lv_at hl 0 rfl) ?_
    refine va_get (D := D) (ci := 2) (v := .int fl) (C := R_PatternBook_Binary) (T := F_PatternBook_Binary) (N := 7) hx hb hts i_PatternBook_Binary hown hK hP 0 rfl rfl 2 (by decide) (hts _ k_89) (fun _ h9 => h9) rfl d_PatternBook_Format_has_37 ?_
    refine lv_icmp_lt (tgt := 66) hx hb d_PatternBook_Format_has_40 (by decide) (fun c_2 => ?_) (fun c_2 => ?_)
    · refine lv_iconst (v := 0) hx hb d_PatternBook_Format_has_66 (by decide) ?_
      refine W.zret hx hb hr rfl ?_ hS.2.2 d_PatternBook_Format_has_67
      exact uEnd false (hP.sub [0, 1, 2] rfl) (hK.sub [] rfl) (hD.sub [0, 1, 2] (by decide) rfl) hS (by  exact ((if_pos c_1).trans ((if_pos c_2).trans (rfl))).symm) rfl
    · refine lv_aload_n hx hb d_PatternBook_Format_has_43 rfl (lv_at hl 1 rfl) ?_
      refine va_getN (D := D) (ci := 1) (v := .int ex) (C := R_PatternBook_Datum) (T := F_PatternBook_Datum) (N := 4) hx hb hts i_PatternBook_Datum hown hK hP 1 rfl rfl 2 (by decide) (va_Nw.use rfl (hN _ kn_6)) (fun _ h9 => h9) rfl d_PatternBook_Format_has_44 ?_
      refine lv_aload_n hx hb d_PatternBook_Format_has_47 rfl (lv_at hl 0 rfl) ?_
      refine va_get (D := D) (ci := 2) (v := .int fg) (C := R_PatternBook_Binary) (T := F_PatternBook_Binary) (N := 7) hx hb hts i_PatternBook_Binary hown hK hP 0 rfl rfl 3 (by decide) (hts _ k_90) (fun _ h9 => h9) rfl d_PatternBook_Format_has_48 ?_
      refine lv_icmp_gt (tgt := 66) hx hb d_PatternBook_Format_has_51 (by decide) (fun c_3 => ?_) (fun c_3 => ?_)
      · refine lv_iconst (v := 0) hx hb d_PatternBook_Format_has_66 (by decide) ?_
        refine W.zret hx hb hr rfl ?_ hS.2.2 d_PatternBook_Format_has_67
        exact uEnd false (hP.sub [0, 1, 2] rfl) (hK.sub [] rfl) (hD.sub [0, 1, 2] (by decide) rfl) hS (by  exact ((if_pos c_1).trans ((if_neg c_2).trans ((if_pos c_3).trans (rfl)))).symm) rfl
      · refine lv_aload_n hx hb d_PatternBook_Format_has_54 rfl (lv_at hl 0 rfl) ?_
        refine lv_aload_n hx hb d_PatternBook_Format_has_55 rfl (lv_at hl 1 rfl) ?_
        refine uCall (WR := []) (RT := []) (va_runU (As := [.ref d]) (rest := []) ⟨hx, hb, hml, hown, hts⟩ (c_B_hasNumber l D f d b H.size fb fp fl fg ft ff fu kd ng ex bh bl) (uCU (x := ⟨R_PatternBook_Format, "hasNumber", "(LPatternBook$Datum;)Z"⟩) (owner := R_PatternBook_Format) 1 hts k_91 k_81 k_92 k_93 (va_Decl.abs (hN _ kn_7)) k_94 k_95 (by decide +kernel) rfl rfl ⟨Nat.le_of_ble_eq_true rfl, Nat.le_of_ble_eq_true rfl⟩) (uPreV (ci := 2) (q0 := 0) hK hP hD hN [0, 1, 2] rfl (by decide) [] rfl rfl rfl) rfl rfl hl.1 rfl (lv_room (Nat.le_of_ble_eq_true rfl)) d_PatternBook_Format_has_56 ⟨(Nat.le_of_ble_eq_true rfl), (Nat.le_of_ble_eq_true rfl)⟩) hK hP hD hS hA [0, 1, 2] [] rfl rfl (by decide) (by decide) [] rfl (fun u4 H locs hu4 hP hD hK hS => ?_)
        have hP : va_P D classes [(f, .inr (2, [.int fb, .int fp, .int fl, .int fg, .int ft, .int ff, .long fu])), (d, .inr (1, [.int kd, .int (bI ng), .int ex, .ref b])), (b, .inr (0, [.long bh, .long bl]))] H := hP
        have hD : va_D A [(f, .inr (2, [.int fb, .int fp, .int fl, .int fg, .int ft, .int ff, .long fu])), (d, .inr (1, [.int kd, .int (bI ng), .int ex, .ref b])), (b, .inr (0, [.long bh, .long bl]))] := hD
        have hK : va_K D classes [] s := hK
        refine W.eq (g2 := F0 m 59 ls [.int (bI u4)]) rfl ?_
        refine lv_if_eq (tgt := 66) hx hb d_PatternBook_Format_has_59 (by decide) (fun c_5 => ?_) (fun c_5 => ?_)
        · refine lv_iconst (v := 0) hx hb d_PatternBook_Format_has_66 (by decide) ?_
          refine W.zret hx hb hr rfl ?_ hS.2.2 d_PatternBook_Format_has_67
          exact uEnd false (hP.sub [0, 1, 2] rfl) (hK.sub [] rfl) (hD.sub [0, 1, 2] (by decide) rfl) hS (by have eu4 := hu4.symm; subst eu4; exact ((if_pos c_1).trans ((if_neg c_2).trans ((if_neg c_3).trans ((if_pos c_5).trans (rfl))))).symm) rfl
        · refine lv_iconst (v := 1) hx hb d_PatternBook_Format_has_62 (by decide) ?_
          refine lv_goto (tgt := 67) hx hb d_PatternBook_Format_has_63 (by decide) ?_
          refine W.zret hx hb hr rfl ?_ hS.2.2 d_PatternBook_Format_has_67
          exact uEnd true (hP.sub [0, 1, 2] rfl) (hK.sub [] rfl) (hD.sub [0, 1, 2] (by decide) rfl) hS (by have eu4 := hu4.symm; subst eu4; exact ((if_pos c_1).trans ((if_neg c_2).trans ((if_neg c_3).trans ((if_neg c_5).trans (rfl))))).symm) rfl
  · by_cases c_6 : kd = (1:Int32)
    · refine lv_lookup (off := 64) (tgt := 68) hx hb d_PatternBook_Format_has_4 (by decide) (by rw [c_6]; rfl) (by decide) ?_
      refine lv_iconst (v := 1) hx hb d_PatternBook_Format_has_68 (by decide) ?_
      refine W.zret hx hb hr rfl ?_ hS.2.2 d_PatternBook_Format_has_69
      exact uEnd true (hP.sub [0, 1, 2] rfl) (hK.sub [] rfl) (hD.sub [0, 1, 2] (by decide) rfl) hS (by  exact ((if_neg c_1).trans ((if_pos c_6).trans (rfl))).symm) rfl
    · refine lv_lookup (off := 66) (tgt := 70) hx hb d_PatternBook_Format_has_4 (by decide) (by show Op.lookupswitch.offset [(0, 28), (1, 64)] 66 _ = _; rw [lv_osw c_1 (by decide), lv_osw c_6 (by decide)]; rfl) (by decide) ?_
      refine lv_aload_n hx hb d_PatternBook_Format_has_70 rfl (lv_at hl 0 rfl) ?_
      refine lv_aload_n hx hb d_PatternBook_Format_has_71 rfl (lv_at hl 1 rfl) ?_
      refine uCall (WR := []) (RT := []) (va_runU (As := [.ref d]) (rest := []) ⟨hx, hb, hml, hown, hts⟩ (c_B_hasNan l D f d b H.size fb fp fl fg ft ff fu kd ng ex bh bl) (uCU (x := ⟨R_PatternBook_Format, "hasNan", "(LPatternBook$Datum;)Z"⟩) (owner := R_PatternBook_Format) 1 hts k_96 k_81 k_97 k_98 (va_Decl.abs (hN _ kn_8)) k_99 k_100 (by decide +kernel) rfl rfl ⟨Nat.le_of_ble_eq_true rfl, Nat.le_of_ble_eq_true rfl⟩) (uPreV (ci := 2) (q0 := 0) hK hP hD hN [0, 1, 2] rfl (by decide) [] rfl rfl rfl) rfl rfl hl.1 rfl (lv_room (Nat.le_of_ble_eq_true rfl)) d_PatternBook_Format_has_72 ⟨(Nat.le_of_ble_eq_true rfl), (Nat.le_of_ble_eq_true rfl)⟩) hK hP hD hS hA [0, 1, 2] [] rfl rfl (by decide) (by decide) [] rfl (fun u7 H locs hu7 hP hD hK hS => ?_)
      have hP : va_P D classes [(f, .inr (2, [.int fb, .int fp, .int fl, .int fg, .int ft, .int ff, .long fu])), (d, .inr (1, [.int kd, .int (bI ng), .int ex, .ref b])), (b, .inr (0, [.long bh, .long bl]))] H := hP
      have hD : va_D A [(f, .inr (2, [.int fb, .int fp, .int fl, .int fg, .int ft, .int ff, .long fu])), (d, .inr (1, [.int kd, .int (bI ng), .int ex, .ref b])), (b, .inr (0, [.long bh, .long bl]))] := hD
      have hK : va_K D classes [] s := hK
      refine W.eq (g2 := F0 m 75 ls [.int (bI u7)]) rfl ?_
      refine W.zret hx hb hr (bI_nar _) ?_ hS.2.2 d_PatternBook_Format_has_75
      exact uEnd u7 (hP.sub [0, 1, 2] rfl) (hK.sub [] rfl) (hD.sub [0, 1, 2] (by decide) rfl) hS (by have eu7 := hu7.symm; subst eu7; exact ((if_neg c_1).trans ((if_neg c_6).trans (rfl))).symm) rfl
set_option maxHeartbeats 4000000 in
set_option maxRecDepth 100000 in
/-- PatternBook$Format.cut(JJLPatternBook$Wide;)V -/
theorem c_B_cut (l : Launch) (D : va_G) (f : Nat) (w : Nat) (sz : Nat) (x : Int64) (y : Int64) (fb : Int32) (fp : Int32) (fl : Int32) (fg : Int32) (ft : Int32) (ff : Int32) (fu : Int64) (wh : Int64) (wl : Int64) : Met l y_PatternBook_Format_cut (wsOf y_PatternBook_Format_cut b_PatternBook_Format_cut 6 none) ({ frames := 2, cells := 0, slots := 0, locals := 41 }) (uP D classes [(f, .inr (2, [.int fb, .int fp, .int fl, .int fg, .int ft, .int ff, .long fu])), (w, .inr (0, [.long wh, .long wl]))] [] sz [.ref f, .long x, .long y, .ref w]) (uQ D classes (fun _ : Int64 × Int64 => none) (fun u => u = (sl m_B_cut) x y fb) (va_A [(f, .inr (2, [.int fb, .int fp, .int fl, .int fg, .int ft, .int ff, .long fu])), (w, .inr (0, [.long wh, .long wl]))] sz) (fun _ => []) (fun u => [(f, .inr (2, [.int fb, .int fp, .int fl, .int fg, .int ft, .int ff, .long fu])), (w, .inr (0, [.long u.1, .long u.2]))])) 0 0 (va_A [(f, .inr (2, [.int fb, .int fp, .int fl, .int fg, .int ft, .int ff, .long fu])), (w, .inr (0, [.long wh, .long wl]))] sz) := by
  rw [sl_eq m_B_cut]
  refine uBegin (by decide +kernel) (Nat.le_of_ble_eq_true rfl) ?_
  intro p e s m below meth c A ls H locs hx hb hr hts hown hlocks hml hin hA hP hK hD hN hS hl
  have hl : lv_has ls 6 [(0, .ref f), (1, .long x), (3, .long y), (5, .ref w)] := hl
  refine lv_aload hx hb d_PatternBook_Format_cut_0 (lv_at hl 3 rfl) ?_
  refine lv_lload_n hx hb d_PatternBook_Format_cut_2 rfl (lv_at hl 1 rfl) ?_
  refine lv_lload_n hx hb d_PatternBook_Format_cut_3 rfl (lv_at hl 2 rfl) ?_
  refine uCall (WR := [(f, .inr (2, [.int fb, .int fp, .int fl, .int fg, .int ft, .int ff, .long fu]))]) (RT := []) (va_runV (As := [.long x, .long y]) (rest := []) ⟨hx, hb, hml, hown, hts⟩ (c_W_set l D w H.size x y wh wl) ⟨uCB 2 hts k_11 k_12 k_101 (by decide +kernel) rfl rfl ⟨Nat.le_of_ble_eq_true rfl, Nat.le_of_ble_eq_true rfl⟩, hts _ k_14, hts _ k_15⟩ (uPreV (ci := 0) (q0 := 1) hK hP hD hN [1] rfl (by decide) [] rfl rfl rfl) rfl rfl hl.1 rfl (lv_room (Nat.le_of_ble_eq_true rfl)) d_PatternBook_Format_cut_4 ⟨(Nat.le_of_ble_eq_true rfl), (Nat.le_of_ble_eq_true rfl)⟩) hK hP hD hS hA [1] [0] rfl rfl (by decide) (by decide) [] rfl (fun u1 H locs hu1 hP hD hK hS => ?_)
  have hP : va_P D classes [(f, .inr (2, [.int fb, .int fp, .int fl, .int fg, .int ft, .int ff, .long fu])), (w, .inr (0, [.long u1.1, .long u1.2]))] H := hP
  have hD : va_D A [(f, .inr (2, [.int fb, .int fp, .int fl, .int fg, .int ft, .int ff, .long fu])), (w, .inr (0, [.long u1.1, .long u1.2]))] := hD
  have hK : va_K D classes [] s := hK
  refine W.eq (g2 := F0 m 7 ls []) rfl ?_
  refine lv_aload hx hb d_PatternBook_Format_cut_7 (lv_at hl 3 rfl) ?_
  refine lv_aload_n hx hb d_PatternBook_Format_cut_9 rfl (lv_at hl 0 rfl) ?_
  refine va_get (D := D) (ci := 2) (v := .int fb) (C := R_PatternBook_Binary) (T := F_PatternBook_Binary) (N := 7) hx hb hts i_PatternBook_Binary hown hK hP 0 rfl rfl 0 (by decide) (hts _ k_102) (fun _ h9 => h9) rfl d_PatternBook_Format_cut_10 ?_
  refine uCall (WR := [(f, .inr (2, [.int fb, .int fp, .int fl, .int fg, .int ft, .int ff, .long fu]))]) (RT := []) (va_runV (As := [.int fb]) (rest := []) ⟨hx, hb, hml, hown, hts⟩ (c_W_keep l D w H.size fb u1.1 u1.2) ⟨uCB 1 hts k_61 k_12 k_103 (by decide +kernel) rfl rfl ⟨Nat.le_of_ble_eq_true rfl, Nat.le_of_ble_eq_true rfl⟩, hts _ k_63, hts _ k_64⟩ (uPreV (ci := 0) (q0 := 1) hK hP hD hN [1] rfl (by decide) [] rfl rfl rfl) rfl rfl hl.1 rfl (lv_room (Nat.le_of_ble_eq_true rfl)) d_PatternBook_Format_cut_13 ⟨(Nat.le_of_ble_eq_true rfl), (Nat.le_of_ble_eq_true rfl)⟩) hK hP hD hS hA [1] [0] rfl rfl (by decide) (by decide) [] rfl (fun u2 H locs hu2 hP hD hK hS => ?_)
  have hP : va_P D classes [(f, .inr (2, [.int fb, .int fp, .int fl, .int fg, .int ft, .int ff, .long fu])), (w, .inr (0, [.long u2.1, .long u2.2]))] H := hP
  have hD : va_D A [(f, .inr (2, [.int fb, .int fp, .int fl, .int fg, .int ft, .int ff, .long fu])), (w, .inr (0, [.long u2.1, .long u2.2]))] := hD
  have hK : va_K D classes [] s := hK
  refine W.eq (g2 := F0 m 16 ls []) rfl ?_
  refine W.vret hx hb hr ?_ hS.2.2 d_PatternBook_Format_cut_16
  exact uEnd (u2.1, u2.2) (hP.sub [0, 1] rfl) (hK.sub [] rfl) (hD.sub [0, 1] (by decide) rfl) hS (by have eu1 := hu1.symm; subst eu1; have eu2 := hu2.symm; subst eu2; exact (rfl).symm) rfl
set_option maxHeartbeats 4000000 in
set_option maxRecDepth 100000 in
/-- PatternBook$Format.read(LPatternBook$Wide;LPatternBook$Datum;)V -/
theorem c_B_read (l : Launch) (D : va_G) (f : Nat) (w : Nat) (d : Nat) (b : Nat) (sz : Nat) (fb : Int32) (fp : Int32) (fl : Int32) (fg : Int32) (ft : Int32) (ff : Int32) (fu : Int64) (wh : Int64) (wl : Int64) (kd : Int32) (ng : Bool) (ex : Int32) (bh : Int64) (bl : Int64) : Met l y_PatternBook_Format_read (wsOf y_PatternBook_Format_read b_PatternBook_Format_read 3 none) ({ frames := 4, cells := 0, slots := 0, locals := 92 }) (uP D classes [(f, .inr (2, [.int fb, .int fp, .int fl, .int fg, .int ft, .int ff, .long fu])), (w, .inr (0, [.long wh, .long wl])), (d, .inr (1, [.int kd, .int (bI ng), .int ex, .ref b])), (b, .inr (0, [.long bh, .long bl]))] [] sz [.ref f, .ref w, .ref d]) (uQ D classes (fun _ : Int32 × Bool × Int32 × Int64 × Int64 => none) (fun u => u = (sl m_B_read) fb fl ft ff fu wh wl) (va_A [(f, .inr (2, [.int fb, .int fp, .int fl, .int fg, .int ft, .int ff, .long fu])), (w, .inr (0, [.long wh, .long wl])), (d, .inr (1, [.int kd, .int (bI ng), .int ex, .ref b])), (b, .inr (0, [.long bh, .long bl]))] sz) (fun _ => []) (fun u => [(f, .inr (2, [.int fb, .int fp, .int fl, .int fg, .int ft, .int ff, .long fu])), (w, .inr (0, [.long wh, .long wl])), (d, .inr (1, [.int u.1, .int (bI u.2.1), .int u.2.2.1, .ref b])), (b, .inr (0, [.long u.2.2.2.1, .long u.2.2.2.2]))])) 0 0 (va_A [(f, .inr (2, [.int fb, .int fp, .int fl, .int fg, .int ft, .int ff, .long fu])), (w, .inr (0, [.long wh, .long wl])), (d, .inr (1, [.int kd, .int (bI ng), .int ex, .ref b])), (b, .inr (0, [.long bh, .long bl]))] sz) := by
  rw [sl_eq m_B_read]
  refine uBegin (by decide +kernel) (Nat.le_of_ble_eq_true rfl) ?_
  intro p e s m below meth c A ls H locs hx hb hr hts hown hlocks hml hin hA hP hK hD hN hS hl
  have hl : lv_has ls 3 [(0, .ref f), (1, .ref w), (2, .ref d)] := hl
  refine lv_aload_n hx hb d_PatternBook_Format_read_0 rfl (lv_at hl 2 rfl) ?_
  refine lv_aload_n hx hb d_PatternBook_Format_read_1 rfl (lv_at hl 1 rfl) ?_
  refine lv_aload_n hx hb d_PatternBook_Format_read_2 rfl (lv_at hl 0 rfl) ?_
  refine va_get (D := D) (ci := 2) (v := .int fb) (C := R_PatternBook_Binary) (T := F_PatternBook_Binary) (N := 7) hx hb hts i_PatternBook_Binary hown hK hP 0 rfl rfl 0 (by decide) (hts _ k_102) (fun _ h9 => h9) rfl d_PatternBook_Format_read_3 ?_
  refine lv_iconst (v := 1) hx hb d_PatternBook_Format_read_6 (by decide) ?_
  refine lv_isub hx hb d_PatternBook_Format_read_7 ?_
  refine lv_iconst (v := 1) hx hb d_PatternBook_Format_read_8 (by decide) ?_
  refine uCall (WR := [(f, .inr (2, [.int fb, .int fp, .int fl, .int fg, .int ft, .int ff, .long fu])), (d, .inr (1, [.int kd, .int (bI ng), .int ex, .ref b])), (b, .inr (0, [.long bh, .long bl]))]) (RT := []) (va_runV (As := [.int (fb - (1:Int32)), .int (1:Int32)]) (rest := [.ref d]) ⟨hx, hb, hml, hown, hts⟩ (c_W_bitsAt l D w H.size (fb - (1:Int32)) (1:Int32) wh wl) ⟨uCB 2 hts k_57 k_12 k_104 (by decide +kernel) rfl rfl ⟨Nat.le_of_ble_eq_true rfl, Nat.le_of_ble_eq_true rfl⟩, hts _ k_59, hts _ k_60⟩ (uPreV (ci := 0) (q0 := 1) hK hP hD hN [1] rfl (by decide) [] rfl rfl rfl) rfl rfl hl.1 rfl (lv_room (Nat.le_of_ble_eq_true rfl)) d_PatternBook_Format_read_9 ⟨(Nat.le_of_ble_eq_true rfl), (Nat.le_of_ble_eq_true rfl)⟩) hK hP hD hS hA [1] [0, 2, 3] rfl rfl (by decide) (by decide) [] rfl (fun u1 H locs hu1 hP hD hK hS => ?_)
  have hP : va_P D classes [(f, .inr (2, [.int fb, .int fp, .int fl, .int fg, .int ft, .int ff, .long fu])), (d, .inr (1, [.int kd, .int (bI ng), .int ex, .ref b])), (b, .inr (0, [.long bh, .long bl])), (w, .inr (0, [.long wh, .long wl]))] H := hP
  have hD : va_D A [(f, .inr (2, [.int fb, .int fp, .int fl, .int fg, .int ft, .int ff, .long fu])), (d, .inr (1, [.int kd, .int (bI ng), .int ex, .ref b])), (b, .inr (0, [.long bh, .long bl])), (w, .inr (0, [.long wh, .long wl]))] := hD
  have hK : va_K D classes [] s := hK
  refine W.eq (g2 := F0 m 12 ls [.long u1, .ref d]) rfl ?_
  refine lv_lconst (v := 1) hx hb d_PatternBook_Format_read_12 (by decide) ?_
  refine W.lcmp hx hb d_PatternBook_Format_read_13 ?_
  refine lv_if_ne (tgt := 21) hx hb d_PatternBook_Format_read_14 (by decide) (fun c_2 => ?_) (fun c_2 => ?_)
  · refine lv_iconst (v := 0) hx hb d_PatternBook_Format_read_21 (by decide) ?_
    refine va_putN (D := D) (ci := 1) (v := .int (0:Int32)) (ty := .boolean) (C := R_PatternBook_Datum) (T := F_PatternBook_Datum) (N := 4) hx hb hts i_PatternBook_Datum t_PatternBook_Datum t_PatternBook_Datum_ok n_PatternBook_Datum hown hK hP hD hS 1 rfl rfl 1 (by decide) (va_Nw.use rfl (hN _ kn_9)) (fun _ h9 => h9) rfl (by decide +kernel) rfl rfl (Nat.le_of_ble_eq_true rfl) d_PatternBook_Format_read_22 (fun H locs hP hD hS => ?_)
    have hP : va_P D classes [(f, .inr (2, [.int fb, .int fp, .int fl, .int fg, .int ft, .int ff, .long fu])), (d, .inr (1, [.int kd, .int (bI false), .int ex, .ref b])), (b, .inr (0, [.long bh, .long bl])), (w, .inr (0, [.long wh, .long wl]))] H := hP
    have hD : va_D A [(f, .inr (2, [.int fb, .int fp, .int fl, .int fg, .int ft, .int ff, .long fu])), (d, .inr (1, [.int kd, .int (bI false), .int ex, .ref b])), (b, .inr (0, [.long bh, .long bl])), (w, .inr (0, [.long wh, .long wl]))] := hD
    refine lv_aload_n hx hb d_PatternBook_Format_read_25 rfl (lv_at hl 0 rfl) ?_
    refine lv_aload_n hx hb d_PatternBook_Format_read_26 rfl (lv_at hl 1 rfl) ?_
    refine lv_aload_n hx hb d_PatternBook_Format_read_27 rfl (lv_at hl 2 rfl) ?_
    refine uCall (WR := []) (RT := []) (va_runU (As := [.ref w, .ref d]) (rest := []) ⟨hx, hb, hml, hown, hts⟩ (c_B_readU l D f w d b H.size fb fp fl fg ft ff fu wh wl kd false ex bh bl) (uCU (x := ⟨R_PatternBook_Format, "readUnsigned", "(LPatternBook$Wide;LPatternBook$Datum;)V"⟩) (owner := R_PatternBook_Format) 2 hts k_105 k_81 k_106 k_107 (va_Decl.abs (hN _ kn_10)) k_108 k_109 (by decide +kernel) rfl rfl ⟨Nat.le_of_ble_eq_true rfl, Nat.le_of_ble_eq_true rfl⟩) (uPreV (ci := 2) (q0 := 0) hK hP hD hN [0, 3, 1, 2] rfl (by decide) [] rfl rfl rfl) rfl rfl hl.1 rfl (lv_room (Nat.le_of_ble_eq_true rfl)) d_PatternBook_Format_read_28 ⟨(Nat.le_of_ble_eq_true rfl), (Nat.le_of_ble_eq_true rfl)⟩) hK hP hD hS hA [0, 3, 1, 2] [] rfl rfl (by decide) (by decide) [] rfl (fun u3 H locs hu3 hP hD hK hS => ?_)
    have hP : va_P D classes [(f, .inr (2, [.int fb, .int fp, .int fl, .int fg, .int ft, .int ff, .long fu])), (w, .inr (0, [.long wh, .long wl])), (d, .inr (1, [.int u3.1, .int (bI false), .int u3.2.1, .ref b])), (b, .inr (0, [.long u3.2.2.1, .long u3.2.2.2]))] H := hP
    have hD : va_D A [(f, .inr (2, [.int fb, .int fp, .int fl, .int fg, .int ft, .int ff, .long fu])), (w, .inr (0, [.long wh, .long wl])), (d, .inr (1, [.int u3.1, .int (bI false), .int u3.2.1, .ref b])), (b, .inr (0, [.long u3.2.2.1, .long u3.2.2.2]))] := hD
    have hK : va_K D classes [] s := hK
    refine W.eq (g2 := F0 m 31 ls []) rfl ?_
    refine W.vret hx hb hr ?_ hS.2.2 d_PatternBook_Format_read_31
    exact uEnd (u3.1, false, u3.2.1, u3.2.2.1, u3.2.2.2) (hP.sub [0, 1, 2, 3] rfl) (hK.sub [] rfl) (hD.sub [0, 1, 2, 3] (by decide) rfl) hS (by have eu1 := hu1.symm; subst eu1; have eu3 := hu3.symm; subst eu3; exact ((if_neg c_2).trans (rfl)).symm) rfl
  · refine lv_iconst (v := 1) hx hb d_PatternBook_Format_read_17 (by decide) ?_
    refine lv_goto (tgt := 22) hx hb d_PatternBook_Format_read_18 (by decide) ?_
    refine va_putN (D := D) (ci := 1) (v := .int (1:Int32)) (ty := .boolean) (C := R_PatternBook_Datum) (T := F_PatternBook_Datum) (N := 4) hx hb hts i_PatternBook_Datum t_PatternBook_Datum t_PatternBook_Datum_ok n_PatternBook_Datum hown hK hP hD hS 1 rfl rfl 1 (by decide) (va_Nw.use rfl (hN _ kn_9)) (fun _ h9 => h9) rfl (by decide +kernel) rfl rfl (Nat.le_of_ble_eq_true rfl) d_PatternBook_Format_read_22 (fun H locs hP hD hS => ?_)
    have hP : va_P D classes [(f, .inr (2, [.int fb, .int fp, .int fl, .int fg, .int ft, .int ff, .long fu])), (d, .inr (1, [.int kd, .int (bI true), .int ex, .ref b])), (b, .inr (0, [.long bh, .long bl])), (w, .inr (0, [.long wh, .long wl]))] H := hP
    have hD : va_D A [(f, .inr (2, [.int fb, .int fp, .int fl, .int fg, .int ft, .int ff, .long fu])), (d, .inr (1, [.int kd, .int (bI true), .int ex, .ref b])), (b, .inr (0, [.long bh, .long bl])), (w, .inr (0, [.long wh, .long wl]))] := hD
    refine lv_aload_n hx hb d_PatternBook_Format_read_25 rfl (lv_at hl 0 rfl) ?_
    refine lv_aload_n hx hb d_PatternBook_Format_read_26 rfl (lv_at hl 1 rfl) ?_
    refine lv_aload_n hx hb d_PatternBook_Format_read_27 rfl (lv_at hl 2 rfl) ?_
    refine uCall (WR := []) (RT := []) (va_runU (As := [.ref w, .ref d]) (rest := []) ⟨hx, hb, hml, hown, hts⟩ (c_B_readU l D f w d b H.size fb fp fl fg ft ff fu wh wl kd true ex bh bl) (uCU (x := ⟨R_PatternBook_Format, "readUnsigned", "(LPatternBook$Wide;LPatternBook$Datum;)V"⟩) (owner := R_PatternBook_Format) 2 hts k_105 k_81 k_106 k_107 (va_Decl.abs (hN _ kn_10)) k_108 k_109 (by decide +kernel) rfl rfl ⟨Nat.le_of_ble_eq_true rfl, Nat.le_of_ble_eq_true rfl⟩) (uPreV (ci := 2) (q0 := 0) hK hP hD hN [0, 3, 1, 2] rfl (by decide) [] rfl rfl rfl) rfl rfl hl.1 rfl (lv_room (Nat.le_of_ble_eq_true rfl)) d_PatternBook_Format_read_28 ⟨(Nat.le_of_ble_eq_true rfl), (Nat.le_of_ble_eq_true rfl)⟩) hK hP hD hS hA [0, 3, 1, 2] [] rfl rfl (by decide) (by decide) [] rfl (fun u4 H locs hu4 hP hD hK hS => ?_)
    have hP : va_P D classes [(f, .inr (2, [.int fb, .int fp, .int fl, .int fg, .int ft, .int ff, .long fu])), (w, .inr (0, [.long wh, .long wl])), (d, .inr (1, [.int u4.1, .int (bI true), .int u4.2.1, .ref b])), (b, .inr (0, [.long u4.2.2.1, .long u4.2.2.2]))] H := hP
    have hD : va_D A [(f, .inr (2, [.int fb, .int fp, .int fl, .int fg, .int ft, .int ff, .long fu])), (w, .inr (0, [.long wh, .long wl])), (d, .inr (1, [.int u4.1, .int (bI true), .int u4.2.1, .ref b])), (b, .inr (0, [.long u4.2.2.1, .long u4.2.2.2]))] := hD
    have hK : va_K D classes [] s := hK
    refine W.eq (g2 := F0 m 31 ls []) rfl ?_
    refine W.vret hx hb hr ?_ hS.2.2 d_PatternBook_Format_read_31
    exact uEnd (u4.1, true, u4.2.1, u4.2.2.1, u4.2.2.2) (hP.sub [0, 1, 2, 3] rfl) (hK.sub [] rfl) (hD.sub [0, 1, 2, 3] (by decide) rfl) hS (by have eu1 := hu1.symm; subst eu1; have eu4 := hu4.symm; subst eu4; exact ((if_pos c_2).trans (rfl)).symm) rfl
set_option maxHeartbeats 4000000 in
set_option maxRecDepth 100000 in
/-- PatternBook$Format.write(LPatternBook$Datum;LPatternBook$Wide;)Z -/
theorem c_B_write (l : Launch) (D : va_G) (f : Nat) (d : Nat) (w : Nat) (b : Nat) (sz : Nat) (fb : Int32) (fp : Int32) (fl : Int32) (fg : Int32) (ft : Int32) (ff : Int32) (fu : Int64) (kd : Int32) (ng : Bool) (ex : Int32) (bh : Int64) (bl : Int64) (wh : Int64) (wl : Int64) : Met l y_PatternBook_Format_write (wsOf y_PatternBook_Format_write b_PatternBook_Format_write 3 (some .boolean)) ({ frames := 3, cells := 0, slots := 0, locals := 67 }) (uP D classes [(f, .inr (2, [.int fb, .int fp, .int fl, .int fg, .int ft, .int ff, .long fu])), (d, .inr (1, [.int kd, .int (bI ng), .int ex, .ref b])), (b, .inr (0, [.long bh, .long bl])), (w, .inr (0, [.long wh, .long wl]))] [] sz [.ref f, .ref d, .ref w]) (uQ D classes (fun u : Bool × Int64 × Int64 => some (.int (bI u.1))) (fun u => u = (sl m_B_write) fb fp fl fg ft fu kd ng ex bh bl wh wl) (va_A [(f, .inr (2, [.int fb, .int fp, .int fl, .int fg, .int ft, .int ff, .long fu])), (d, .inr (1, [.int kd, .int (bI ng), .int ex, .ref b])), (b, .inr (0, [.long bh, .long bl])), (w, .inr (0, [.long wh, .long wl]))] sz) (fun _ => []) (fun u => [(f, .inr (2, [.int fb, .int fp, .int fl, .int fg, .int ft, .int ff, .long fu])), (d, .inr (1, [.int kd, .int (bI ng), .int ex, .ref b])), (b, .inr (0, [.long bh, .long bl])), (w, .inr (0, [.long u.2.1, .long u.2.2]))])) 0 0 (va_A [(f, .inr (2, [.int fb, .int fp, .int fl, .int fg, .int ft, .int ff, .long fu])), (d, .inr (1, [.int kd, .int (bI ng), .int ex, .ref b])), (b, .inr (0, [.long bh, .long bl])), (w, .inr (0, [.long wh, .long wl]))] sz) := by
  rw [sl_eq m_B_write]
  refine uBegin (by decide +kernel) (Nat.le_of_ble_eq_true rfl) ?_
  intro p e s m below meth c A ls H locs hx hb hr hts hown hlocks hml hin hA hP hK hD hN hS hl
  have hl : lv_has ls 3 [(0, .ref f), (1, .ref d), (2, .ref w)] := hl
  refine lv_aload_n hx hb d_PatternBook_Format_write_0 rfl (lv_at hl 0 rfl) ?_
  refine lv_aload_n hx hb d_PatternBook_Format_write_1 rfl (lv_at hl 1 rfl) ?_
  refine uCall (WR := [(w, .inr (0, [.long wh, .long wl]))]) (RT := []) (va_runV (As := [.ref d]) (rest := []) ⟨hx, hb, hml, hown, hts⟩ (c_B_has l D f d b H.size fb fp fl fg ft ff fu kd ng ex bh bl) ⟨uCB 1 hts k_110 k_111 k_112 (by decide +kernel) rfl rfl ⟨Nat.le_of_ble_eq_true rfl, Nat.le_of_ble_eq_true rfl⟩, hts _ k_113, hts _ k_114⟩ (uPreV (ci := 2) (q0 := 0) hK hP hD hN [0, 1, 2] rfl (by decide) [] rfl rfl rfl) rfl rfl hl.1 rfl (lv_room (Nat.le_of_ble_eq_true rfl)) d_PatternBook_Format_write_2 ⟨(Nat.le_of_ble_eq_true rfl), (Nat.le_of_ble_eq_true rfl)⟩) hK hP hD hS hA [0, 1, 2] [3] rfl rfl (by decide) (by decide) [] rfl (fun u1 H locs hu1 hP hD hK hS => ?_)
  have hP : va_P D classes [(w, .inr (0, [.long wh, .long wl])), (f, .inr (2, [.int fb, .int fp, .int fl, .int fg, .int ft, .int ff, .long fu])), (d, .inr (1, [.int kd, .int (bI ng), .int ex, .ref b])), (b, .inr (0, [.long bh, .long bl]))] H := hP
  have hD : va_D A [(w, .inr (0, [.long wh, .long wl])), (f, .inr (2, [.int fb, .int fp, .int fl, .int fg, .int ft, .int ff, .long fu])), (d, .inr (1, [.int kd, .int (bI ng), .int ex, .ref b])), (b, .inr (0, [.long bh, .long bl]))] := hD
  have hK : va_K D classes [] s := hK
  refine W.eq (g2 := F0 m 5 ls [.int (bI u1)]) rfl ?_
  refine lv_if_ne (tgt := 10) hx hb d_PatternBook_Format_write_5 (by decide) (fun c_2 => ?_) (fun c_2 => ?_)
  · refine lv_aload_n hx hb d_PatternBook_Format_write_10 rfl (lv_at hl 2 rfl) ?_
    refine lv_lconst (v := 0) hx hb d_PatternBook_Format_write_11 (by decide) ?_
    refine lv_lconst (v := 0) hx hb d_PatternBook_Format_write_12 (by decide) ?_
    refine uCall (WR := [(f, .inr (2, [.int fb, .int fp, .int fl, .int fg, .int ft, .int ff, .long fu])), (d, .inr (1, [.int kd, .int (bI ng), .int ex, .ref b])), (b, .inr (0, [.long bh, .long bl]))]) (RT := []) (va_runV (As := [.long (0:Int64), .long (0:Int64)]) (rest := []) ⟨hx, hb, hml, hown, hts⟩ (c_W_set l D w H.size (0:Int64) (0:Int64) wh wl) ⟨uCB 2 hts k_11 k_12 k_101 (by decide +kernel) rfl rfl ⟨Nat.le_of_ble_eq_true rfl, Nat.le_of_ble_eq_true rfl⟩, hts _ k_14, hts _ k_15⟩ (uPreV (ci := 0) (q0 := 0) hK hP hD hN [0] rfl (by decide) [] rfl rfl rfl) rfl rfl hl.1 rfl (lv_room (Nat.le_of_ble_eq_true rfl)) d_PatternBook_Format_write_13 ⟨(Nat.le_of_ble_eq_true rfl), (Nat.le_of_ble_eq_true rfl)⟩) hK hP hD hS hA [0] [1, 2, 3] rfl rfl (by decide) (by decide) [] rfl (fun u3 H locs hu3 hP hD hK hS => ?_)
    have hP : va_P D classes [(f, .inr (2, [.int fb, .int fp, .int fl, .int fg, .int ft, .int ff, .long fu])), (d, .inr (1, [.int kd, .int (bI ng), .int ex, .ref b])), (b, .inr (0, [.long bh, .long bl])), (w, .inr (0, [.long u3.1, .long u3.2]))] H := hP
    have hD : va_D A [(f, .inr (2, [.int fb, .int fp, .int fl, .int fg, .int ft, .int ff, .long fu])), (d, .inr (1, [.int kd, .int (bI ng), .int ex, .ref b])), (b, .inr (0, [.long bh, .long bl])), (w, .inr (0, [.long u3.1, .long u3.2]))] := hD
    have hK : va_K D classes [] s := hK
    refine W.eq (g2 := F0 m 16 ls []) rfl ?_
    refine lv_aload_n hx hb d_PatternBook_Format_write_16 rfl (lv_at hl 0 rfl) ?_
    refine lv_aload_n hx hb d_PatternBook_Format_write_17 rfl (lv_at hl 1 rfl) ?_
    refine lv_aload_n hx hb d_PatternBook_Format_write_18 rfl (lv_at hl 2 rfl) ?_
    refine uCall (WR := []) (RT := []) (va_runU (As := [.ref d, .ref w]) (rest := []) ⟨hx, hb, hml, hown, hts⟩ (c_B_writeU l D f d w b H.size fb fp fl fg ft ff fu kd ng ex bh bl u3.1 u3.2) (uCU (x := ⟨R_PatternBook_Format, "writeUnsigned", "(LPatternBook$Datum;LPatternBook$Wide;)V"⟩) (owner := R_PatternBook_Format) 2 hts k_115 k_81 k_116 k_117 (va_Decl.abs (hN _ kn_11)) k_118 k_119 (by decide +kernel) rfl rfl ⟨Nat.le_of_ble_eq_true rfl, Nat.le_of_ble_eq_true rfl⟩) (uPreV (ci := 2) (q0 := 0) hK hP hD hN [0, 1, 2, 3] rfl (by decide) [] rfl rfl rfl) rfl rfl hl.1 rfl (lv_room (Nat.le_of_ble_eq_true rfl)) d_PatternBook_Format_write_19 ⟨(Nat.le_of_ble_eq_true rfl), (Nat.le_of_ble_eq_true rfl)⟩) hK hP hD hS hA [0, 1, 2, 3] [] rfl rfl (by decide) (by decide) [] rfl (fun u4 H locs hu4 hP hD hK hS => ?_)
    have hP : va_P D classes [(f, .inr (2, [.int fb, .int fp, .int fl, .int fg, .int ft, .int ff, .long fu])), (d, .inr (1, [.int kd, .int (bI ng), .int ex, .ref b])), (b, .inr (0, [.long bh, .long bl])), (w, .inr (0, [.long u4.1, .long u4.2]))] H := hP
    have hD : va_D A [(f, .inr (2, [.int fb, .int fp, .int fl, .int fg, .int ft, .int ff, .long fu])), (d, .inr (1, [.int kd, .int (bI ng), .int ex, .ref b])), (b, .inr (0, [.long bh, .long bl])), (w, .inr (0, [.long u4.1, .long u4.2]))] := hD
    have hK : va_K D classes [] s := hK
    refine W.eq (g2 := F0 m 22 ls []) rfl ?_
    refine lv_aload_n hx hb d_PatternBook_Format_write_22 rfl (lv_at hl 1 rfl) ?_
    refine va_getN (D := D) (ci := 1) (v := .int (bI ng)) (C := R_PatternBook_Datum) (T := F_PatternBook_Datum) (N := 4) hx hb hts i_PatternBook_Datum hown hK hP 1 rfl rfl 1 (by decide) (va_Nw.use rfl (hN _ kn_9)) (fun _ h9 => h9) rfl d_PatternBook_Format_write_23 ?_
    refine lv_if_eq (tgt := 40) hx hb d_PatternBook_Format_write_26 (by decide) (fun c_5 => ?_) (fun c_5 => ?_)
    · refine lv_iconst (v := 1) hx hb d_PatternBook_Format_write_40 (by decide) ?_
      refine W.zret hx hb hr rfl ?_ hS.2.2 d_PatternBook_Format_write_41
      exact uEnd (true, u4.1, u4.2) (hP.sub [0, 1, 2, 3] rfl) (hK.sub [] rfl) (hD.sub [0, 1, 2, 3] (by decide) rfl) hS (by have eu1 := hu1.symm; subst eu1; have eu3 := hu3.symm; subst eu3; have eu4 := hu4.symm; subst eu4; exact ((if_neg c_2).trans ((if_pos c_5).trans (rfl))).symm) rfl
    · refine lv_aload_n hx hb d_PatternBook_Format_write_29 rfl (lv_at hl 2 rfl) ?_
      refine lv_aload_n hx hb d_PatternBook_Format_write_30 rfl (lv_at hl 0 rfl) ?_
      refine va_get (D := D) (ci := 2) (v := .int fb) (C := R_PatternBook_Binary) (T := F_PatternBook_Binary) (N := 7) hx hb hts i_PatternBook_Binary hown hK hP 0 rfl rfl 0 (by decide) (hts _ k_102) (fun _ h9 => h9) rfl d_PatternBook_Format_write_31 ?_
      refine lv_iconst (v := 1) hx hb d_PatternBook_Format_write_34 (by decide) ?_
      refine lv_isub hx hb d_PatternBook_Format_write_35 ?_
      refine lv_lconst (v := 1) hx hb d_PatternBook_Format_write_36 (by decide) ?_
      refine uCall (WR := [(f, .inr (2, [.int fb, .int fp, .int fl, .int fg, .int ft, .int ff, .long fu])), (d, .inr (1, [.int kd, .int (bI ng), .int ex, .ref b])), (b, .inr (0, [.long bh, .long bl]))]) (RT := []) (va_runV (As := [.int (fb - (1:Int32)), .long (1:Int64)]) (rest := []) ⟨hx, hb, hml, hown, hts⟩ (c_W_addBits l D w H.size (fb - (1:Int32)) (1:Int64) u4.1 u4.2) ⟨uCB 2 hts k_76 k_12 k_120 (by decide +kernel) rfl rfl ⟨Nat.le_of_ble_eq_true rfl, Nat.le_of_ble_eq_true rfl⟩, hts _ k_78, hts _ k_79⟩ (uPreV (ci := 0) (q0 := 3) hK hP hD hN [3] rfl (by decide) [] rfl rfl rfl) rfl rfl hl.1 rfl (lv_room (Nat.le_of_ble_eq_true rfl)) d_PatternBook_Format_write_37 ⟨(Nat.le_of_ble_eq_true rfl), (Nat.le_of_ble_eq_true rfl)⟩) hK hP hD hS hA [3] [0, 1, 2] rfl rfl (by decide) (by decide) [] rfl (fun u6 H locs hu6 hP hD hK hS => ?_)
      have hP : va_P D classes [(f, .inr (2, [.int fb, .int fp, .int fl, .int fg, .int ft, .int ff, .long fu])), (d, .inr (1, [.int kd, .int (bI ng), .int ex, .ref b])), (b, .inr (0, [.long bh, .long bl])), (w, .inr (0, [.long u6.1, .long u6.2]))] H := hP
      have hD : va_D A [(f, .inr (2, [.int fb, .int fp, .int fl, .int fg, .int ft, .int ff, .long fu])), (d, .inr (1, [.int kd, .int (bI ng), .int ex, .ref b])), (b, .inr (0, [.long bh, .long bl])), (w, .inr (0, [.long u6.1, .long u6.2]))] := hD
      have hK : va_K D classes [] s := hK
      refine W.eq (g2 := F0 m 40 ls []) rfl ?_
      refine lv_iconst (v := 1) hx hb d_PatternBook_Format_write_40 (by decide) ?_
      refine W.zret hx hb hr rfl ?_ hS.2.2 d_PatternBook_Format_write_41
      exact uEnd (true, u6.1, u6.2) (hP.sub [0, 1, 2, 3] rfl) (hK.sub [] rfl) (hD.sub [0, 1, 2, 3] (by decide) rfl) hS (by have eu1 := hu1.symm; subst eu1; have eu3 := hu3.symm; subst eu3; have eu4 := hu4.symm; subst eu4; have eu6 := hu6.symm; subst eu6; exact ((if_neg c_2).trans ((if_neg c_5).trans (rfl))).symm) rfl
  · refine lv_iconst (v := 0) hx hb d_PatternBook_Format_write_8 (by decide) ?_
    refine W.zret hx hb hr rfl ?_ hS.2.2 d_PatternBook_Format_write_9
    exact uEnd (false, wh, wl) (hP.sub [1, 2, 3, 0] rfl) (hK.sub [] rfl) (hD.sub [1, 2, 3, 0] (by decide) rfl) hS (by have eu1 := hu1.symm; subst eu1; exact ((if_pos c_2).trans (rfl)).symm) rfl
