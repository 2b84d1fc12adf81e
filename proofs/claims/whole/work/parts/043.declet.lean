set_option maxHeartbeats 4000000 in
set_option maxRecDepth 100000 in
/-- PatternBook$Decimal.beginsWithOnes(J)Z -/
theorem c_T_begins (l : Launch) (D : va_G) (f : Nat) (mn : Nat) (mp : Nat) (lf : Nat) (sz : Nat) (x : Int64) (fb : Int32) (fp : Int32) (fl : Int32) (fg : Int32) (fd : Int32) (ft : Int32) (fh : Int32) (fr : Int32) : Met l y_PatternBook_Decimal_beginsWithOnes (wsOf y_PatternBook_Decimal_beginsWithOnes b_PatternBook_Decimal_beginsWithOnes 3 (some .boolean)) ({ frames := 0, cells := 0, slots := 0, locals := 0 }) (uP D classes [(f, .inr (4, [.int fb, .int fp, .int fl, .int fg, .int fd, .int ft, .int fh, .ref mn, .ref mp, .int fr, .ref lf]))] [] sz [.ref f, .long x]) (uQ D classes (fun u : Bool => some (.int (bI u))) (fun u => u = (sl m_T_begins) x fh) (va_A [(f, .inr (4, [.int fb, .int fp, .int fl, .int fg, .int fd, .int ft, .int fh, .ref mn, .ref mp, .int fr, .ref lf]))] sz) (fun _ => []) (fun u => [(f, .inr (4, [.int fb, .int fp, .int fl, .int fg, .int fd, .int ft, .int fh, .ref mn, .ref mp, .int fr, .ref lf]))])) 0 0 (va_A [(f, .inr (4, [.int fb, .int fp, .int fl, .int fg, .int fd, .int ft, .int fh, .ref mn, .ref mp, .int fr, .ref lf]))] sz) := by
  rw [sl_eq m_T_begins]
  refine uBegin (by decide +kernel) (Nat.le_of_ble_eq_true rfl) ?_
  intro p e s m below meth c A ls H locs hx hb hr hts hown hlocks hml hin hA hP hK hD hN hS hl
  have hl : lv_has ls 3 [(0, .ref f), (1, .long x)] := hl
  refine lv_lload_n hx hb d_PatternBook_Decimal_beginsWithOnes_0 rfl (lv_at hl 1 rfl) ?_
  refine lv_aload_n hx hb d_PatternBook_Decimal_beginsWithOnes_1 rfl (lv_at hl 0 rfl) ?_
  refine va_get (D := D) (ci := 4) (v := .int fh) (C := R_PatternBook_DecletDecimal) (T := F_PatternBook_DecletDecimal) (N := 11) hx hb hts i_PatternBook_DecletDecimal hown hK hP 0 rfl rfl 6 (by decide) (hts _ k_121) (fun _ h9 => h9) rfl d_PatternBook_Decimal_beginsWithOnes_2 ?_
  refine lv_iconst (v := 2) hx hb d_PatternBook_Decimal_beginsWithOnes_5 (by decide) ?_
  refine lv_isub hx hb d_PatternBook_Decimal_beginsWithOnes_6 ?_
  refine lv_lushr (v := lushr_ x (fh - (2:Int32))) hx hb d_PatternBook_Decimal_beginsWithOnes_7 rfl ?_
  refine lv_ldc2 (v := 3) hx hb hown (hts _ k_122) d_PatternBook_Decimal_beginsWithOnes_8 ?_
  refine W.lcmp hx hb d_PatternBook_Decimal_beginsWithOnes_11 ?_
  refine lv_if_ne (tgt := 19) hx hb d_PatternBook_Decimal_beginsWithOnes_12 (by decide) (fun c_1 => ?_) (fun c_1 => ?_)
  · refine lv_iconst (v := 0) hx hb d_PatternBook_Decimal_beginsWithOnes_19 (by decide) ?_
    refine W.zret hx hb hr rfl ?_ hS.2.2 d_PatternBook_Decimal_beginsWithOnes_20
    exact uEnd false (hP.sub [0] rfl) (hK.sub [] rfl) (hD.sub [0] (by decide) rfl) hS (by  exact ((if_neg c_1).trans (rfl)).symm) rfl
  · refine lv_iconst (v := 1) hx hb d_PatternBook_Decimal_beginsWithOnes_15 (by decide) ?_
    refine lv_goto (tgt := 20) hx hb d_PatternBook_Decimal_beginsWithOnes_16 (by decide) ?_
    refine W.zret hx hb hr rfl ?_ hS.2.2 d_PatternBook_Decimal_beginsWithOnes_20
    exact uEnd true (hP.sub [0] rfl) (hK.sub [] rfl) (hD.sub [0] (by decide) rfl) hS (by  exact ((if_pos c_1).trans (rfl)).symm) rfl
set_option maxHeartbeats 4000000 in
set_option maxRecDepth 100000 in
/-- PatternBook$DecletDecimal.fieldOf(J)J -/
theorem c_T_fieldOf (l : Launch) (D : va_G) (f : Nat) (mn : Nat) (mp : Nat) (lf : Nat) (sz : Nat) (x : Int64) (fb : Int32) (fp : Int32) (fl : Int32) (fg : Int32) (fd : Int32) (ft : Int32) (fh : Int32) (fr : Int32) : Met l y_PatternBook_DecletDecimal_fieldOf (wsOf y_PatternBook_DecletDecimal_fieldOf b_PatternBook_DecletDecimal_fieldOf 5 (some .long)) ({ frames := 1, cells := 0, slots := 0, locals := 22 }) (uP D classes [(f, .inr (4, [.int fb, .int fp, .int fl, .int fg, .int fd, .int ft, .int fh, .ref mn, .ref mp, .int fr, .ref lf]))] [] sz [.ref f, .long x]) (uQ D classes (fun u : Int64 => some (.long u)) (fun u => u = (sl m_T_fieldOf) x fh fr) (va_A [(f, .inr (4, [.int fb, .int fp, .int fl, .int fg, .int fd, .int ft, .int fh, .ref mn, .ref mp, .int fr, .ref lf]))] sz) (fun _ => []) (fun u => [(f, .inr (4, [.int fb, .int fp, .int fl, .int fg, .int fd, .int ft, .int fh, .ref mn, .ref mp, .int fr, .ref lf]))])) 0 0 (va_A [(f, .inr (4, [.int fb, .int fp, .int fl, .int fg, .int fd, .int ft, .int fh, .ref mn, .ref mp, .int fr, .ref lf]))] sz) := by
  rw [sl_eq m_T_fieldOf]
  refine uBegin (by decide +kernel) (Nat.le_of_ble_eq_true rfl) ?_
  intro p e s m below meth c A ls H locs hx hb hr hts hown hlocks hml hin hA hP hK hD hN hS hl
  have hl : lv_has ls 5 [(0, .ref f), (1, .long x)] := hl
  refine lv_aload_n hx hb d_PatternBook_DecletDecimal_fieldOf_0 rfl (lv_at hl 0 rfl) ?_
  refine lv_lload_n hx hb d_PatternBook_DecletDecimal_fieldOf_1 rfl (lv_at hl 1 rfl) ?_
  refine uCall (WR := []) (RT := []) (va_runU (As := [.long x]) (rest := []) ⟨hx, hb, hml, hown, hts⟩ (c_T_begins l D f mn mp lf H.size x fb fp fl fg fd ft fh fr) (uCU (x := ⟨R_PatternBook_DecletDecimal, "beginsWithOnes", "(J)Z"⟩) (owner := R_PatternBook_Decimal) 1 hts k_123 k_124 k_200 k_201 (va_Decl.of (hts _ k_125) (hts _ k_123)) k_202 k_125 (by decide +kernel) rfl rfl ⟨Nat.le_of_ble_eq_true rfl, Nat.le_of_ble_eq_true rfl⟩) (uPreV (ci := 4) (q0 := 0) hK hP hD hN [0] rfl (by decide) [] rfl rfl rfl) rfl rfl hl.1 rfl (lv_room (Nat.le_of_ble_eq_true rfl)) d_PatternBook_DecletDecimal_fieldOf_2 ⟨(Nat.le_of_ble_eq_true rfl), (Nat.le_of_ble_eq_true rfl)⟩) hK hP hD hS hA [0] [] rfl rfl (by decide) (by decide) [] rfl (fun u1 H locs hu1 hP hD hK hS => ?_)
  have hP : va_P D classes [(f, .inr (4, [.int fb, .int fp, .int fl, .int fg, .int fd, .int ft, .int fh, .ref mn, .ref mp, .int fr, .ref lf]))] H := hP
  have hD : va_D A [(f, .inr (4, [.int fb, .int fp, .int fl, .int fg, .int fd, .int ft, .int fh, .ref mn, .ref mp, .int fr, .ref lf]))] := hD
  have hK : va_K D classes [] s := hK
  refine W.eq (g2 := F0 m 5 ls [.int (bI u1)]) rfl ?_
  refine lv_if_eq (tgt := 23) hx hb d_PatternBook_DecletDecimal_fieldOf_5 (by decide) (fun c_2 => ?_) (fun c_2 => ?_)
  · refine lv_lload_n hx hb d_PatternBook_DecletDecimal_fieldOf_23 rfl (lv_at hl 1 rfl) ?_
    refine lv_aload_n hx hb d_PatternBook_DecletDecimal_fieldOf_24 rfl (lv_at hl 0 rfl) ?_
    refine va_get (D := D) (ci := 4) (v := .int fr) (C := R_PatternBook_DecletDecimal) (T := F_PatternBook_DecletDecimal) (N := 11) hx hb hts i_PatternBook_DecletDecimal hown hK hP 0 rfl rfl 9 (by decide) (hts _ k_203) (fun _ h9 => h9) rfl d_PatternBook_DecletDecimal_fieldOf_25 ?_
    refine lv_iconst (v := 3) hx hb d_PatternBook_DecletDecimal_fieldOf_28 (by decide) ?_
    refine lv_iadd hx hb d_PatternBook_DecletDecimal_fieldOf_29 ?_
    refine lv_lushr (v := lushr_ x (fr + (3:Int32))) hx hb d_PatternBook_DecletDecimal_fieldOf_30 rfl ?_
    refine lv_lstore_n (lv' := [(3, .long (lushr_ x (fr + (3:Int32)))), (0, .ref f), (1, .long x)]) hx hb d_PatternBook_DecletDecimal_fieldOf_31 rfl hl (by decide) rfl (fun ls hl => ?_)
    refine lv_lload_n hx hb d_PatternBook_DecletDecimal_fieldOf_32 rfl (lv_at hl 0 rfl) ?_
    refine lv_aload_n hx hb d_PatternBook_DecletDecimal_fieldOf_33 rfl (lv_at hl 1 rfl) ?_
    refine va_get (D := D) (ci := 4) (v := .int fr) (C := R_PatternBook_DecletDecimal) (T := F_PatternBook_DecletDecimal) (N := 11) hx hb hts i_PatternBook_DecletDecimal hown hK hP 0 rfl rfl 9 (by decide) (hts _ k_203) (fun _ h9 => h9) rfl d_PatternBook_DecletDecimal_fieldOf_34 ?_
    refine lv_lshl (v := lshl_ (lushr_ x (fr + (3:Int32))) fr) hx hb d_PatternBook_DecletDecimal_fieldOf_37 rfl ?_
    refine lv_lload_n hx hb d_PatternBook_DecletDecimal_fieldOf_38 rfl (lv_at hl 2 rfl) ?_
    refine lv_aload_n hx hb d_PatternBook_DecletDecimal_fieldOf_39 rfl (lv_at hl 1 rfl) ?_
    refine va_get (D := D) (ci := 4) (v := .int fr) (C := R_PatternBook_DecletDecimal) (T := F_PatternBook_DecletDecimal) (N := 11) hx hb hts i_PatternBook_DecletDecimal hown hK hP 0 rfl rfl 9 (by decide) (hts _ k_203) (fun _ h9 => h9) rfl d_PatternBook_DecletDecimal_fieldOf_40 ?_
    refine uCall (WR := [(f, .inr (4, [.int fb, .int fp, .int fl, .int fg, .int fd, .int ft, .int fh, .ref mn, .ref mp, .int fr, .ref lf]))]) (RT := []) (va_runS (As := [.int fr]) (rest := [.long x, .long (lshl_ (lushr_ x (fr + (3:Int32))) fr)]) ⟨hx, hb, hml, hown, hts⟩ (c_W_ones l D H.size fr) ⟨uCB 1 hts k_19 k_12 k_204 (by decide +kernel) rfl rfl ⟨Nat.le_of_ble_eq_true rfl, Nat.le_of_ble_eq_true rfl⟩, hts _ k_21⟩ (uPreS hK hP hD hN [] rfl (by decide) [] rfl) rfl rfl hl.1 rfl (lv_room (Nat.le_of_ble_eq_true rfl)) d_PatternBook_DecletDecimal_fieldOf_43 ⟨(Nat.le_of_ble_eq_true rfl), (Nat.le_of_ble_eq_true rfl)⟩) hK hP hD hS hA [] [0] rfl rfl (by decide) (by decide) [] rfl (fun u3 H locs hu3 hP hD hK hS => ?_)
    have hP : va_P D classes [(f, .inr (4, [.int fb, .int fp, .int fl, .int fg, .int fd, .int ft, .int fh, .ref mn, .ref mp, .int fr, .ref lf]))] H := hP
    have hD : va_D A [(f, .inr (4, [.int fb, .int fp, .int fl, .int fg, .int fd, .int ft, .int fh, .ref mn, .ref mp, .int fr, .ref lf]))] := hD
    have hK : va_K D classes [] s := hK
    refine W.eq (g2 := F0 m 46 ls [.long u3, .long x, .long (lshl_ (lushr_ x (fr + (3:Int32))) fr)]) rfl ?_
    refine lv_land hx hb d_PatternBook_DecletDecimal_fieldOf_46 ?_
    refine lv_lor hx hb d_PatternBook_DecletDecimal_fieldOf_47 ?_
    refine W.lret hx hb hr ?_ hS.2.2 d_PatternBook_DecletDecimal_fieldOf_48
    exact uEnd ((lshl_ (lushr_ x (fr + (3:Int32))) fr) ||| (x &&& u3)) (hP.sub [0] rfl) (hK.sub [] rfl) (hD.sub [0] (by decide) rfl) hS (by have eu1 := hu1.symm; subst eu1; have eu3 := hu3.symm; subst eu3; exact ((if_pos c_2).trans (rfl)).symm) rfl
  · refine lv_lload_n hx hb d_PatternBook_DecletDecimal_fieldOf_8 rfl (lv_at hl 1 rfl) ?_
    refine lv_aload_n hx hb d_PatternBook_DecletDecimal_fieldOf_9 rfl (lv_at hl 0 rfl) ?_
    refine va_get (D := D) (ci := 4) (v := .int fr) (C := R_PatternBook_DecletDecimal) (T := F_PatternBook_DecletDecimal) (N := 11) hx hb hts i_PatternBook_DecletDecimal hown hK hP 0 rfl rfl 9 (by decide) (hts _ k_203) (fun _ h9 => h9) rfl d_PatternBook_DecletDecimal_fieldOf_10 ?_
    refine lv_iconst (v := 1) hx hb d_PatternBook_DecletDecimal_fieldOf_13 (by decide) ?_
    refine lv_iadd hx hb d_PatternBook_DecletDecimal_fieldOf_14 ?_
    refine lv_lushr (v := lushr_ x (fr + (1:Int32))) hx hb d_PatternBook_DecletDecimal_fieldOf_15 rfl ?_
    refine lv_ldc2 (v := 3) hx hb hown (hts _ k_205) d_PatternBook_DecletDecimal_fieldOf_16 ?_
    refine lv_land hx hb d_PatternBook_DecletDecimal_fieldOf_19 ?_
    refine lv_goto (tgt := 31) hx hb d_PatternBook_DecletDecimal_fieldOf_20 (by decide) ?_
    refine lv_lstore_n (lv' := [(3, .long ((lushr_ x (fr + (1:Int32))) &&& (3:Int64))), (0, .ref f), (1, .long x)]) hx hb d_PatternBook_DecletDecimal_fieldOf_31 rfl hl (by decide) rfl (fun ls hl => ?_)
    refine lv_lload_n hx hb d_PatternBook_DecletDecimal_fieldOf_32 rfl (lv_at hl 0 rfl) ?_
    refine lv_aload_n hx hb d_PatternBook_DecletDecimal_fieldOf_33 rfl (lv_at hl 1 rfl) ?_
    refine va_get (D := D) (ci := 4) (v := .int fr) (C := R_PatternBook_DecletDecimal) (T := F_PatternBook_DecletDecimal) (N := 11) hx hb hts i_PatternBook_DecletDecimal hown hK hP 0 rfl rfl 9 (by decide) (hts _ k_203) (fun _ h9 => h9) rfl d_PatternBook_DecletDecimal_fieldOf_34 ?_
    refine lv_lshl (v := lshl_ ((lushr_ x (fr + (1:Int32))) &&& (3:Int64)) fr) hx hb d_PatternBook_DecletDecimal_fieldOf_37 rfl ?_
    refine lv_lload_n hx hb d_PatternBook_DecletDecimal_fieldOf_38 rfl (lv_at hl 2 rfl) ?_
    refine lv_aload_n hx hb d_PatternBook_DecletDecimal_fieldOf_39 rfl (lv_at hl 1 rfl) ?_
    refine va_get (D := D) (ci := 4) (v := .int fr) (C := R_PatternBook_DecletDecimal) (T := F_PatternBook_DecletDecimal) (N := 11) hx hb hts i_PatternBook_DecletDecimal hown hK hP 0 rfl rfl 9 (by decide) (hts _ k_203) (fun _ h9 => h9) rfl d_PatternBook_DecletDecimal_fieldOf_40 ?_
    refine uCall (WR := [(f, .inr (4, [.int fb, .int fp, .int fl, .int fg, .int fd, .int ft, .int fh, .ref mn, .ref mp, .int fr, .ref lf]))]) (RT := []) (va_runS (As := [.int fr]) (rest := [.long x, .long (lshl_ ((lushr_ x (fr + (1:Int32))) &&& (3:Int64)) fr)]) ⟨hx, hb, hml, hown, hts⟩ (c_W_ones l D H.size fr) ⟨uCB 1 hts k_19 k_12 k_204 (by decide +kernel) rfl rfl ⟨Nat.le_of_ble_eq_true rfl, Nat.le_of_ble_eq_true rfl⟩, hts _ k_21⟩ (uPreS hK hP hD hN [] rfl (by decide) [] rfl) rfl rfl hl.1 rfl (lv_room (Nat.le_of_ble_eq_true rfl)) d_PatternBook_DecletDecimal_fieldOf_43 ⟨(Nat.le_of_ble_eq_true rfl), (Nat.le_of_ble_eq_true rfl)⟩) hK hP hD hS hA [] [0] rfl rfl (by decide) (by decide) [] rfl (fun u4 H locs hu4 hP hD hK hS => ?_)
    have hP : va_P D classes [(f, .inr (4, [.int fb, .int fp, .int fl, .int fg, .int fd, .int ft, .int fh, .ref mn, .ref mp, .int fr, .ref lf]))] H := hP
    have hD : va_D A [(f, .inr (4, [.int fb, .int fp, .int fl, .int fg, .int fd, .int ft, .int fh, .ref mn, .ref mp, .int fr, .ref lf]))] := hD
    have hK : va_K D classes [] s := hK
    refine W.eq (g2 := F0 m 46 ls [.long u4, .long x, .long (lshl_ ((lushr_ x (fr + (1:Int32))) &&& (3:Int64)) fr)]) rfl ?_
    refine lv_land hx hb d_PatternBook_DecletDecimal_fieldOf_46 ?_
    refine lv_lor hx hb d_PatternBook_DecletDecimal_fieldOf_47 ?_
    refine W.lret hx hb hr ?_ hS.2.2 d_PatternBook_DecletDecimal_fieldOf_48
    exact uEnd ((lshl_ ((lushr_ x (fr + (1:Int32))) &&& (3:Int64)) fr) ||| (x &&& u4)) (hP.sub [0] rfl) (hK.sub [] rfl) (hD.sub [0] (by decide) rfl) hS (by have eu1 := hu1.symm; subst eu1; have eu4 := hu4.symm; subst eu4; exact ((if_neg c_2).trans (rfl)).symm) rfl
set_option maxHeartbeats 4000000 in
set_option maxRecDepth 100000 in
/-- PatternBook$DecletDecimal.leadOf(J)I -/
theorem c_T_leadOf (l : Launch) (D : va_G) (f : Nat) (mn : Nat) (mp : Nat) (lf : Nat) (sz : Nat) (x : Int64) (fb : Int32) (fp : Int32) (fl : Int32) (fg : Int32) (fd : Int32) (ft : Int32) (fh : Int32) (fr : Int32) : Met l y_PatternBook_DecletDecimal_leadOf (wsOf y_PatternBook_DecletDecimal_leadOf b_PatternBook_DecletDecimal_leadOf 3 (some .int)) ({ frames := 1, cells := 0, slots := 0, locals := 22 }) (uP D classes [(f, .inr (4, [.int fb, .int fp, .int fl, .int fg, .int fd, .int ft, .int fh, .ref mn, .ref mp, .int fr, .ref lf]))] [] sz [.ref f, .long x]) (uQ D classes (fun u : Int32 => some (.int u)) (fun u => u = (sl m_T_leadOf) x fh fr) (va_A [(f, .inr (4, [.int fb, .int fp, .int fl, .int fg, .int fd, .int ft, .int fh, .ref mn, .ref mp, .int fr, .ref lf]))] sz) (fun _ => []) (fun u => [(f, .inr (4, [.int fb, .int fp, .int fl, .int fg, .int fd, .int ft, .int fh, .ref mn, .ref mp, .int fr, .ref lf]))])) 0 0 (va_A [(f, .inr (4, [.int fb, .int fp, .int fl, .int fg, .int fd, .int ft, .int fh, .ref mn, .ref mp, .int fr, .ref lf]))] sz) := by
  rw [sl_eq m_T_leadOf]
  refine uBegin (by decide +kernel) (Nat.le_of_ble_eq_true rfl) ?_
  intro p e s m below meth c A ls H locs hx hb hr hts hown hlocks hml hin hA hP hK hD hN hS hl
  have hl : lv_has ls 3 [(0, .ref f), (1, .long x)] := hl
  refine lv_aload_n hx hb d_PatternBook_DecletDecimal_leadOf_0 rfl (lv_at hl 0 rfl) ?_
  refine lv_lload_n hx hb d_PatternBook_DecletDecimal_leadOf_1 rfl (lv_at hl 1 rfl) ?_
  refine uCall (WR := []) (RT := []) (va_runU (As := [.long x]) (rest := []) ⟨hx, hb, hml, hown, hts⟩ (c_T_begins l D f mn mp lf H.size x fb fp fl fg fd ft fh fr) (uCU (x := ⟨R_PatternBook_DecletDecimal, "beginsWithOnes", "(J)Z"⟩) (owner := R_PatternBook_Decimal) 1 hts k_123 k_124 k_200 k_201 (va_Decl.of (hts _ k_125) (hts _ k_123)) k_202 k_125 (by decide +kernel) rfl rfl ⟨Nat.le_of_ble_eq_true rfl, Nat.le_of_ble_eq_true rfl⟩) (uPreV (ci := 4) (q0 := 0) hK hP hD hN [0] rfl (by decide) [] rfl rfl rfl) rfl rfl hl.1 rfl (lv_room (Nat.le_of_ble_eq_true rfl)) d_PatternBook_DecletDecimal_leadOf_2 ⟨(Nat.le_of_ble_eq_true rfl), (Nat.le_of_ble_eq_true rfl)⟩) hK hP hD hS hA [0] [] rfl rfl (by decide) (by decide) [] rfl (fun u1 H locs hu1 hP hD hK hS => ?_)
  have hP : va_P D classes [(f, .inr (4, [.int fb, .int fp, .int fl, .int fg, .int fd, .int ft, .int fh, .ref mn, .ref mp, .int fr, .ref lf]))] H := hP
  have hD : va_D A [(f, .inr (4, [.int fb, .int fp, .int fl, .int fg, .int fd, .int ft, .int fh, .ref mn, .ref mp, .int fr, .ref lf]))] := hD
  have hK : va_K D classes [] s := hK
  refine W.eq (g2 := F0 m 5 ls [.int (bI u1)]) rfl ?_
  refine lv_if_eq (tgt := 21) hx hb d_PatternBook_DecletDecimal_leadOf_5 (by decide) (fun c_2 => ?_) (fun c_2 => ?_)
  · refine lv_lload_n hx hb d_PatternBook_DecletDecimal_leadOf_21 rfl (lv_at hl 1 rfl) ?_
    refine lv_aload_n hx hb d_PatternBook_DecletDecimal_leadOf_22 rfl (lv_at hl 0 rfl) ?_
    refine va_get (D := D) (ci := 4) (v := .int fr) (C := R_PatternBook_DecletDecimal) (T := F_PatternBook_DecletDecimal) (N := 11) hx hb hts i_PatternBook_DecletDecimal hown hK hP 0 rfl rfl 9 (by decide) (hts _ k_203) (fun _ h9 => h9) rfl d_PatternBook_DecletDecimal_leadOf_23 ?_
    refine lv_lushr (v := lushr_ x fr) hx hb d_PatternBook_DecletDecimal_leadOf_26 rfl ?_
    refine lv_ldc2 (v := 7) hx hb hown (hts _ k_206) d_PatternBook_DecletDecimal_leadOf_27 ?_
    refine lv_land hx hb d_PatternBook_DecletDecimal_leadOf_30 ?_
    refine lv_l2i hx hb d_PatternBook_DecletDecimal_leadOf_31 rfl ?_
    refine W.iret hx hb hr ?_ hS.2.2 d_PatternBook_DecletDecimal_leadOf_32
    exact uEnd (Int64.toInt32 ((lushr_ x fr) &&& (7:Int64))) (hP.sub [0] rfl) (hK.sub [] rfl) (hD.sub [0] (by decide) rfl) hS (by have eu1 := hu1.symm; subst eu1; exact ((if_pos c_2).trans (rfl)).symm) rfl
  · refine lv_bipush (v := 8) hx hb d_PatternBook_DecletDecimal_leadOf_8 (by decide) ?_
    refine lv_lload_n hx hb d_PatternBook_DecletDecimal_leadOf_10 rfl (lv_at hl 1 rfl) ?_
    refine lv_aload_n hx hb d_PatternBook_DecletDecimal_leadOf_11 rfl (lv_at hl 0 rfl) ?_
    refine va_get (D := D) (ci := 4) (v := .int fr) (C := R_PatternBook_DecletDecimal) (T := F_PatternBook_DecletDecimal) (N := 11) hx hb hts i_PatternBook_DecletDecimal hown hK hP 0 rfl rfl 9 (by decide) (hts _ k_203) (fun _ h9 => h9) rfl d_PatternBook_DecletDecimal_leadOf_12 ?_
    refine lv_lushr (v := lushr_ x fr) hx hb d_PatternBook_DecletDecimal_leadOf_15 rfl ?_
    refine lv_lconst (v := 1) hx hb d_PatternBook_DecletDecimal_leadOf_16 (by decide) ?_
    refine lv_land hx hb d_PatternBook_DecletDecimal_leadOf_17 ?_
    refine lv_l2i hx hb d_PatternBook_DecletDecimal_leadOf_18 rfl ?_
    refine lv_iadd hx hb d_PatternBook_DecletDecimal_leadOf_19 ?_
    refine W.iret hx hb hr ?_ hS.2.2 d_PatternBook_DecletDecimal_leadOf_20
    exact uEnd ((8:Int32) + (Int64.toInt32 ((lushr_ x fr) &&& (1:Int64)))) (hP.sub [0] rfl) (hK.sub [] rfl) (hD.sub [0] (by decide) rfl) hS (by have eu1 := hu1.symm; subst eu1; exact ((if_neg c_2).trans (rfl)).symm) rfl
set_option maxHeartbeats 4000000 in
set_option maxRecDepth 100000 in
/-- PatternBook$DecletDecimal.headOf(JI)J -/
theorem c_T_headOf (l : Launch) (D : va_G) (f : Nat) (mn : Nat) (mp : Nat) (lf : Nat) (sz : Nat) (x : Int64) (y : Int32) (fb : Int32) (fp : Int32) (fl : Int32) (fg : Int32) (fd : Int32) (ft : Int32) (fh : Int32) (fr : Int32) : Met l y_PatternBook_DecletDecimal_headOf (wsOf y_PatternBook_DecletDecimal_headOf b_PatternBook_DecletDecimal_headOf 8 (some .long)) ({ frames := 1, cells := 0, slots := 0, locals := 20 }) (uP D classes [(f, .inr (4, [.int fb, .int fp, .int fl, .int fg, .int fd, .int ft, .int fh, .ref mn, .ref mp, .int fr, .ref lf]))] [] sz [.ref f, .long x, .int y]) (uQ D classes (fun u : Int64 => some (.long u)) (fun u => u = (sl m_T_headOf) x y fr) (va_A [(f, .inr (4, [.int fb, .int fp, .int fl, .int fg, .int fd, .int ft, .int fh, .ref mn, .ref mp, .int fr, .ref lf]))] sz) (fun _ => []) (fun u => [(f, .inr (4, [.int fb, .int fp, .int fl, .int fg, .int fd, .int ft, .int fh, .ref mn, .ref mp, .int fr, .ref lf]))])) 0 0 (va_A [(f, .inr (4, [.int fb, .int fp, .int fl, .int fg, .int fd, .int ft, .int fh, .ref mn, .ref mp, .int fr, .ref lf]))] sz) := by
  rw [sl_eq m_T_headOf]
  refine uBegin (by decide +kernel) (Nat.le_of_ble_eq_true rfl) ?_
  intro p e s m below meth c A ls H locs hx hb hr hts hown hlocks hml hin hA hP hK hD hN hS hl
  have hl : lv_has ls 8 [(0, .ref f), (1, .long x), (3, .int y)] := hl
  refine lv_lload_n hx hb d_PatternBook_DecletDecimal_headOf_0 rfl (lv_at hl 1 rfl) ?_
  refine lv_aload_n hx hb d_PatternBook_DecletDecimal_headOf_1 rfl (lv_at hl 0 rfl) ?_
  refine va_get (D := D) (ci := 4) (v := .int fr) (C := R_PatternBook_DecletDecimal) (T := F_PatternBook_DecletDecimal) (N := 11) hx hb hts i_PatternBook_DecletDecimal hown hK hP 0 rfl rfl 9 (by decide) (hts _ k_203) (fun _ h9 => h9) rfl d_PatternBook_DecletDecimal_headOf_2 ?_
  refine lv_lushr (v := lushr_ x fr) hx hb d_PatternBook_DecletDecimal_headOf_5 rfl ?_
  refine lv_lstore (lv' := [(4, .long (lushr_ x fr)), (0, .ref f), (1, .long x), (3, .int y)]) hx hb d_PatternBook_DecletDecimal_headOf_6 hl (by decide) rfl (fun ls hl => ?_)
  refine lv_iload_n hx hb d_PatternBook_DecletDecimal_headOf_8 rfl (lv_at hl 3 rfl) ?_
  refine lv_bipush (v := 8) hx hb d_PatternBook_DecletDecimal_headOf_9 (by decide) ?_
  refine lv_icmp_ge (tgt := 24) hx hb d_PatternBook_DecletDecimal_headOf_11 (by decide) (fun c_1 => ?_) (fun c_1 => ?_)
  · refine lv_ldc2 (v := 24) hx hb hown (hts _ k_207) d_PatternBook_DecletDecimal_headOf_24 ?_
    refine lv_lload hx hb d_PatternBook_DecletDecimal_headOf_27 (lv_at hl 0 rfl) ?_
    refine lv_iconst (v := 1) hx hb d_PatternBook_DecletDecimal_headOf_29 (by decide) ?_
    refine lv_lshl (v := lshl_ (lushr_ x fr) (1:Int32)) hx hb d_PatternBook_DecletDecimal_headOf_30 rfl ?_
    refine lv_lor hx hb d_PatternBook_DecletDecimal_headOf_31 ?_
    refine lv_iload_n hx hb d_PatternBook_DecletDecimal_headOf_32 rfl (lv_at hl 3 rfl) ?_
    refine lv_iconst (v := 1) hx hb d_PatternBook_DecletDecimal_headOf_33 (by decide) ?_
    refine lv_iand hx hb d_PatternBook_DecletDecimal_headOf_34 ?_
    refine lv_i2l hx hb d_PatternBook_DecletDecimal_headOf_35 rfl ?_
    refine lv_lor hx hb d_PatternBook_DecletDecimal_headOf_36 ?_
    refine lv_topl (fun z2 hz2 => ?_)
    refine lv_lstore (lv' := [(6, .long z2), (4, .long (lushr_ x fr)), (0, .ref f), (1, .long x), (3, .int y)]) hx hb d_PatternBook_DecletDecimal_headOf_37 hl (by decide) rfl (fun ls hl => ?_)
    refine lv_lload hx hb d_PatternBook_DecletDecimal_headOf_39 (lv_at hl 0 rfl) ?_
    refine lv_aload_n hx hb d_PatternBook_DecletDecimal_headOf_41 rfl (lv_at hl 2 rfl) ?_
    refine va_get (D := D) (ci := 4) (v := .int fr) (C := R_PatternBook_DecletDecimal) (T := F_PatternBook_DecletDecimal) (N := 11) hx hb hts i_PatternBook_DecletDecimal hown hK hP 0 rfl rfl 9 (by decide) (hts _ k_203) (fun _ h9 => h9) rfl d_PatternBook_DecletDecimal_headOf_42 ?_
    refine lv_lshl (v := lshl_ z2 fr) hx hb d_PatternBook_DecletDecimal_headOf_45 rfl ?_
    refine lv_lload_n hx hb d_PatternBook_DecletDecimal_headOf_46 rfl (lv_at hl 3 rfl) ?_
    refine lv_aload_n hx hb d_PatternBook_DecletDecimal_headOf_47 rfl (lv_at hl 2 rfl) ?_
    refine va_get (D := D) (ci := 4) (v := .int fr) (C := R_PatternBook_DecletDecimal) (T := F_PatternBook_DecletDecimal) (N := 11) hx hb hts i_PatternBook_DecletDecimal hown hK hP 0 rfl rfl 9 (by decide) (hts _ k_203) (fun _ h9 => h9) rfl d_PatternBook_DecletDecimal_headOf_48 ?_
    refine uCall (WR := [(f, .inr (4, [.int fb, .int fp, .int fl, .int fg, .int fd, .int ft, .int fh, .ref mn, .ref mp, .int fr, .ref lf]))]) (RT := []) (va_runS (As := [.int fr]) (rest := [.long x, .long (lshl_ z2 fr)]) ⟨hx, hb, hml, hown, hts⟩ (c_W_ones l D H.size fr) ⟨uCB 1 hts k_19 k_12 k_204 (by decide +kernel) rfl rfl ⟨Nat.le_of_ble_eq_true rfl, Nat.le_of_ble_eq_true rfl⟩, hts _ k_21⟩ (uPreS hK hP hD hN [] rfl (by decide) [] rfl) rfl rfl hl.1 rfl (lv_room (Nat.le_of_ble_eq_true rfl)) d_PatternBook_DecletDecimal_headOf_51 ⟨(Nat.le_of_ble_eq_true rfl), (Nat.le_of_ble_eq_true rfl)⟩) hK hP hD hS hA [] [0] rfl rfl (by decide) (by decide) [] rfl (fun u3 H locs hu3 hP hD hK hS => ?_)
    have hP : va_P D classes [(f, .inr (4, [.int fb, .int fp, .int fl, .int fg, .int fd, .int ft, .int fh, .ref mn, .ref mp, .int fr, .ref lf]))] H := hP
    have hD : va_D A [(f, .inr (4, [.int fb, .int fp, .int fl, .int fg, .int fd, .int ft, .int fh, .ref mn, .ref mp, .int fr, .ref lf]))] := hD
    have hK : va_K D classes [] s := hK
    refine W.eq (g2 := F0 m 54 ls [.long u3, .long x, .long (lshl_ z2 fr)]) rfl ?_
    refine lv_land hx hb d_PatternBook_DecletDecimal_headOf_54 ?_
    refine lv_lor hx hb d_PatternBook_DecletDecimal_headOf_55 ?_
    refine W.lret hx hb hr ?_ hS.2.2 d_PatternBook_DecletDecimal_headOf_56
    exact uEnd ((lshl_ z2 fr) ||| (x &&& u3)) (hP.sub [0] rfl) (hK.sub [] rfl) (hD.sub [0] (by decide) rfl) hS (by have ez2 := hz2.symm; subst ez2; have eu3 := hu3.symm; subst eu3; exact ((if_pos c_1).trans (rfl)).symm) rfl
  · refine lv_lload hx hb d_PatternBook_DecletDecimal_headOf_14 (lv_at hl 0 rfl) ?_
    refine lv_iconst (v := 3) hx hb d_PatternBook_DecletDecimal_headOf_16 (by decide) ?_
    refine lv_lshl (v := lshl_ (lushr_ x fr) (3:Int32)) hx hb d_PatternBook_DecletDecimal_headOf_17 rfl ?_
    refine lv_iload_n hx hb d_PatternBook_DecletDecimal_headOf_18 rfl (lv_at hl 3 rfl) ?_
    refine lv_i2l hx hb d_PatternBook_DecletDecimal_headOf_19 rfl ?_
    refine lv_lor hx hb d_PatternBook_DecletDecimal_headOf_20 ?_
    refine lv_goto (tgt := 37) hx hb d_PatternBook_DecletDecimal_headOf_21 (by decide) ?_
    refine lv_lstore (lv' := [(6, .long ((lshl_ (lushr_ x fr) (3:Int32)) ||| (Int32.toInt64 y))), (4, .long (lushr_ x fr)), (0, .ref f), (1, .long x), (3, .int y)]) hx hb d_PatternBook_DecletDecimal_headOf_37 hl (by decide) rfl (fun ls hl => ?_)
    refine lv_lload hx hb d_PatternBook_DecletDecimal_headOf_39 (lv_at hl 0 rfl) ?_
    refine lv_aload_n hx hb d_PatternBook_DecletDecimal_headOf_41 rfl (lv_at hl 2 rfl) ?_
    refine va_get (D := D) (ci := 4) (v := .int fr) (C := R_PatternBook_DecletDecimal) (T := F_PatternBook_DecletDecimal) (N := 11) hx hb hts i_PatternBook_DecletDecimal hown hK hP 0 rfl rfl 9 (by decide) (hts _ k_203) (fun _ h9 => h9) rfl d_PatternBook_DecletDecimal_headOf_42 ?_
    refine lv_lshl (v := lshl_ ((lshl_ (lushr_ x fr) (3:Int32)) ||| (Int32.toInt64 y)) fr) hx hb d_PatternBook_DecletDecimal_headOf_45 rfl ?_
    refine lv_lload_n hx hb d_PatternBook_DecletDecimal_headOf_46 rfl (lv_at hl 3 rfl) ?_
    refine lv_aload_n hx hb d_PatternBook_DecletDecimal_headOf_47 rfl (lv_at hl 2 rfl) ?_
    refine va_get (D := D) (ci := 4) (v := .int fr) (C := R_PatternBook_DecletDecimal) (T := F_PatternBook_DecletDecimal) (N := 11) hx hb hts i_PatternBook_DecletDecimal hown hK hP 0 rfl rfl 9 (by decide) (hts _ k_203) (fun _ h9 => h9) rfl d_PatternBook_DecletDecimal_headOf_48 ?_
    refine uCall (WR := [(f, .inr (4, [.int fb, .int fp, .int fl, .int fg, .int fd, .int ft, .int fh, .ref mn, .ref mp, .int fr, .ref lf]))]) (RT := []) (va_runS (As := [.int fr]) (rest := [.long x, .long (lshl_ ((lshl_ (lushr_ x fr) (3:Int32)) ||| (Int32.toInt64 y)) fr)]) ⟨hx, hb, hml, hown, hts⟩ (c_W_ones l D H.size fr) ⟨uCB 1 hts k_19 k_12 k_204 (by decide +kernel) rfl rfl ⟨Nat.le_of_ble_eq_true rfl, Nat.le_of_ble_eq_true rfl⟩, hts _ k_21⟩ (uPreS hK hP hD hN [] rfl (by decide) [] rfl) rfl rfl hl.1 rfl (lv_room (Nat.le_of_ble_eq_true rfl)) d_PatternBook_DecletDecimal_headOf_51 ⟨(Nat.le_of_ble_eq_true rfl), (Nat.le_of_ble_eq_true rfl)⟩) hK hP hD hS hA [] [0] rfl rfl (by decide) (by decide) [] rfl (fun u4 H locs hu4 hP hD hK hS => ?_)
    have hP : va_P D classes [(f, .inr (4, [.int fb, .int fp, .int fl, .int fg, .int fd, .int ft, .int fh, .ref mn, .ref mp, .int fr, .ref lf]))] H := hP
    have hD : va_D A [(f, .inr (4, [.int fb, .int fp, .int fl, .int fg, .int fd, .int ft, .int fh, .ref mn, .ref mp, .int fr, .ref lf]))] := hD
    have hK : va_K D classes [] s := hK
    refine W.eq (g2 := F0 m 54 ls [.long u4, .long x, .long (lshl_ ((lshl_ (lushr_ x fr) (3:Int32)) ||| (Int32.toInt64 y)) fr)]) rfl ?_
    refine lv_land hx hb d_PatternBook_DecletDecimal_headOf_54 ?_
    refine lv_lor hx hb d_PatternBook_DecletDecimal_headOf_55 ?_
    refine W.lret hx hb hr ?_ hS.2.2 d_PatternBook_DecletDecimal_headOf_56
    exact uEnd ((lshl_ ((lshl_ (lushr_ x fr) (3:Int32)) ||| (Int32.toInt64 y)) fr) ||| (x &&& u4)) (hP.sub [0] rfl) (hK.sub [] rfl) (hD.sub [0] (by decide) rfl) hS (by have eu4 := hu4.symm; subst eu4; exact ((if_neg c_1).trans (rfl)).symm) rfl
set_option maxHeartbeats 4000000 in
set_option maxRecDepth 100000 in
/-- PatternBook$Decimal.hasNumber(LPatternBook$Datum;)Z -/
theorem c_T_hasNumber (l : Launch) (D : va_G) (f : Nat) (d : Nat) (mn : Nat) (mp : Nat) (lf : Nat) (b : Nat) (sz : Nat) (fb : Int32) (fp : Int32) (fl : Int32) (fg : Int32) (fd : Int32) (ft : Int32) (fh : Int32) (fr : Int32) (mnh : Int64) (mnl : Int64) (kd : Int32) (ng : Bool) (ex : Int32) (bh : Int64) (bl : Int64) : Met l y_PatternBook_Decimal_hasNumber (wsOf y_PatternBook_Decimal_hasNumber b_PatternBook_Decimal_hasNumber 2 (some .boolean)) ({ frames := 3, cells := 0, slots := 0, locals := 67 }) (uP D classes [(f, .inr (4, [.int fb, .int fp, .int fl, .int fg, .int fd, .int ft, .int fh, .ref mn, .ref mp, .int fr, .ref lf])), (mn, .inr (0, [.long mnh, .long mnl])), (d, .inr (1, [.int kd, .int (bI ng), .int ex, .ref b])), (b, .inr (0, [.long bh, .long bl]))] [] sz [.ref f, .ref d]) (uQ D classes (fun u : Bool => some (.int (bI u))) (fun u => u = (sl m_T_hasNumber) mnh mnl bh bl) (va_A [(f, .inr (4, [.int fb, .int fp, .int fl, .int fg, .int fd, .int ft, .int fh, .ref mn, .ref mp, .int fr, .ref lf])), (mn, .inr (0, [.long mnh, .long mnl])), (d, .inr (1, [.int kd, .int (bI ng), .int ex, .ref b])), (b, .inr (0, [.long bh, .long bl]))] sz) (fun _ => []) (fun u => [(f, .inr (4, [.int fb, .int fp, .int fl, .int fg, .int fd, .int ft, .int fh, .ref mn, .ref mp, .int fr, .ref lf])), (mn, .inr (0, [.long mnh, .long mnl])), (d, .inr (1, [.int kd, .int (bI ng), .int ex, .ref b])), (b, .inr (0, [.long bh, .long bl]))])) 0 0 (va_A [(f, .inr (4, [.int fb, .int fp, .int fl, .int fg, .int fd, .int ft, .int fh, .ref mn, .ref mp, .int fr, .ref lf])), (mn, .inr (0, [.long mnh, .long mnl])), (d, .inr (1, [.int kd, .int (bI ng), .int ex, .ref b])), (b, .inr (0, [.long bh, .long bl]))] sz) := by
  rw [sl_eq m_T_hasNumber]
  refine uBegin (by decide +kernel) (Nat.le_of_ble_eq_true rfl) ?_
  intro p e s m below meth c A ls H locs hx hb hr hts hown hlocks hml hin hA hP hK hD hN hS hl
  have hl : lv_has ls 2 [(0, .ref f), (1, .ref d)] := hl
  refine lv_aload_n hx hb d_PatternBook_Decimal_hasNumber_0 rfl (lv_at hl 1 rfl) ?_
  refine va_getN (D := D) (ci := 1) (v := .ref b) (C := R_PatternBook_Datum) (T := F_PatternBook_Datum) (N := 4) hx hb hts i_PatternBook_Datum hown hK hP 2 rfl rfl 3 (by decide) (va_Nw.use rfl (hN _ kn_12)) (fun _ h9 => h9) rfl d_PatternBook_Decimal_hasNumber_1 ?_
  refine lv_aload_n hx hb d_PatternBook_Decimal_hasNumber_4 rfl (lv_at hl 0 rfl) ?_
  refine va_get (D := D) (ci := 4) (v := .ref mn) (C := R_PatternBook_DecletDecimal) (T := F_PatternBook_DecletDecimal) (N := 11) hx hb hts i_PatternBook_DecletDecimal hown hK hP 0 rfl rfl 7 (by decide) (hts _ k_134) (fun _ h9 => h9) rfl d_PatternBook_Decimal_hasNumber_5 ?_
  refine uCall (WR := [(f, .inr (4, [.int fb, .int fp, .int fl, .int fg, .int fd, .int ft, .int fh, .ref mn, .ref mp, .int fr, .ref lf])), (d, .inr (1, [.int kd, .int (bI ng), .int ex, .ref b]))]) (RT := []) (va_runV (As := [.ref mn]) (rest := []) ⟨hx, hb, hml, hown, hts⟩ (c_W_isAbove l D b mn H.size bh bl mnh mnl) ⟨uCB 1 hts k_135 k_12 k_136 (by decide +kernel) rfl rfl ⟨Nat.le_of_ble_eq_true rfl, Nat.le_of_ble_eq_true rfl⟩, hts _ k_137, hts _ k_138⟩ (uPreV (ci := 0) (q0 := 3) hK hP hD hN [3, 1] rfl (by decide) [] rfl rfl rfl) rfl rfl hl.1 rfl (lv_room (Nat.le_of_ble_eq_true rfl)) d_PatternBook_Decimal_hasNumber_8 ⟨(Nat.le_of_ble_eq_true rfl), (Nat.le_of_ble_eq_true rfl)⟩) hK hP hD hS hA [3, 1] [0, 2] rfl rfl (by decide) (by decide) [] rfl (fun u1 H locs hu1 hP hD hK hS => ?_)
  have hP : va_P D classes [(f, .inr (4, [.int fb, .int fp, .int fl, .int fg, .int fd, .int ft, .int fh, .ref mn, .ref mp, .int fr, .ref lf])), (d, .inr (1, [.int kd, .int (bI ng), .int ex, .ref b])), (b, .inr (0, [.long bh, .long bl])), (mn, .inr (0, [.long mnh, .long mnl]))] H := hP
  have hD : va_D A [(f, .inr (4, [.int fb, .int fp, .int fl, .int fg, .int fd, .int ft, .int fh, .ref mn, .ref mp, .int fr, .ref lf])), (d, .inr (1, [.int kd, .int (bI ng), .int ex, .ref b])), (b, .inr (0, [.long bh, .long bl])), (mn, .inr (0, [.long mnh, .long mnl]))] := hD
  have hK : va_K D classes [] s := hK
  refine W.eq (g2 := F0 m 11 ls [.int (bI u1)]) rfl ?_
  refine lv_if_ne (tgt := 18) hx hb d_PatternBook_Decimal_hasNumber_11 (by decide) (fun c_2 => ?_) (fun c_2 => ?_)
  · refine lv_iconst (v := 0) hx hb d_PatternBook_Decimal_hasNumber_18 (by decide) ?_
    refine W.zret hx hb hr rfl ?_ hS.2.2 d_PatternBook_Decimal_hasNumber_19
    exact uEnd false (hP.sub [0, 3, 1, 2] rfl) (hK.sub [] rfl) (hD.sub [0, 3, 1, 2] (by decide) rfl) hS (by have eu1 := hu1.symm; subst eu1; exact ((if_neg c_2).trans (rfl)).symm) rfl
  · refine lv_iconst (v := 1) hx hb d_PatternBook_Decimal_hasNumber_14 (by decide) ?_
    refine lv_goto (tgt := 19) hx hb d_PatternBook_Decimal_hasNumber_15 (by decide) ?_
    refine W.zret hx hb hr rfl ?_ hS.2.2 d_PatternBook_Decimal_hasNumber_19
    exact uEnd true (hP.sub [0, 3, 1, 2] rfl) (hK.sub [] rfl) (hD.sub [0, 3, 1, 2] (by decide) rfl) hS (by have eu1 := hu1.symm; subst eu1; exact ((if_pos c_2).trans (rfl)).symm) rfl
set_option maxHeartbeats 4000000 in
set_option maxRecDepth 100000 in
/-- PatternBook$Decimal.hasNan(LPatternBook$Datum;)Z -/
theorem c_T_hasNan (l : Launch) (D : va_G) (f : Nat) (d : Nat) (mn : Nat) (mp : Nat) (lf : Nat) (b : Nat) (sz : Nat) (fb : Int32) (fp : Int32) (fl : Int32) (fg : Int32) (fd : Int32) (ft : Int32) (fh : Int32) (fr : Int32) (mph : Int64) (mpl : Int64) (kd : Int32) (ng : Bool) (ex : Int32) (bh : Int64) (bl : Int64) : Met l y_PatternBook_Decimal_hasNan (wsOf y_PatternBook_Decimal_hasNan b_PatternBook_Decimal_hasNan 2 (some .boolean)) ({ frames := 3, cells := 0, slots := 0, locals := 67 }) (uP D classes [(f, .inr (4, [.int fb, .int fp, .int fl, .int fg, .int fd, .int ft, .int fh, .ref mn, .ref mp, .int fr, .ref lf])), (mp, .inr (0, [.long mph, .long mpl])), (d, .inr (1, [.int kd, .int (bI ng), .int ex, .ref b])), (b, .inr (0, [.long bh, .long bl]))] [] sz [.ref f, .ref d]) (uQ D classes (fun u : Bool => some (.int (bI u))) (fun u => u = (sl m_T_hasNan) mph mpl bh bl) (va_A [(f, .inr (4, [.int fb, .int fp, .int fl, .int fg, .int fd, .int ft, .int fh, .ref mn, .ref mp, .int fr, .ref lf])), (mp, .inr (0, [.long mph, .long mpl])), (d, .inr (1, [.int kd, .int (bI ng), .int ex, .ref b])), (b, .inr (0, [.long bh, .long bl]))] sz) (fun _ => []) (fun u => [(f, .inr (4, [.int fb, .int fp, .int fl, .int fg, .int fd, .int ft, .int fh, .ref mn, .ref mp, .int fr, .ref lf])), (mp, .inr (0, [.long mph, .long mpl])), (d, .inr (1, [.int kd, .int (bI ng), .int ex, .ref b])), (b, .inr (0, [.long bh, .long bl]))])) 0 0 (va_A [(f, .inr (4, [.int fb, .int fp, .int fl, .int fg, .int fd, .int ft, .int fh, .ref mn, .ref mp, .int fr, .ref lf])), (mp, .inr (0, [.long mph, .long mpl])), (d, .inr (1, [.int kd, .int (bI ng), .int ex, .ref b])), (b, .inr (0, [.long bh, .long bl]))] sz) := by
  rw [sl_eq m_T_hasNan]
  refine uBegin (by decide +kernel) (Nat.le_of_ble_eq_true rfl) ?_
  intro p e s m below meth c A ls H locs hx hb hr hts hown hlocks hml hin hA hP hK hD hN hS hl
  have hl : lv_has ls 2 [(0, .ref f), (1, .ref d)] := hl
  refine lv_aload_n hx hb d_PatternBook_Decimal_hasNan_0 rfl (lv_at hl 1 rfl) ?_
  refine va_getN (D := D) (ci := 1) (v := .ref b) (C := R_PatternBook_Datum) (T := F_PatternBook_Datum) (N := 4) hx hb hts i_PatternBook_Datum hown hK hP 2 rfl rfl 3 (by decide) (va_Nw.use rfl (hN _ kn_12)) (fun _ h9 => h9) rfl d_PatternBook_Decimal_hasNan_1 ?_
  refine lv_aload_n hx hb d_PatternBook_Decimal_hasNan_4 rfl (lv_at hl 0 rfl) ?_
  refine va_get (D := D) (ci := 4) (v := .ref mp) (C := R_PatternBook_DecletDecimal) (T := F_PatternBook_DecletDecimal) (N := 11) hx hb hts i_PatternBook_DecletDecimal hown hK hP 0 rfl rfl 8 (by decide) (hts _ k_139) (fun _ h9 => h9) rfl d_PatternBook_Decimal_hasNan_5 ?_
  refine uCall (WR := [(f, .inr (4, [.int fb, .int fp, .int fl, .int fg, .int fd, .int ft, .int fh, .ref mn, .ref mp, .int fr, .ref lf])), (d, .inr (1, [.int kd, .int (bI ng), .int ex, .ref b]))]) (RT := []) (va_runV (As := [.ref mp]) (rest := []) ⟨hx, hb, hml, hown, hts⟩ (c_W_isAbove l D b mp H.size bh bl mph mpl) ⟨uCB 1 hts k_135 k_12 k_136 (by decide +kernel) rfl rfl ⟨Nat.le_of_ble_eq_true rfl, Nat.le_of_ble_eq_true rfl⟩, hts _ k_137, hts _ k_138⟩ (uPreV (ci := 0) (q0 := 3) hK hP hD hN [3, 1] rfl (by decide) [] rfl rfl rfl) rfl rfl hl.1 rfl (lv_room (Nat.le_of_ble_eq_true rfl)) d_PatternBook_Decimal_hasNan_8 ⟨(Nat.le_of_ble_eq_true rfl), (Nat.le_of_ble_eq_true rfl)⟩) hK hP hD hS hA [3, 1] [0, 2] rfl rfl (by decide) (by decide) [] rfl (fun u1 H locs hu1 hP hD hK hS => ?_)
  have hP : va_P D classes [(f, .inr (4, [.int fb, .int fp, .int fl, .int fg, .int fd, .int ft, .int fh, .ref mn, .ref mp, .int fr, .ref lf])), (d, .inr (1, [.int kd, .int (bI ng), .int ex, .ref b])), (b, .inr (0, [.long bh, .long bl])), (mp, .inr (0, [.long mph, .long mpl]))] H := hP
  have hD : va_D A [(f, .inr (4, [.int fb, .int fp, .int fl, .int fg, .int fd, .int ft, .int fh, .ref mn, .ref mp, .int fr, .ref lf])), (d, .inr (1, [.int kd, .int (bI ng), .int ex, .ref b])), (b, .inr (0, [.long bh, .long bl])), (mp, .inr (0, [.long mph, .long mpl]))] := hD
  have hK : va_K D classes [] s := hK
  refine W.eq (g2 := F0 m 11 ls [.int (bI u1)]) rfl ?_
  refine lv_if_ne (tgt := 18) hx hb d_PatternBook_Decimal_hasNan_11 (by decide) (fun c_2 => ?_) (fun c_2 => ?_)
  · refine lv_iconst (v := 0) hx hb d_PatternBook_Decimal_hasNan_18 (by decide) ?_
    refine W.zret hx hb hr rfl ?_ hS.2.2 d_PatternBook_Decimal_hasNan_19
    exact uEnd false (hP.sub [0, 3, 1, 2] rfl) (hK.sub [] rfl) (hD.sub [0, 3, 1, 2] (by decide) rfl) hS (by have eu1 := hu1.symm; subst eu1; exact ((if_neg c_2).trans (rfl)).symm) rfl
  · refine lv_iconst (v := 1) hx hb d_PatternBook_Decimal_hasNan_14 (by decide) ?_
    refine lv_goto (tgt := 19) hx hb d_PatternBook_Decimal_hasNan_15 (by decide) ?_
    refine W.zret hx hb hr rfl ?_ hS.2.2 d_PatternBook_Decimal_hasNan_19
    exact uEnd true (hP.sub [0, 3, 1, 2] rfl) (hK.sub [] rfl) (hD.sub [0, 3, 1, 2] (by decide) rfl) hS (by have eu1 := hu1.symm; subst eu1; exact ((if_pos c_2).trans (rfl)).symm) rfl
set_option maxHeartbeats 4000000 in
set_option maxRecDepth 100000 in
/-- PatternBook$Decimal.headFor(LPatternBook$Datum;I)J -/
theorem c_T_headFor (l : Launch) (D : va_G) (f : Nat) (d : Nat) (mn : Nat) (mp : Nat) (lf : Nat) (b : Nat) (sz : Nat) (x : Int32) (fb : Int32) (fp : Int32) (fl : Int32) (fg : Int32) (fd : Int32) (ft : Int32) (fh : Int32) (fr : Int32) (kd : Int32) (ng : Bool) (ex : Int32) : Met l y_PatternBook_Decimal_headFor (wsOf y_PatternBook_Decimal_headFor b_PatternBook_Decimal_headFor 3 (some .long)) ({ frames := 2, cells := 0, slots := 0, locals := 47 }) (uP D classes [(f, .inr (4, [.int fb, .int fp, .int fl, .int fg, .int fd, .int ft, .int fh, .ref mn, .ref mp, .int fr, .ref lf])), (d, .inr (1, [.int kd, .int (bI ng), .int ex, .ref b]))] [] sz [.ref f, .ref d, .int x]) (uQ D classes (fun u : Int64 => some (.long u)) (fun u => u = (sl m_T_headFor) x fl fh fr kd ex) (va_A [(f, .inr (4, [.int fb, .int fp, .int fl, .int fg, .int fd, .int ft, .int fh, .ref mn, .ref mp, .int fr, .ref lf])), (d, .inr (1, [.int kd, .int (bI ng), .int ex, .ref b]))] sz) (fun _ => []) (fun u => [(f, .inr (4, [.int fb, .int fp, .int fl, .int fg, .int fd, .int ft, .int fh, .ref mn, .ref mp, .int fr, .ref lf])), (d, .inr (1, [.int kd, .int (bI ng), .int ex, .ref b]))])) 0 0 (va_A [(f, .inr (4, [.int fb, .int fp, .int fl, .int fg, .int fd, .int ft, .int fh, .ref mn, .ref mp, .int fr, .ref lf])), (d, .inr (1, [.int kd, .int (bI ng), .int ex, .ref b]))] sz) := by
  rw [sl_eq m_T_headFor]
  refine uBegin (by decide +kernel) (Nat.le_of_ble_eq_true rfl) ?_
  intro p e s m below meth c A ls H locs hx hb hr hts hown hlocks hml hin hA hP hK hD hN hS hl
  have hl : lv_has ls 3 [(0, .ref f), (1, .ref d), (2, .int x)] := hl
  refine lv_aload_n hx hb d_PatternBook_Decimal_headFor_0 rfl (lv_at hl 1 rfl) ?_
  refine va_getN (D := D) (ci := 1) (v := .int kd) (C := R_PatternBook_Datum) (T := F_PatternBook_Datum) (N := 4) hx hb hts i_PatternBook_Datum hown hK hP 1 rfl rfl 0 (by decide) (va_Nw.use rfl (hN _ kn_13)) (fun _ h9 => h9) rfl d_PatternBook_Decimal_headFor_1 ?_
  by_cases c_1 : kd = (0:Int32)
  · refine lv_tableIn (off := 28) (tgt := 32) hx hb d_PatternBook_Decimal_headFor_4 (by rw [c_1]; decide) (by rw [c_1]; decide) (by rw [c_1]; rfl) (by decide) ?_
    refine lv_aload_n hx hb d_PatternBook_Decimal_headFor_32 rfl (lv_at hl 0 rfl) ?_
    refine lv_aload_n hx hb d_PatternBook_Decimal_headFor_33 rfl (lv_at hl 1 rfl) ?_
    refine va_getN (D := D) (ci := 1) (v := .int ex) (C := R_PatternBook_Datum) (T := F_PatternBook_Datum) (N := 4) hx hb hts i_PatternBook_Datum hown hK hP 1 rfl rfl 2 (by decide) (va_Nw.use rfl (hN _ kn_14)) (fun _ h9 => h9) rfl d_PatternBook_Decimal_headFor_34 ?_
    refine lv_aload_n hx hb d_PatternBook_Decimal_headFor_37 rfl (lv_at hl 0 rfl) ?_
    refine va_get (D := D) (ci := 4) (v := .int fl) (C := R_PatternBook_DecletDecimal) (T := F_PatternBook_DecletDecimal) (N := 11) hx hb hts i_PatternBook_DecletDecimal hown hK hP 0 rfl rfl 2 (by decide) (hts _ k_141) (fun x9 h9 => u_same (hts _ k_140) x9 h9) rfl d_PatternBook_Decimal_headFor_38 ?_
    refine lv_isub hx hb d_PatternBook_Decimal_headFor_41 ?_
    refine lv_i2l hx hb d_PatternBook_Decimal_headFor_42 rfl ?_
    refine lv_iload_n hx hb d_PatternBook_Decimal_headFor_43 rfl (lv_at hl 2 rfl) ?_
    refine uCall (WR := [(d, .inr (1, [.int kd, .int (bI ng), .int ex, .ref b]))]) (RT := []) (va_runU (As := [.long (Int32.toInt64 (ex - fl)), .int x]) (rest := []) ⟨hx, hb, hml, hown, hts⟩ (c_T_headOf l D f mn mp lf H.size (Int32.toInt64 (ex - fl)) x fb fp fl fg fd ft fh fr) (uCU (x := ⟨R_PatternBook_Decimal, "headOf", "(JI)J"⟩) (owner := R_PatternBook_Decimal) 2 hts k_208 k_209 k_144 k_145 (va_Decl.abs (hN _ kn_15)) k_210 k_211 (by decide +kernel) rfl rfl ⟨Nat.le_of_ble_eq_true rfl, Nat.le_of_ble_eq_true rfl⟩) (uPreV (ci := 4) (q0 := 0) hK hP hD hN [0] rfl (by decide) [] rfl rfl rfl) rfl rfl hl.1 rfl (lv_room (Nat.le_of_ble_eq_true rfl)) d_PatternBook_Decimal_headFor_44 ⟨(Nat.le_of_ble_eq_true rfl), (Nat.le_of_ble_eq_true rfl)⟩) hK hP hD hS hA [0] [1] rfl rfl (by decide) (by decide) [] rfl (fun u2 H locs hu2 hP hD hK hS => ?_)
    have hP : va_P D classes [(d, .inr (1, [.int kd, .int (bI ng), .int ex, .ref b])), (f, .inr (4, [.int fb, .int fp, .int fl, .int fg, .int fd, .int ft, .int fh, .ref mn, .ref mp, .int fr, .ref lf]))] H := hP
    have hD : va_D A [(d, .inr (1, [.int kd, .int (bI ng), .int ex, .ref b])), (f, .inr (4, [.int fb, .int fp, .int fl, .int fg, .int fd, .int ft, .int fh, .ref mn, .ref mp, .int fr, .ref lf]))] := hD
    have hK : va_K D classes [] s := hK
    refine W.eq (g2 := F0 m 47 ls [.long u2]) rfl ?_
    refine W.lret hx hb hr ?_ hS.2.2 d_PatternBook_Decimal_headFor_47
    exact uEnd u2 (hP.sub [1, 0] rfl) (hK.sub [] rfl) (hD.sub [1, 0] (by decide) rfl) hS (by have eu2 := hu2.symm; subst eu2; exact ((if_pos c_1).trans (rfl)).symm) rfl
  · by_cases c_3 : kd = (1:Int32)
    · refine lv_tableIn (off := 44) (tgt := 48) hx hb d_PatternBook_Decimal_headFor_4 (by rw [c_3]; decide) (by rw [c_3]; decide) (by rw [c_3]; rfl) (by decide) ?_
      refine lv_ldc2 (v := 30) hx hb hown (hts _ k_148) d_PatternBook_Decimal_headFor_48 ?_
      refine lv_aload_n hx hb d_PatternBook_Decimal_headFor_51 rfl (lv_at hl 0 rfl) ?_
      refine va_get (D := D) (ci := 4) (v := .int fh) (C := R_PatternBook_DecletDecimal) (T := F_PatternBook_DecletDecimal) (N := 11) hx hb hts i_PatternBook_DecletDecimal hown hK hP 0 rfl rfl 6 (by decide) (hts _ k_121) (fun _ h9 => h9) rfl d_PatternBook_Decimal_headFor_52 ?_
      refine lv_iconst (v := 5) hx hb d_PatternBook_Decimal_headFor_55 (by decide) ?_
      refine lv_isub hx hb d_PatternBook_Decimal_headFor_56 ?_
      refine lv_lshl (v := lshl_ (30:Int64) (fh - (5:Int32))) hx hb d_PatternBook_Decimal_headFor_57 rfl ?_
      refine W.lret hx hb hr ?_ hS.2.2 d_PatternBook_Decimal_headFor_58
      exact uEnd (lshl_ (30:Int64) (fh - (5:Int32))) (hP.sub [0, 1] rfl) (hK.sub [] rfl) (hD.sub [0, 1] (by decide) rfl) hS (by  exact ((if_neg c_1).trans ((if_pos c_3).trans (rfl))).symm) rfl
    · by_cases c_4 : kd = (2:Int32)
      · refine lv_tableIn (off := 55) (tgt := 59) hx hb d_PatternBook_Decimal_headFor_4 (by rw [c_4]; decide) (by rw [c_4]; decide) (by rw [c_4]; rfl) (by decide) ?_
        refine lv_ldc2 (v := 31) hx hb hown (hts _ k_149) d_PatternBook_Decimal_headFor_59 ?_
        refine lv_aload_n hx hb d_PatternBook_Decimal_headFor_62 rfl (lv_at hl 0 rfl) ?_
        refine va_get (D := D) (ci := 4) (v := .int fh) (C := R_PatternBook_DecletDecimal) (T := F_PatternBook_DecletDecimal) (N := 11) hx hb hts i_PatternBook_DecletDecimal hown hK hP 0 rfl rfl 6 (by decide) (hts _ k_121) (fun _ h9 => h9) rfl d_PatternBook_Decimal_headFor_63 ?_
        refine lv_iconst (v := 5) hx hb d_PatternBook_Decimal_headFor_66 (by decide) ?_
        refine lv_isub hx hb d_PatternBook_Decimal_headFor_67 ?_
        refine lv_lshl (v := lshl_ (31:Int64) (fh - (5:Int32))) hx hb d_PatternBook_Decimal_headFor_68 rfl ?_
        refine W.lret hx hb hr ?_ hS.2.2 d_PatternBook_Decimal_headFor_69
        exact uEnd (lshl_ (31:Int64) (fh - (5:Int32))) (hP.sub [0, 1] rfl) (hK.sub [] rfl) (hD.sub [0, 1] (by decide) rfl) hS (by  exact ((if_neg c_1).trans ((if_neg c_3).trans ((if_pos c_4).trans (rfl)))).symm) rfl
      · refine lv_tableOut (tgt := 70) hx hb d_PatternBook_Decimal_headFor_4 (by have z0 := lv_neT c_1 (show (0:Int32).toInt = 0 by decide); have z1 := lv_neT c_3 (show (1:Int32).toInt = 1 by decide); have z2 := lv_neT c_4 (show (2:Int32).toInt = 2 by decide); omega) (by decide) ?_
        refine lv_ldc2 (v := 63) hx hb hown (hts _ k_150) d_PatternBook_Decimal_headFor_70 ?_
        refine lv_aload_n hx hb d_PatternBook_Decimal_headFor_73 rfl (lv_at hl 0 rfl) ?_
        refine va_get (D := D) (ci := 4) (v := .int fh) (C := R_PatternBook_DecletDecimal) (T := F_PatternBook_DecletDecimal) (N := 11) hx hb hts i_PatternBook_DecletDecimal hown hK hP 0 rfl rfl 6 (by decide) (hts _ k_121) (fun _ h9 => h9) rfl d_PatternBook_Decimal_headFor_74 ?_
        refine lv_bipush (v := 6) hx hb d_PatternBook_Decimal_headFor_77 (by decide) ?_
        refine lv_isub hx hb d_PatternBook_Decimal_headFor_79 ?_
        refine lv_lshl (v := lshl_ (63:Int64) (fh - (6:Int32))) hx hb d_PatternBook_Decimal_headFor_80 rfl ?_
        refine W.lret hx hb hr ?_ hS.2.2 d_PatternBook_Decimal_headFor_81
        exact uEnd (lshl_ (63:Int64) (fh - (6:Int32))) (hP.sub [0, 1] rfl) (hK.sub [] rfl) (hD.sub [0, 1] (by decide) rfl) hS (by  exact ((if_neg c_1).trans ((if_neg c_3).trans ((if_neg c_4).trans (rfl)))).symm) rfl
set_option maxHeartbeats 4000000 in
set_option maxRecDepth 100000 in
/-- the loop of PatternBook$DecletDecimal.readBody -/
theorem lp_T_readBody (l : Launch) (D : va_G) (f : Nat) (mo : Nat) (w : Nat) (b : Nat) (mn : Nat) (mp : Nat) (lf : Nat) (x : Int32) (fb : Int32) (fp : Int32) (fl : Int32) (fg : Int32) (fd : Int32) (ft : Int32) (fh : Int32) (fr : Int32) (wh : Int64) (wl : Int64) (bh : Int64) (bl : Int64) {p : Program} {e : Env} {s : State} {m : MethodId} {below : List Frame} {meth : Method} {c : Code} {A : Nat → Prop} {args : Array Value} {F : Int64 × Int64} (hx : p.tables.exec = Jvm.exec) (hb : c.code = b_PatternBook_DecletDecimal_readBody) (hr : meth.sig.returnType = none) (hts : ∀ w ∈ wt, w.before args s = true) (hown : s.vm.findClass R_PatternBook_DecletDecimal = some m.cls) (hlocks : meth.locks = false) (hml : c.maxLocals = 6) (hA : ∀ q : Nat, s.heap.size ≤ q → A q) (hN : uN s) : ∀ (n : Nat) (x5 : Int32) (y2_0 : Int64) (y2_1 : Int64) (H : Heap) (locs : List Loc) (ls : Array Slot), mlk_T_readBody n x5 → mlf_T_readBody n wh wl x5 y2_0 y2_1 = F → va_K D classes [] s → va_P D classes [(f, .inr (4, [.int fb, .int fp, .int fl, .int fg, .int fd, .int ft, .int fh, .ref mn, .ref mp, .int fr, .ref lf])), (w, .inr (0, [.long wh, .long wl])), (b, .inr (0, [.long y2_0, .long y2_1]))] H → va_D A [(f, .inr (4, [.int fb, .int fp, .int fl, .int fg, .int fd, .int ft, .int fh, .ref mn, .ref mp, .int fr, .ref lf])), (w, .inr (0, [.long wh, .long wl])), (b, .inr (0, [.long y2_0, .long y2_1]))] → va_S A s.heap H locs → lv_has ls 6 [(5, .int x5), (0, .ref f), (1, .int x), (2, .ref mo), (3, .ref w), (4, .ref b)] → W p l e (headSpec (wsOf y_PatternBook_DecletDecimal_readBody b_PatternBook_DecletDecimal_readBody 6 none) ({ frames := 3, cells := 0, slots := 0, locals := 70 })).room s m args below meth c H locs (0) (0) (MQ below (uQ D classes (fun _ : Int64 × Int64 => none) (fun u => u = F) A (fun _ => []) (fun u => [(f, .inr (4, [.int fb, .int fp, .int fl, .int fg, .int fd, .int ft, .int fh, .ref mn, .ref mp, .int fr, .ref lf])), (w, .inr (0, [.long wh, .long wl])), (b, .inr (0, [.long u.1, .long u.2]))])) args s 0 0 A) (F0 m 16 ls []) := by
  intro n
  induction n with
  | zero => intro x5 y2_0 y2_1 H locs ls hk; exact (show False from hk).elim
  | succ n ih =>
    intro x5 y2_0 y2_1 H locs ls hk hF hK hP hD hS hl
    unfold mlk_T_readBody at hk
    refine lv_iload hx hb d_PatternBook_DecletDecimal_readBody_16 (lv_at hl 0 rfl) ?_
    refine lv_if_lt (tgt := 50) hx hb d_PatternBook_DecletDecimal_readBody_18 (by decide) (fun c_2 => ?_) (fun c_2 => ?_)
    · refine W.vret hx hb hr ?_ hS.2.2 d_PatternBook_DecletDecimal_readBody_50
      exact uEnd (y2_0, y2_1) (hP.sub [0, 1, 2] rfl) (hK.sub [] rfl) (hD.sub [0, 1, 2] (by decide) rfl) hS (by  exact (show mlf_T_readBody (n + 1) wh wl x5 y2_0 y2_1 = _ from (if_pos c_2).trans (rfl)).symm.trans hF) rfl
    · have hk := hk.2 c_2
      refine lv_aload hx hb d_PatternBook_DecletDecimal_readBody_21 (lv_at hl 5 rfl) ?_
      refine lv_sipush (v := 1000) hx hb d_PatternBook_DecletDecimal_readBody_23 (by decide) ?_
      refine lv_aload_n hx hb d_PatternBook_DecletDecimal_readBody_26 rfl (lv_at hl 4 rfl) ?_
      refine lv_bipush (v := 10) hx hb d_PatternBook_DecletDecimal_readBody_27 (by decide) ?_
      refine lv_iload hx hb d_PatternBook_DecletDecimal_readBody_29 (lv_at hl 0 rfl) ?_
      refine lv_imul hx hb d_PatternBook_DecletDecimal_readBody_31 ?_
      refine lv_bipush (v := 10) hx hb d_PatternBook_DecletDecimal_readBody_32 (by decide) ?_
      refine uCall (WR := [(f, .inr (4, [.int fb, .int fp, .int fl, .int fg, .int fd, .int ft, .int fh, .ref mn, .ref mp, .int fr, .ref lf])), (b, .inr (0, [.long y2_0, .long y2_1]))]) (RT := []) (va_runV (As := [.int ((10:Int32) * x5), .int (10:Int32)]) (rest := [.int (1000:Int32), .ref b]) ⟨hx, hb, hml, hown, hts⟩ (c_W_bitsAt l D w H.size ((10:Int32) * x5) (10:Int32) wh wl) ⟨uCB 2 hts k_57 k_12 k_215 (by decide +kernel) rfl rfl ⟨Nat.le_of_ble_eq_true rfl, Nat.le_of_ble_eq_true rfl⟩, hts _ k_59, hts _ k_60⟩ (uPreV (ci := 0) (q0 := 1) hK hP hD hN [1] rfl (by decide) [] rfl rfl rfl) rfl rfl hl.1 rfl (lv_room (Nat.le_of_ble_eq_true rfl)) d_PatternBook_DecletDecimal_readBody_34 ⟨(Nat.le_of_ble_eq_true rfl), (Nat.le_of_ble_eq_true rfl)⟩) hK hP hD hS hA [1] [0, 2] rfl rfl (by decide) (by decide) [] rfl (fun u3 H locs hu3 hP hD hK hS => ?_)
      have hP : va_P D classes [(f, .inr (4, [.int fb, .int fp, .int fl, .int fg, .int fd, .int ft, .int fh, .ref mn, .ref mp, .int fr, .ref lf])), (b, .inr (0, [.long y2_0, .long y2_1])), (w, .inr (0, [.long wh, .long wl]))] H := hP
      have hD : va_D A [(f, .inr (4, [.int fb, .int fp, .int fl, .int fg, .int fd, .int ft, .int fh, .ref mn, .ref mp, .int fr, .ref lf])), (b, .inr (0, [.long y2_0, .long y2_1])), (w, .inr (0, [.long wh, .long wl]))] := hD
      have hK : va_K D classes [] s := hK
      refine W.eq (g2 := F0 m 37 ls [.long u3, .int (1000:Int32), .ref b]) rfl ?_
      refine lv_l2i hx hb d_PatternBook_DecletDecimal_readBody_37 rfl ?_
      refine uCall (WR := [(f, .inr (4, [.int fb, .int fp, .int fl, .int fg, .int fd, .int ft, .int fh, .ref mn, .ref mp, .int fr, .ref lf])), (b, .inr (0, [.long y2_0, .long y2_1])), (w, .inr (0, [.long wh, .long wl]))]) (RT := []) (va_runS (As := [.int (Int64.toInt32 u3)]) (rest := [.int (1000:Int32), .ref b]) ⟨hx, hb, hml, hown, hts⟩ (c_E_read l D H.size (Int64.toInt32 u3)) ⟨uCB 1 hts k_216 k_35 k_217 (by decide +kernel) rfl rfl ⟨Nat.le_of_ble_eq_true rfl, Nat.le_of_ble_eq_true rfl⟩, hts _ k_218⟩ (uPreS hK hP hD hN [] rfl (by decide) [] rfl) rfl rfl hl.1 rfl (lv_room (Nat.le_of_ble_eq_true rfl)) d_PatternBook_DecletDecimal_readBody_38 ⟨(Nat.le_of_ble_eq_true rfl), (Nat.le_of_ble_eq_true rfl)⟩) hK hP hD hS hA [] [0, 1, 2] rfl rfl (by decide) (by decide) [] rfl (fun u4 H locs hu4 hP hD hK hS => ?_)
      have hP : va_P D classes [(f, .inr (4, [.int fb, .int fp, .int fl, .int fg, .int fd, .int ft, .int fh, .ref mn, .ref mp, .int fr, .ref lf])), (b, .inr (0, [.long y2_0, .long y2_1])), (w, .inr (0, [.long wh, .long wl]))] H := hP
      have hD : va_D A [(f, .inr (4, [.int fb, .int fp, .int fl, .int fg, .int fd, .int ft, .int fh, .ref mn, .ref mp, .int fr, .ref lf])), (b, .inr (0, [.long y2_0, .long y2_1])), (w, .inr (0, [.long wh, .long wl]))] := hD
      have hK : va_K D classes [] s := hK
      refine W.eq (g2 := F0 m 41 ls [.int u4, .int (1000:Int32), .ref b]) rfl ?_
      refine uCall (WR := [(f, .inr (4, [.int fb, .int fp, .int fl, .int fg, .int fd, .int ft, .int fh, .ref mn, .ref mp, .int fr, .ref lf])), (w, .inr (0, [.long wh, .long wl]))]) (RT := []) (va_runV (As := [.int (1000:Int32), .int u4]) (rest := []) ⟨hx, hb, hml, hown, hts⟩ (c_W_times l D b H.size (1000:Int32) u4 y2_0 y2_1) ⟨uCB 2 hts k_219 k_12 k_220 (by decide +kernel) rfl rfl ⟨Nat.le_of_ble_eq_true rfl, Nat.le_of_ble_eq_true rfl⟩, hts _ k_221, hts _ k_222⟩ (uPreV (ci := 0) (q0 := 1) hK hP hD hN [1] rfl (by decide) [] rfl rfl rfl) rfl rfl hl.1 rfl (lv_room (Nat.le_of_ble_eq_true rfl)) d_PatternBook_DecletDecimal_readBody_41 ⟨(Nat.le_of_ble_eq_true rfl), (Nat.le_of_ble_eq_true rfl)⟩) hK hP hD hS hA [1] [0, 2] rfl rfl (by decide) (by decide) [] rfl (fun u5 H locs hu5 hP hD hK hS => ?_)
      have hP : va_P D classes [(f, .inr (4, [.int fb, .int fp, .int fl, .int fg, .int fd, .int ft, .int fh, .ref mn, .ref mp, .int fr, .ref lf])), (w, .inr (0, [.long wh, .long wl])), (b, .inr (0, [.long u5.1, .long u5.2]))] H := hP
      have hD : va_D A [(f, .inr (4, [.int fb, .int fp, .int fl, .int fg, .int fd, .int ft, .int fh, .ref mn, .ref mp, .int fr, .ref lf])), (w, .inr (0, [.long wh, .long wl])), (b, .inr (0, [.long u5.1, .long u5.2]))] := hD
      have hK : va_K D classes [] s := hK
      refine W.eq (g2 := F0 m 44 ls []) rfl ?_
      refine lv_iinc (v := (x5 + (-1:Int32))) (lv' := [(5, .int (x5 + (-1:Int32))), (0, .ref f), (1, .int x), (2, .ref mo), (3, .ref w), (4, .ref b)]) hx hb d_PatternBook_DecletDecimal_readBody_44 hl (k := 0) rfl rfl (by decide) rfl (fun ls hl => ?_)
      refine lv_goto (tgt := 16) hx hb d_PatternBook_DecletDecimal_readBody_47 (by decide) ?_
      exact ih (x5 + (-1:Int32)) u5.1 u5.2 _ _ _ hk (by have eu3 := hu3.symm; subst eu3; have eu4 := hu4.symm; subst eu4; have eu5 := hu5.symm; subst eu5; exact (show mlf_T_readBody (n + 1) wh wl x5 y2_0 y2_1 = _ from (if_neg c_2).trans (rfl)).symm.trans hF) (hK.sub [] rfl) (hP.sub [0, 1, 2] rfl) (hD.sub [0, 1, 2] (by decide) rfl) hS (lv_sub hl [0, 1, 2, 3, 4, 5] rfl)
set_option maxHeartbeats 4000000 in
set_option maxRecDepth 100000 in
/-- PatternBook$DecletDecimal.readBody(ILPatternBook$Wide;LPatternBook$Wide;LPatternBook$Wide;)V -/
theorem c_T_readBody (l : Launch) (D : va_G) (f : Nat) (mo : Nat) (w : Nat) (b : Nat) (mn : Nat) (mp : Nat) (lf : Nat) (sz : Nat) (x : Int32) (fb : Int32) (fp : Int32) (fl : Int32) (fg : Int32) (fd : Int32) (ft : Int32) (fh : Int32) (fr : Int32) (wh : Int64) (wl : Int64) (bh : Int64) (bl : Int64) (hk : mok_T_readBody fd) : Met l y_PatternBook_DecletDecimal_readBody (wsOf y_PatternBook_DecletDecimal_readBody b_PatternBook_DecletDecimal_readBody 6 none) ({ frames := 3, cells := 0, slots := 0, locals := 70 }) (uP D classes [(f, .inr (4, [.int fb, .int fp, .int fl, .int fg, .int fd, .int ft, .int fh, .ref mn, .ref mp, .int fr, .ref lf])), (w, .inr (0, [.long wh, .long wl])), (b, .inr (0, [.long bh, .long bl]))] [] sz [.ref f, .int x, .ref mo, .ref w, .ref b]) (uQ D classes (fun _ : Int64 × Int64 => none) (fun u => u = (sl m_T_readBody) x fd wh wl) (va_A [(f, .inr (4, [.int fb, .int fp, .int fl, .int fg, .int fd, .int ft, .int fh, .ref mn, .ref mp, .int fr, .ref lf])), (w, .inr (0, [.long wh, .long wl])), (b, .inr (0, [.long bh, .long bl]))] sz) (fun _ => []) (fun u => [(f, .inr (4, [.int fb, .int fp, .int fl, .int fg, .int fd, .int ft, .int fh, .ref mn, .ref mp, .int fr, .ref lf])), (w, .inr (0, [.long wh, .long wl])), (b, .inr (0, [.long u.1, .long u.2]))])) 0 0 (va_A [(f, .inr (4, [.int fb, .int fp, .int fl, .int fg, .int fd, .int ft, .int fh, .ref mn, .ref mp, .int fr, .ref lf])), (w, .inr (0, [.long wh, .long wl])), (b, .inr (0, [.long bh, .long bl]))] sz) := by
  rw [sl_eq m_T_readBody]
  refine uBegin (by decide +kernel) (Nat.le_of_ble_eq_true rfl) ?_
  intro p e s m below meth c A ls H locs hx hb hr hts hown hlocks hml hin hA hP hK hD hN hS hl
  have hl : lv_has ls 6 [(0, .ref f), (1, .int x), (2, .ref mo), (3, .ref w), (4, .ref b)] := hl
  unfold mok_T_readBody at hk
  refine lv_aload hx hb d_PatternBook_DecletDecimal_readBody_0 (lv_at hl 4 rfl) ?_
  refine lv_lconst (v := 0) hx hb d_PatternBook_DecletDecimal_readBody_2 (by decide) ?_
  refine lv_iload_n hx hb d_PatternBook_DecletDecimal_readBody_3 rfl (lv_at hl 1 rfl) ?_
  refine lv_i2l hx hb d_PatternBook_DecletDecimal_readBody_4 rfl ?_
  refine uCall (WR := [(f, .inr (4, [.int fb, .int fp, .int fl, .int fg, .int fd, .int ft, .int fh, .ref mn, .ref mp, .int fr, .ref lf])), (w, .inr (0, [.long wh, .long wl]))]) (RT := []) (va_runV (As := [.long (0:Int64), .long (Int32.toInt64 x)]) (rest := []) ⟨hx, hb, hml, hown, hts⟩ (c_W_set l D b H.size (0:Int64) (Int32.toInt64 x) bh bl) ⟨uCB 2 hts k_11 k_12 k_212 (by decide +kernel) rfl rfl ⟨Nat.le_of_ble_eq_true rfl, Nat.le_of_ble_eq_true rfl⟩, hts _ k_14, hts _ k_15⟩ (uPreV (ci := 0) (q0 := 2) hK hP hD hN [2] rfl (by decide) [] rfl rfl rfl) rfl rfl hl.1 rfl (lv_room (Nat.le_of_ble_eq_true rfl)) d_PatternBook_DecletDecimal_readBody_5 ⟨(Nat.le_of_ble_eq_true rfl), (Nat.le_of_ble_eq_true rfl)⟩) hK hP hD hS hA [2] [0, 1] rfl rfl (by decide) (by decide) [] rfl (fun u1 H locs hu1 hP hD hK hS => ?_)
  have hP : va_P D classes [(f, .inr (4, [.int fb, .int fp, .int fl, .int fg, .int fd, .int ft, .int fh, .ref mn, .ref mp, .int fr, .ref lf])), (w, .inr (0, [.long wh, .long wl])), (b, .inr (0, [.long u1.1, .long u1.2]))] H := hP
  have hD : va_D A [(f, .inr (4, [.int fb, .int fp, .int fl, .int fg, .int fd, .int ft, .int fh, .ref mn, .ref mp, .int fr, .ref lf])), (w, .inr (0, [.long wh, .long wl])), (b, .inr (0, [.long u1.1, .long u1.2]))] := hD
  have hK : va_K D classes [] s := hK
  refine W.eq (g2 := F0 m 8 ls []) rfl ?_
  refine lv_aload_n hx hb d_PatternBook_DecletDecimal_readBody_8 rfl (lv_at hl 0 rfl) ?_
  refine va_get (D := D) (ci := 4) (v := .int fd) (C := R_PatternBook_DecletDecimal) (T := F_PatternBook_DecletDecimal) (N := 11) hx hb hts i_PatternBook_DecletDecimal hown hK hP 0 rfl rfl 4 (by decide) (hts _ k_214) (fun x9 h9 => u_same (hts _ k_213) x9 h9) rfl d_PatternBook_DecletDecimal_readBody_9 ?_
  refine lv_iconst (v := 1) hx hb d_PatternBook_DecletDecimal_readBody_12 (by decide) ?_
  refine lv_isub hx hb d_PatternBook_DecletDecimal_readBody_13 ?_
  refine lv_istore (lv' := [(5, .int (fd - (1:Int32))), (0, .ref f), (1, .int x), (2, .ref mo), (3, .ref w), (4, .ref b)]) hx hb d_PatternBook_DecletDecimal_readBody_14 hl (by decide) rfl (fun ls hl => ?_)
  exact lp_T_readBody l D f mo w b mn mp lf x fb fp fl fg fd ft fh fr wh wl bh bl hx hb hr hts hown hlocks hml hA hN 40 (fd - (1:Int32)) u1.1 u1.2 _ _ _ hk (by have eu1 := hu1.symm; subst eu1; exact (rfl).symm) hK hP hD hS hl
set_option maxHeartbeats 4000000 in
set_option maxRecDepth 100000 in
/-- the loop of PatternBook$DecletDecimal.writeTail -/
theorem lp_T_writeTail (l : Launch) (D : va_G) (f : Nat) (b : Nat) (w : Nat) (mn : Nat) (mp : Nat) (lf : Nat) (fb : Int32) (fp : Int32) (fl : Int32) (fg : Int32) (fd : Int32) (ft : Int32) (fh : Int32) (fr : Int32) (lfh : Int64) (lfl : Int64) (bh : Int64) (bl : Int64) (wh : Int64) (wl : Int64) {p : Program} {e : Env} {s : State} {m : MethodId} {below : List Frame} {meth : Method} {c : Code} {A : Nat → Prop} {args : Array Value} {F : Int32 × Int64 × Int64 × Int64 × Int64} (hx : p.tables.exec = Jvm.exec) (hb : c.code = b_PatternBook_DecletDecimal_writeTail) (hr : meth.sig.returnType = (some .int)) (hts : ∀ w ∈ wt, w.before args s = true) (hown : s.vm.findClass R_PatternBook_DecletDecimal = some m.cls) (hlocks : meth.locks = false) (hml : c.maxLocals = 4) (hA : ∀ q : Nat, s.heap.size ≤ q → A q) (hN : uN s) : ∀ (n : Nat) (x3 : Int32) (y1_0 : Int64) (y1_1 : Int64) (y2_0 : Int64) (y2_1 : Int64) (H : Heap) (locs : List Loc) (ls : Array Slot), mlk_T_writeTail n fd x3 → mlf_T_writeTail n fd x3 y1_0 y1_1 y2_0 y2_1 = F → va_K D classes [] s → va_P D classes [(f, .inr (4, [.int fb, .int fp, .int fl, .int fg, .int fd, .int ft, .int fh, .ref mn, .ref mp, .int fr, .ref lf])), (w, .inr (0, [.long y1_0, .long y1_1])), (lf, .inr (0, [.long y2_0, .long y2_1])), (b, .inr (0, [.long bh, .long bl]))] H → va_D A [(f, .inr (4, [.int fb, .int fp, .int fl, .int fg, .int fd, .int ft, .int fh, .ref mn, .ref mp, .int fr, .ref lf])), (w, .inr (0, [.long y1_0, .long y1_1])), (lf, .inr (0, [.long y2_0, .long y2_1])), (b, .inr (0, [.long bh, .long bl]))] → va_S A s.heap H locs → lv_has ls 4 [(3, .int x3), (0, .ref f), (1, .ref b), (2, .ref w)] → W p l e (headSpec (wsOf y_PatternBook_DecletDecimal_writeTail b_PatternBook_DecletDecimal_writeTail 4 (some .int)) ({ frames := 2, cells := 0, slots := 0, locals := 48 })).room s m args below meth c H locs (0) (0) (MQ below (uQ D classes (fun u : Int32 × Int64 × Int64 × Int64 × Int64 => some (.int u.1)) (fun u => u = F) A (fun _ => []) (fun u => [(f, .inr (4, [.int fb, .int fp, .int fl, .int fg, .int fd, .int ft, .int fh, .ref mn, .ref mp, .int fr, .ref lf])), (lf, .inr (0, [.long u.2.1, .long u.2.2.1])), (b, .inr (0, [.long bh, .long bl])), (w, .inr (0, [.long u.2.2.2.1, .long u.2.2.2.2]))])) args s 0 0 A) (F0 m 10 ls []) := by
  intro n
  induction n with
  | zero => intro x3 y1_0 y1_1 y2_0 y2_1 H locs ls hk; exact (show False from hk).elim
  | succ n ih =>
    intro x3 y1_0 y1_1 y2_0 y2_1 H locs ls hk hF hK hP hD hS hl
    unfold mlk_T_writeTail at hk
    refine lv_iload_n hx hb d_PatternBook_DecletDecimal_writeTail_10 rfl (lv_at hl 0 rfl) ?_
    refine lv_aload_n hx hb d_PatternBook_DecletDecimal_writeTail_11 rfl (lv_at hl 1 rfl) ?_
    refine va_get (D := D) (ci := 4) (v := .int fd) (C := R_PatternBook_DecletDecimal) (T := F_PatternBook_DecletDecimal) (N := 11) hx hb hts i_PatternBook_DecletDecimal hown hK hP 0 rfl rfl 4 (by decide) (hts _ k_214) (fun x9 h9 => u_same (hts _ k_213) x9 h9) rfl d_PatternBook_DecletDecimal_writeTail_12 ?_
    refine lv_icmp_ge (tgt := 43) hx hb d_PatternBook_DecletDecimal_writeTail_15 (by decide) (fun c_2 => ?_) (fun c_2 => ?_)
    · refine lv_aload_n hx hb d_PatternBook_DecletDecimal_writeTail_43 rfl (lv_at hl 1 rfl) ?_
      refine va_get (D := D) (ci := 4) (v := .ref lf) (C := R_PatternBook_DecletDecimal) (T := F_PatternBook_DecletDecimal) (N := 11) hx hb hts i_PatternBook_DecletDecimal hown hK hP 0 rfl rfl 10 (by decide) (hts _ k_223) (fun _ h9 => h9) rfl d_PatternBook_DecletDecimal_writeTail_44 ?_
      refine lv_iconst (v := 0) hx hb d_PatternBook_DecletDecimal_writeTail_47 (by decide) ?_
      refine uCall (WR := [(f, .inr (4, [.int fb, .int fp, .int fl, .int fg, .int fd, .int ft, .int fh, .ref mn, .ref mp, .int fr, .ref lf])), (w, .inr (0, [.long y1_0, .long y1_1])), (b, .inr (0, [.long bh, .long bl]))]) (RT := []) (va_runV (As := [.int (0:Int32)]) (rest := []) ⟨hx, hb, hml, hown, hts⟩ (c_W_half l D lf H.size false y2_0 y2_1) ⟨uCB 1 hts k_225 k_12 k_226 (by decide +kernel) rfl rfl ⟨Nat.le_of_ble_eq_true rfl, Nat.le_of_ble_eq_true rfl⟩, hts _ k_227, hts _ k_228⟩ (uPreV (ci := 0) (q0 := 2) hK hP hD hN [2] rfl (by decide) [] rfl rfl rfl) rfl rfl hl.1 rfl (lv_room (Nat.le_of_ble_eq_true rfl)) d_PatternBook_DecletDecimal_writeTail_48 ⟨(Nat.le_of_ble_eq_true rfl), (Nat.le_of_ble_eq_true rfl)⟩) hK hP hD hS hA [2] [0, 1, 3] rfl rfl (by decide) (by decide) [] rfl (fun u3 H locs hu3 hP hD hK hS => ?_)
      have hP : va_P D classes [(f, .inr (4, [.int fb, .int fp, .int fl, .int fg, .int fd, .int ft, .int fh, .ref mn, .ref mp, .int fr, .ref lf])), (w, .inr (0, [.long y1_0, .long y1_1])), (b, .inr (0, [.long bh, .long bl])), (lf, .inr (0, [.long y2_0, .long y2_1]))] H := hP
      have hD : va_D A [(f, .inr (4, [.int fb, .int fp, .int fl, .int fg, .int fd, .int ft, .int fh, .ref mn, .ref mp, .int fr, .ref lf])), (w, .inr (0, [.long y1_0, .long y1_1])), (b, .inr (0, [.long bh, .long bl])), (lf, .inr (0, [.long y2_0, .long y2_1]))] := hD
      have hK : va_K D classes [] s := hK
      refine W.eq (g2 := F0 m 51 ls [.long u3]) rfl ?_
      refine lv_l2i hx hb d_PatternBook_DecletDecimal_writeTail_51 rfl ?_
      refine W.iret hx hb hr ?_ hS.2.2 d_PatternBook_DecletDecimal_writeTail_52
      exact uEnd ((Int64.toInt32 u3), y2_0, y2_1, y1_0, y1_1) (hP.sub [0, 3, 2, 1] rfl) (hK.sub [] rfl) (hD.sub [0, 3, 2, 1] (by decide) rfl) hS (by have eu3 := hu3.symm; subst eu3; exact (show mlf_T_writeTail (n + 1) fd x3 y1_0 y1_1 y2_0 y2_1 = _ from (if_pos c_2).trans (rfl)).symm.trans hF) rfl
    · have hk := hk.2 c_2
      refine lv_aload_n hx hb d_PatternBook_DecletDecimal_writeTail_18 rfl (lv_at hl 3 rfl) ?_
      refine lv_bipush (v := 10) hx hb d_PatternBook_DecletDecimal_writeTail_19 (by decide) ?_
      refine lv_iload_n hx hb d_PatternBook_DecletDecimal_writeTail_21 rfl (lv_at hl 0 rfl) ?_
      refine lv_imul hx hb d_PatternBook_DecletDecimal_writeTail_22 ?_
      refine lv_aload_n hx hb d_PatternBook_DecletDecimal_writeTail_23 rfl (lv_at hl 1 rfl) ?_
      refine va_get (D := D) (ci := 4) (v := .ref lf) (C := R_PatternBook_DecletDecimal) (T := F_PatternBook_DecletDecimal) (N := 11) hx hb hts i_PatternBook_DecletDecimal hown hK hP 0 rfl rfl 10 (by decide) (hts _ k_223) (fun _ h9 => h9) rfl d_PatternBook_DecletDecimal_writeTail_24 ?_
      refine uCall (WR := [(f, .inr (4, [.int fb, .int fp, .int fl, .int fg, .int fd, .int ft, .int fh, .ref mn, .ref mp, .int fr, .ref lf])), (w, .inr (0, [.long y1_0, .long y1_1])), (b, .inr (0, [.long bh, .long bl]))]) (RT := []) (va_runV (As := []) (rest := [.int ((10:Int32) * x3), .ref w]) ⟨hx, hb, hml, hown, hts⟩ (c_W_take l D lf H.size y2_0 y2_1) ⟨uCB 0 hts k_229 k_12 k_230 (by decide +kernel) rfl rfl ⟨Nat.le_of_ble_eq_true rfl, Nat.le_of_ble_eq_true rfl⟩, hts _ k_231, hts _ k_232⟩ (uPreV (ci := 0) (q0 := 2) hK hP hD hN [2] rfl (by decide) [] rfl rfl rfl) rfl rfl hl.1 rfl (lv_room (Nat.le_of_ble_eq_true rfl)) d_PatternBook_DecletDecimal_writeTail_27 ⟨(Nat.le_of_ble_eq_true rfl), (Nat.le_of_ble_eq_true rfl)⟩) hK hP hD hS hA [2] [0, 1, 3] rfl rfl (by decide) (by decide) [] rfl (fun u4 H locs hu4 hP hD hK hS => ?_)
      have hP : va_P D classes [(f, .inr (4, [.int fb, .int fp, .int fl, .int fg, .int fd, .int ft, .int fh, .ref mn, .ref mp, .int fr, .ref lf])), (w, .inr (0, [.long y1_0, .long y1_1])), (b, .inr (0, [.long bh, .long bl])), (lf, .inr (0, [.long u4.2.1, .long u4.2.2]))] H := hP
      have hD : va_D A [(f, .inr (4, [.int fb, .int fp, .int fl, .int fg, .int fd, .int ft, .int fh, .ref mn, .ref mp, .int fr, .ref lf])), (w, .inr (0, [.long y1_0, .long y1_1])), (b, .inr (0, [.long bh, .long bl])), (lf, .inr (0, [.long u4.2.1, .long u4.2.2]))] := hD
      have hK : va_K D classes [] s := hK
      refine W.eq (g2 := F0 m 30 ls [.int u4.1, .int ((10:Int32) * x3), .ref w]) rfl ?_
      refine uCall (WR := [(f, .inr (4, [.int fb, .int fp, .int fl, .int fg, .int fd, .int ft, .int fh, .ref mn, .ref mp, .int fr, .ref lf])), (w, .inr (0, [.long y1_0, .long y1_1])), (b, .inr (0, [.long bh, .long bl])), (lf, .inr (0, [.long u4.2.1, .long u4.2.2]))]) (RT := []) (va_runS (As := [.int u4.1]) (rest := [.int ((10:Int32) * x3), .ref w]) ⟨hx, hb, hml, hown, hts⟩ (c_E_write l D H.size u4.1) ⟨uCB 1 hts k_233 k_35 k_234 (by decide +kernel) rfl rfl ⟨Nat.le_of_ble_eq_true rfl, Nat.le_of_ble_eq_true rfl⟩, hts _ k_235⟩ (uPreS hK hP hD hN [] rfl (by decide) [] rfl) rfl rfl hl.1 rfl (lv_room (Nat.le_of_ble_eq_true rfl)) d_PatternBook_DecletDecimal_writeTail_30 ⟨(Nat.le_of_ble_eq_true rfl), (Nat.le_of_ble_eq_true rfl)⟩) hK hP hD hS hA [] [0, 1, 2, 3] rfl rfl (by decide) (by decide) [] rfl (fun u5 H locs hu5 hP hD hK hS => ?_)
      have hP : va_P D classes [(f, .inr (4, [.int fb, .int fp, .int fl, .int fg, .int fd, .int ft, .int fh, .ref mn, .ref mp, .int fr, .ref lf])), (w, .inr (0, [.long y1_0, .long y1_1])), (b, .inr (0, [.long bh, .long bl])), (lf, .inr (0, [.long u4.2.1, .long u4.2.2]))] H := hP
      have hD : va_D A [(f, .inr (4, [.int fb, .int fp, .int fl, .int fg, .int fd, .int ft, .int fh, .ref mn, .ref mp, .int fr, .ref lf])), (w, .inr (0, [.long y1_0, .long y1_1])), (b, .inr (0, [.long bh, .long bl])), (lf, .inr (0, [.long u4.2.1, .long u4.2.2]))] := hD
      have hK : va_K D classes [] s := hK
      refine W.eq (g2 := F0 m 33 ls [.int u5, .int ((10:Int32) * x3), .ref w]) rfl ?_
      refine lv_i2l hx hb d_PatternBook_DecletDecimal_writeTail_33 rfl ?_
      refine uCall (WR := [(f, .inr (4, [.int fb, .int fp, .int fl, .int fg, .int fd, .int ft, .int fh, .ref mn, .ref mp, .int fr, .ref lf])), (b, .inr (0, [.long bh, .long bl])), (lf, .inr (0, [.long u4.2.1, .long u4.2.2]))]) (RT := []) (va_runV (As := [.int ((10:Int32) * x3), .long (Int32.toInt64 u5)]) (rest := []) ⟨hx, hb, hml, hown, hts⟩ (c_W_addBits l D w H.size ((10:Int32) * x3) (Int32.toInt64 u5) y1_0 y1_1) ⟨uCB 2 hts k_76 k_12 k_236 (by decide +kernel) rfl rfl ⟨Nat.le_of_ble_eq_true rfl, Nat.le_of_ble_eq_true rfl⟩, hts _ k_78, hts _ k_79⟩ (uPreV (ci := 0) (q0 := 1) hK hP hD hN [1] rfl (by decide) [] rfl rfl rfl) rfl rfl hl.1 rfl (lv_room (Nat.le_of_ble_eq_true rfl)) d_PatternBook_DecletDecimal_writeTail_34 ⟨(Nat.le_of_ble_eq_true rfl), (Nat.le_of_ble_eq_true rfl)⟩) hK hP hD hS hA [1] [0, 2, 3] rfl rfl (by decide) (by decide) [] rfl (fun u6 H locs hu6 hP hD hK hS => ?_)
      have hP : va_P D classes [(f, .inr (4, [.int fb, .int fp, .int fl, .int fg, .int fd, .int ft, .int fh, .ref mn, .ref mp, .int fr, .ref lf])), (b, .inr (0, [.long bh, .long bl])), (lf, .inr (0, [.long u4.2.1, .long u4.2.2])), (w, .inr (0, [.long u6.1, .long u6.2]))] H := hP
      have hD : va_D A [(f, .inr (4, [.int fb, .int fp, .int fl, .int fg, .int fd, .int ft, .int fh, .ref mn, .ref mp, .int fr, .ref lf])), (b, .inr (0, [.long bh, .long bl])), (lf, .inr (0, [.long u4.2.1, .long u4.2.2])), (w, .inr (0, [.long u6.1, .long u6.2]))] := hD
      have hK : va_K D classes [] s := hK
      refine W.eq (g2 := F0 m 37 ls []) rfl ?_
      refine lv_iinc (v := (x3 + (1:Int32))) (lv' := [(3, .int (x3 + (1:Int32))), (0, .ref f), (1, .ref b), (2, .ref w)]) hx hb d_PatternBook_DecletDecimal_writeTail_37 hl (k := 0) rfl rfl (by decide) rfl (fun ls hl => ?_)
      refine lv_goto (tgt := 10) hx hb d_PatternBook_DecletDecimal_writeTail_40 (by decide) ?_
      exact ih (x3 + (1:Int32)) u6.1 u6.2 u4.2.1 u4.2.2 _ _ _ hk (by have eu4 := hu4.symm; subst eu4; have eu5 := hu5.symm; subst eu5; have eu6 := hu6.symm; subst eu6; exact (show mlf_T_writeTail (n + 1) fd x3 y1_0 y1_1 y2_0 y2_1 = _ from (if_neg c_2).trans (rfl)).symm.trans hF) (hK.sub [] rfl) (hP.sub [0, 3, 2, 1] rfl) (hD.sub [0, 3, 2, 1] (by decide) rfl) hS (lv_sub hl [0, 1, 2, 3] rfl)
set_option maxHeartbeats 4000000 in
set_option maxRecDepth 100000 in
/-- PatternBook$DecletDecimal.writeTail(LPatternBook$Wide;LPatternBook$Wide;)I -/
theorem c_T_writeTail (l : Launch) (D : va_G) (f : Nat) (b : Nat) (w : Nat) (mn : Nat) (mp : Nat) (lf : Nat) (sz : Nat) (fb : Int32) (fp : Int32) (fl : Int32) (fg : Int32) (fd : Int32) (ft : Int32) (fh : Int32) (fr : Int32) (lfh : Int64) (lfl : Int64) (bh : Int64) (bl : Int64) (wh : Int64) (wl : Int64) (hk : mok_T_writeTail fd) : Met l y_PatternBook_DecletDecimal_writeTail (wsOf y_PatternBook_DecletDecimal_writeTail b_PatternBook_DecletDecimal_writeTail 4 (some .int)) ({ frames := 2, cells := 0, slots := 0, locals := 48 }) (uP D classes [(f, .inr (4, [.int fb, .int fp, .int fl, .int fg, .int fd, .int ft, .int fh, .ref mn, .ref mp, .int fr, .ref lf])), (lf, .inr (0, [.long lfh, .long lfl])), (b, .inr (0, [.long bh, .long bl])), (w, .inr (0, [.long wh, .long wl]))] [] sz [.ref f, .ref b, .ref w]) (uQ D classes (fun u : Int32 × Int64 × Int64 × Int64 × Int64 => some (.int u.1)) (fun u => u = (sl m_T_writeTail) fd bh bl wh wl) (va_A [(f, .inr (4, [.int fb, .int fp, .int fl, .int fg, .int fd, .int ft, .int fh, .ref mn, .ref mp, .int fr, .ref lf])), (lf, .inr (0, [.long lfh, .long lfl])), (b, .inr (0, [.long bh, .long bl])), (w, .inr (0, [.long wh, .long wl]))] sz) (fun _ => []) (fun u => [(f, .inr (4, [.int fb, .int fp, .int fl, .int fg, .int fd, .int ft, .int fh, .ref mn, .ref mp, .int fr, .ref lf])), (lf, .inr (0, [.long u.2.1, .long u.2.2.1])), (b, .inr (0, [.long bh, .long bl])), (w, .inr (0, [.long u.2.2.2.1, .long u.2.2.2.2]))])) 0 0 (va_A [(f, .inr (4, [.int fb, .int fp, .int fl, .int fg, .int fd, .int ft, .int fh, .ref mn, .ref mp, .int fr, .ref lf])), (lf, .inr (0, [.long lfh, .long lfl])), (b, .inr (0, [.long bh, .long bl])), (w, .inr (0, [.long wh, .long wl]))] sz) := by
  rw [sl_eq m_T_writeTail]
  refine uBegin (by decide +kernel) (Nat.le_of_ble_eq_true rfl) ?_
  intro p e s m below meth c A ls H locs hx hb hr hts hown hlocks hml hin hA hP hK hD hN hS hl
  have hl : lv_has ls 4 [(0, .ref f), (1, .ref b), (2, .ref w)] := hl
  unfold mok_T_writeTail at hk
  refine lv_aload_n hx hb d_PatternBook_DecletDecimal_writeTail_0 rfl (lv_at hl 0 rfl) ?_
  refine va_get (D := D) (ci := 4) (v := .ref lf) (C := R_PatternBook_DecletDecimal) (T := F_PatternBook_DecletDecimal) (N := 11) hx hb hts i_PatternBook_DecletDecimal hown hK hP 0 rfl rfl 10 (by decide) (hts _ k_223) (fun _ h9 => h9) rfl d_PatternBook_DecletDecimal_writeTail_1 ?_
  refine lv_aload_n hx hb d_PatternBook_DecletDecimal_writeTail_4 rfl (lv_at hl 1 rfl) ?_
  refine uCall (WR := [(f, .inr (4, [.int fb, .int fp, .int fl, .int fg, .int fd, .int ft, .int fh, .ref mn, .ref mp, .int fr, .ref lf])), (w, .inr (0, [.long wh, .long wl]))]) (RT := []) (va_runV (As := [.ref b]) (rest := []) ⟨hx, hb, hml, hown, hts⟩ (c_W_copy l D lf b H.size lfh lfl bh bl) ⟨uCB 1 hts k_71 k_12 k_224 (by decide +kernel) rfl rfl ⟨Nat.le_of_ble_eq_true rfl, Nat.le_of_ble_eq_true rfl⟩, hts _ k_73, hts _ k_74⟩ (uPreV (ci := 0) (q0 := 1) hK hP hD hN [1, 2] rfl (by decide) [] rfl rfl rfl) rfl rfl hl.1 rfl (lv_room (Nat.le_of_ble_eq_true rfl)) d_PatternBook_DecletDecimal_writeTail_5 ⟨(Nat.le_of_ble_eq_true rfl), (Nat.le_of_ble_eq_true rfl)⟩) hK hP hD hS hA [1, 2] [0, 3] rfl rfl (by decide) (by decide) [] rfl (fun u1 H locs hu1 hP hD hK hS => ?_)
  have hP : va_P D classes [(f, .inr (4, [.int fb, .int fp, .int fl, .int fg, .int fd, .int ft, .int fh, .ref mn, .ref mp, .int fr, .ref lf])), (w, .inr (0, [.long wh, .long wl])), (lf, .inr (0, [.long u1.1, .long u1.2])), (b, .inr (0, [.long bh, .long bl]))] H := hP
  have hD : va_D A [(f, .inr (4, [.int fb, .int fp, .int fl, .int fg, .int fd, .int ft, .int fh, .ref mn, .ref mp, .int fr, .ref lf])), (w, .inr (0, [.long wh, .long wl])), (lf, .inr (0, [.long u1.1, .long u1.2])), (b, .inr (0, [.long bh, .long bl]))] := hD
  have hK : va_K D classes [] s := hK
  refine W.eq (g2 := F0 m 8 ls []) rfl ?_
  refine lv_iconst (v := 0) hx hb d_PatternBook_DecletDecimal_writeTail_8 (by decide) ?_
  refine lv_istore_n (lv' := [(3, .int (0:Int32)), (0, .ref f), (1, .ref b), (2, .ref w)]) hx hb d_PatternBook_DecletDecimal_writeTail_9 rfl hl (by decide) rfl (fun ls hl => ?_)
  exact lp_T_writeTail l D f b w mn mp lf fb fp fl fg fd ft fh fr lfh lfl bh bl wh wl hx hb hr hts hown hlocks hml hA hN 40 (0:Int32) wh wl u1.1 u1.2 _ _ _ hk (by have eu1 := hu1.symm; subst eu1; exact (rfl).symm) hK hP hD hS hl
set_option maxHeartbeats 4000000 in
set_option maxRecDepth 100000 in
/-- PatternBook$Decimal.readUnsigned(LPatternBook$Wide;LPatternBook$Datum;)V -/
theorem c_T_readU (l : Launch) (D : va_G) (f : Nat) (w : Nat) (d : Nat) (mn : Nat) (mp : Nat) (lf : Nat) (b : Nat) (sz : Nat) (fb : Int32) (fp : Int32) (fl : Int32) (fg : Int32) (fd : Int32) (ft : Int32) (fh : Int32) (fr : Int32) (mnh : Int64) (mnl : Int64) (mph : Int64) (mpl : Int64) (wh : Int64) (wl : Int64) (kd : Int32) (ng : Bool) (ex : Int32) (bh : Int64) (bl : Int64) (hk : mok_T_readU fd) : Met l y_PatternBook_Decimal_readUnsigned (wsOf y_PatternBook_Decimal_readUnsigned b_PatternBook_Decimal_readUnsigned 8 none) ({ frames := 4, cells := 0, slots := 0, locals := 95 }) (uP D classes [(f, .inr (4, [.int fb, .int fp, .int fl, .int fg, .int fd, .int ft, .int fh, .ref mn, .ref mp, .int fr, .ref lf])), (mn, .inr (0, [.long mnh, .long mnl])), (mp, .inr (0, [.long mph, .long mpl])), (w, .inr (0, [.long wh, .long wl])), (d, .inr (1, [.int kd, .int (bI ng), .int ex, .ref b])), (b, .inr (0, [.long bh, .long bl]))] [] sz [.ref f, .ref w, .ref d]) (uQ D classes (fun _ : Int32 × Int32 × Int64 × Int64 => none) (fun u => u = (sl m_T_readU) fl fd ft fh fr wh wl bh bl) (va_A [(f, .inr (4, [.int fb, .int fp, .int fl, .int fg, .int fd, .int ft, .int fh, .ref mn, .ref mp, .int fr, .ref lf])), (mn, .inr (0, [.long mnh, .long mnl])), (mp, .inr (0, [.long mph, .long mpl])), (w, .inr (0, [.long wh, .long wl])), (d, .inr (1, [.int kd, .int (bI ng), .int ex, .ref b])), (b, .inr (0, [.long bh, .long bl]))] sz) (fun _ => []) (fun u => [(f, .inr (4, [.int fb, .int fp, .int fl, .int fg, .int fd, .int ft, .int fh, .ref mn, .ref mp, .int fr, .ref lf])), (mn, .inr (0, [.long mnh, .long mnl])), (mp, .inr (0, [.long mph, .long mpl])), (w, .inr (0, [.long wh, .long wl])), (d, .inr (1, [.int u.1, .int (bI ng), .int u.2.1, .ref b])), (b, .inr (0, [.long u.2.2.1, .long u.2.2.2]))])) 0 0 (va_A [(f, .inr (4, [.int fb, .int fp, .int fl, .int fg, .int fd, .int ft, .int fh, .ref mn, .ref mp, .int fr, .ref lf])), (mn, .inr (0, [.long mnh, .long mnl])), (mp, .inr (0, [.long mph, .long mpl])), (w, .inr (0, [.long wh, .long wl])), (d, .inr (1, [.int kd, .int (bI ng), .int ex, .ref b])), (b, .inr (0, [.long bh, .long bl]))] sz) := by
  rw [sl_eq m_T_readU]
  refine uBegin (by decide +kernel) (Nat.le_of_ble_eq_true rfl) ?_
  intro p e s m below meth c A ls H locs hx hb hr hts hown hlocks hml hin hA hP hK hD hN hS hl
  have hl : lv_has ls 8 [(0, .ref f), (1, .ref w), (2, .ref d)] := hl
  unfold mok_T_readU at hk
  refine lv_aload_n hx hb d_PatternBook_Decimal_readUnsigned_0 rfl (lv_at hl 1 rfl) ?_
  refine lv_aload_n hx hb d_PatternBook_Decimal_readUnsigned_1 rfl (lv_at hl 0 rfl) ?_
  refine va_get (D := D) (ci := 4) (v := .int ft) (C := R_PatternBook_DecletDecimal) (T := F_PatternBook_DecletDecimal) (N := 11) hx hb hts i_PatternBook_DecletDecimal hown hK hP 0 rfl rfl 5 (by decide) (hts _ k_159) (fun _ h9 => h9) rfl d_PatternBook_Decimal_readUnsigned_2 ?_
  refine lv_aload_n hx hb d_PatternBook_Decimal_readUnsigned_5 rfl (lv_at hl 0 rfl) ?_
  refine va_get (D := D) (ci := 4) (v := .int fh) (C := R_PatternBook_DecletDecimal) (T := F_PatternBook_DecletDecimal) (N := 11) hx hb hts i_PatternBook_DecletDecimal hown hK hP 0 rfl rfl 6 (by decide) (hts _ k_121) (fun _ h9 => h9) rfl d_PatternBook_Decimal_readUnsigned_6 ?_
  refine uCall (WR := [(f, .inr (4, [.int fb, .int fp, .int fl, .int fg, .int fd, .int ft, .int fh, .ref mn, .ref mp, .int fr, .ref lf])), (mn, .inr (0, [.long mnh, .long mnl])), (mp, .inr (0, [.long mph, .long mpl])), (d, .inr (1, [.int kd, .int (bI ng), .int ex, .ref b])), (b, .inr (0, [.long bh, .long bl]))]) (RT := []) (va_runV (As := [.int ft, .int fh]) (rest := []) ⟨hx, hb, hml, hown, hts⟩ (c_W_bitsAt l D w H.size ft fh wh wl) ⟨uCB 2 hts k_57 k_12 k_160 (by decide +kernel) rfl rfl ⟨Nat.le_of_ble_eq_true rfl, Nat.le_of_ble_eq_true rfl⟩, hts _ k_59, hts _ k_60⟩ (uPreV (ci := 0) (q0 := 3) hK hP hD hN [3] rfl (by decide) [] rfl rfl rfl) rfl rfl hl.1 rfl (lv_room (Nat.le_of_ble_eq_true rfl)) d_PatternBook_Decimal_readUnsigned_9 ⟨(Nat.le_of_ble_eq_true rfl), (Nat.le_of_ble_eq_true rfl)⟩) hK hP hD hS hA [3] [0, 1, 2, 4, 5] rfl rfl (by decide) (by decide) [] rfl (fun u1 H locs hu1 hP hD hK hS => ?_)
  have hP : va_P D classes [(f, .inr (4, [.int fb, .int fp, .int fl, .int fg, .int fd, .int ft, .int fh, .ref mn, .ref mp, .int fr, .ref lf])), (mn, .inr (0, [.long mnh, .long mnl])), (mp, .inr (0, [.long mph, .long mpl])), (d, .inr (1, [.int kd, .int (bI ng), .int ex, .ref b])), (b, .inr (0, [.long bh, .long bl])), (w, .inr (0, [.long wh, .long wl]))] H := hP
  have hD : va_D A [(f, .inr (4, [.int fb, .int fp, .int fl, .int fg, .int fd, .int ft, .int fh, .ref mn, .ref mp, .int fr, .ref lf])), (mn, .inr (0, [.long mnh, .long mnl])), (mp, .inr (0, [.long mph, .long mpl])), (d, .inr (1, [.int kd, .int (bI ng), .int ex, .ref b])), (b, .inr (0, [.long bh, .long bl])), (w, .inr (0, [.long wh, .long wl]))] := hD
  have hK : va_K D classes [] s := hK
  refine W.eq (g2 := F0 m 12 ls [.long u1]) rfl ?_
  refine lv_lstore_n (lv' := [(3, .long u1), (0, .ref f), (1, .ref w), (2, .ref d)]) hx hb d_PatternBook_Decimal_readUnsigned_12 rfl hl (by decide) rfl (fun ls hl => ?_)
  refine lv_lload_n hx hb d_PatternBook_Decimal_readUnsigned_13 rfl (lv_at hl 0 rfl) ?_
  refine lv_aload_n hx hb d_PatternBook_Decimal_readUnsigned_14 rfl (lv_at hl 1 rfl) ?_
  refine va_get (D := D) (ci := 4) (v := .int fh) (C := R_PatternBook_DecletDecimal) (T := F_PatternBook_DecletDecimal) (N := 11) hx hb hts i_PatternBook_DecletDecimal hown hK hP 0 rfl rfl 6 (by decide) (hts _ k_121) (fun _ h9 => h9) rfl d_PatternBook_Decimal_readUnsigned_15 ?_
  refine lv_iconst (v := 5) hx hb d_PatternBook_Decimal_readUnsigned_18 (by decide) ?_
  refine lv_isub hx hb d_PatternBook_Decimal_readUnsigned_19 ?_
  refine lv_lushr (v := lushr_ u1 (fh - (5:Int32))) hx hb d_PatternBook_Decimal_readUnsigned_20 rfl ?_
  refine lv_lstore (lv' := [(5, .long (lushr_ u1 (fh - (5:Int32)))), (3, .long u1), (0, .ref f), (1, .ref w), (2, .ref d)]) hx hb d_PatternBook_Decimal_readUnsigned_21 hl (by decide) rfl (fun ls hl => ?_)
  refine lv_lload hx hb d_PatternBook_Decimal_readUnsigned_23 (lv_at hl 0 rfl) ?_
  refine lv_ldc2 (v := 31) hx hb hown (hts _ k_149) d_PatternBook_Decimal_readUnsigned_25 ?_
  refine W.lcmp hx hb d_PatternBook_Decimal_readUnsigned_28 ?_
  refine lv_if_ne (tgt := 87) hx hb d_PatternBook_Decimal_readUnsigned_29 (by decide) (fun c_2 => ?_) (fun c_2 => ?_)
  · refine lv_lload hx hb d_PatternBook_Decimal_readUnsigned_87 (lv_at hl 0 rfl) ?_
    refine lv_ldc2 (v := 30) hx hb hown (hts _ k_148) d_PatternBook_Decimal_readUnsigned_89 ?_
    refine W.lcmp hx hb d_PatternBook_Decimal_readUnsigned_92 ?_
    refine lv_if_ne (tgt := 105) hx hb d_PatternBook_Decimal_readUnsigned_93 (by decide) (fun c_3 => ?_) (fun c_3 => ?_)
    · refine lv_aload_n hx hb d_PatternBook_Decimal_readUnsigned_105 rfl (lv_at hl 2 rfl) ?_
      refine lv_aload_n hx hb d_PatternBook_Decimal_readUnsigned_106 rfl (lv_at hl 2 rfl) ?_
      refine lv_lload_n hx hb d_PatternBook_Decimal_readUnsigned_107 rfl (lv_at hl 1 rfl) ?_
      refine uCall (WR := [(mn, .inr (0, [.long mnh, .long mnl])), (mp, .inr (0, [.long mph, .long mpl])), (d, .inr (1, [.int kd, .int (bI ng), .int ex, .ref b])), (b, .inr (0, [.long bh, .long bl])), (w, .inr (0, [.long wh, .long wl]))]) (RT := []) (va_runU (As := [.long u1]) (rest := [.ref f]) ⟨hx, hb, hml, hown, hts⟩ (c_T_leadOf l D f mn mp lf H.size u1 fb fp fl fg fd ft fh fr) (uCU (x := ⟨R_PatternBook_Decimal, "leadOf", "(J)I"⟩) (owner := R_PatternBook_Decimal) 1 hts k_237 k_209 k_162 k_163 (va_Decl.abs (hN _ kn_16)) k_238 k_239 (by decide +kernel) rfl rfl ⟨Nat.le_of_ble_eq_true rfl, Nat.le_of_ble_eq_true rfl⟩) (uPreV (ci := 4) (q0 := 0) hK hP hD hN [0] rfl (by decide) [] rfl rfl rfl) rfl rfl hl.1 rfl (lv_room (Nat.le_of_ble_eq_true rfl)) d_PatternBook_Decimal_readUnsigned_108 ⟨(Nat.le_of_ble_eq_true rfl), (Nat.le_of_ble_eq_true rfl)⟩) hK hP hD hS hA [0] [1, 2, 3, 4, 5] rfl rfl (by decide) (by decide) [] rfl (fun u4 H locs hu4 hP hD hK hS => ?_)
      have hP : va_P D classes [(mn, .inr (0, [.long mnh, .long mnl])), (mp, .inr (0, [.long mph, .long mpl])), (d, .inr (1, [.int kd, .int (bI ng), .int ex, .ref b])), (b, .inr (0, [.long bh, .long bl])), (w, .inr (0, [.long wh, .long wl])), (f, .inr (4, [.int fb, .int fp, .int fl, .int fg, .int fd, .int ft, .int fh, .ref mn, .ref mp, .int fr, .ref lf]))] H := hP
      have hD : va_D A [(mn, .inr (0, [.long mnh, .long mnl])), (mp, .inr (0, [.long mph, .long mpl])), (d, .inr (1, [.int kd, .int (bI ng), .int ex, .ref b])), (b, .inr (0, [.long bh, .long bl])), (w, .inr (0, [.long wh, .long wl])), (f, .inr (4, [.int fb, .int fp, .int fl, .int fg, .int fd, .int ft, .int fh, .ref mn, .ref mp, .int fr, .ref lf]))] := hD
      have hK : va_K D classes [] s := hK
      refine W.eq (g2 := F0 m 111 ls [.int u4, .ref f]) rfl ?_
      refine lv_aload_n hx hb d_PatternBook_Decimal_readUnsigned_111 rfl (lv_at hl 2 rfl) ?_
      refine va_get (D := D) (ci := 4) (v := .ref mn) (C := R_PatternBook_DecletDecimal) (T := F_PatternBook_DecletDecimal) (N := 11) hx hb hts i_PatternBook_DecletDecimal hown hK hP 5 rfl rfl 7 (by decide) (hts _ k_134) (fun _ h9 => h9) rfl d_PatternBook_Decimal_readUnsigned_112 ?_
      refine lv_aload_n hx hb d_PatternBook_Decimal_readUnsigned_115 rfl (lv_at hl 3 rfl) ?_
      refine lv_aload_n hx hb d_PatternBook_Decimal_readUnsigned_116 rfl (lv_at hl 4 rfl) ?_
      refine va_getN (D := D) (ci := 1) (v := .ref b) (C := R_PatternBook_Datum) (T := F_PatternBook_Datum) (N := 4) hx hb hts i_PatternBook_Datum hown hK hP 2 rfl rfl 3 (by decide) (va_Nw.use rfl (hN _ kn_12)) (fun _ h9 => h9) rfl d_PatternBook_Decimal_readUnsigned_117 ?_
      have ho5 := hk
      refine uCall (WR := [(mn, .inr (0, [.long mnh, .long mnl])), (mp, .inr (0, [.long mph, .long mpl])), (d, .inr (1, [.int kd, .int (bI ng), .int ex, .ref b]))]) (RT := []) (va_runU (As := [.int u4, .ref mn, .ref w, .ref b]) (rest := []) ⟨hx, hb, hml, hown, hts⟩ (c_T_readBody l D f mn w b mn mp lf H.size u4 fb fp fl fg fd ft fh fr wh wl bh bl ho5) (uCU (x := ⟨R_PatternBook_Decimal, "readBody", "(ILPatternBook$Wide;LPatternBook$Wide;LPatternBook$Wide;)V"⟩) (owner := R_PatternBook_Decimal) 4 hts k_240 k_209 k_167 k_168 (va_Decl.abs (hN _ kn_17)) k_241 k_242 (by decide +kernel) rfl rfl ⟨Nat.le_of_ble_eq_true rfl, Nat.le_of_ble_eq_true rfl⟩) (uPreV (ci := 4) (q0 := 5) hK hP hD hN [5, 4, 3] rfl (by decide) [] rfl rfl rfl) rfl rfl hl.1 rfl (lv_room (Nat.le_of_ble_eq_true rfl)) d_PatternBook_Decimal_readUnsigned_120 ⟨(Nat.le_of_ble_eq_true rfl), (Nat.le_of_ble_eq_true rfl)⟩) hK hP hD hS hA [5, 4, 3] [0, 1, 2] rfl rfl (by decide) (by decide) [] rfl (fun u5 H locs hu5 hP hD hK hS => ?_)
      have hP : va_P D classes [(mn, .inr (0, [.long mnh, .long mnl])), (mp, .inr (0, [.long mph, .long mpl])), (d, .inr (1, [.int kd, .int (bI ng), .int ex, .ref b])), (f, .inr (4, [.int fb, .int fp, .int fl, .int fg, .int fd, .int ft, .int fh, .ref mn, .ref mp, .int fr, .ref lf])), (w, .inr (0, [.long wh, .long wl])), (b, .inr (0, [.long u5.1, .long u5.2]))] H := hP
      have hD : va_D A [(mn, .inr (0, [.long mnh, .long mnl])), (mp, .inr (0, [.long mph, .long mpl])), (d, .inr (1, [.int kd, .int (bI ng), .int ex, .ref b])), (f, .inr (4, [.int fb, .int fp, .int fl, .int fg, .int fd, .int ft, .int fh, .ref mn, .ref mp, .int fr, .ref lf])), (w, .inr (0, [.long wh, .long wl])), (b, .inr (0, [.long u5.1, .long u5.2]))] := hD
      have hK : va_K D classes [] s := hK
      refine W.eq (g2 := F0 m 123 ls []) rfl ?_
      refine lv_aload_n hx hb d_PatternBook_Decimal_readUnsigned_123 rfl (lv_at hl 4 rfl) ?_
      refine lv_iconst (v := 0) hx hb d_PatternBook_Decimal_readUnsigned_124 (by decide) ?_
      refine lv_aload_n hx hb d_PatternBook_Decimal_readUnsigned_125 rfl (lv_at hl 2 rfl) ?_
      refine lv_lload_n hx hb d_PatternBook_Decimal_readUnsigned_126 rfl (lv_at hl 1 rfl) ?_
      refine uCall (WR := [(mn, .inr (0, [.long mnh, .long mnl])), (mp, .inr (0, [.long mph, .long mpl])), (d, .inr (1, [.int kd, .int (bI ng), .int ex, .ref b])), (w, .inr (0, [.long wh, .long wl])), (b, .inr (0, [.long u5.1, .long u5.2]))]) (RT := []) (va_runU (As := [.long u1]) (rest := [.int (0:Int32), .ref d]) ⟨hx, hb, hml, hown, hts⟩ (c_T_fieldOf l D f mn mp lf H.size u1 fb fp fl fg fd ft fh fr) (uCU (x := ⟨R_PatternBook_Decimal, "fieldOf", "(J)J"⟩) (owner := R_PatternBook_Decimal) 1 hts k_243 k_209 k_172 k_173 (va_Decl.abs (hN _ kn_18)) k_244 k_245 (by decide +kernel) rfl rfl ⟨Nat.le_of_ble_eq_true rfl, Nat.le_of_ble_eq_true rfl⟩) (uPreV (ci := 4) (q0 := 3) hK hP hD hN [3] rfl (by decide) [] rfl rfl rfl) rfl rfl hl.1 rfl (lv_room (Nat.le_of_ble_eq_true rfl)) d_PatternBook_Decimal_readUnsigned_127 ⟨(Nat.le_of_ble_eq_true rfl), (Nat.le_of_ble_eq_true rfl)⟩) hK hP hD hS hA [3] [0, 1, 2, 4, 5] rfl rfl (by decide) (by decide) [] rfl (fun u6 H locs hu6 hP hD hK hS => ?_)
      have hP : va_P D classes [(mn, .inr (0, [.long mnh, .long mnl])), (mp, .inr (0, [.long mph, .long mpl])), (d, .inr (1, [.int kd, .int (bI ng), .int ex, .ref b])), (w, .inr (0, [.long wh, .long wl])), (b, .inr (0, [.long u5.1, .long u5.2])), (f, .inr (4, [.int fb, .int fp, .int fl, .int fg, .int fd, .int ft, .int fh, .ref mn, .ref mp, .int fr, .ref lf]))] H := hP
      have hD : va_D A [(mn, .inr (0, [.long mnh, .long mnl])), (mp, .inr (0, [.long mph, .long mpl])), (d, .inr (1, [.int kd, .int (bI ng), .int ex, .ref b])), (w, .inr (0, [.long wh, .long wl])), (b, .inr (0, [.long u5.1, .long u5.2])), (f, .inr (4, [.int fb, .int fp, .int fl, .int fg, .int fd, .int ft, .int fh, .ref mn, .ref mp, .int fr, .ref lf]))] := hD
      have hK : va_K D classes [] s := hK
      refine W.eq (g2 := F0 m 130 ls [.long u6, .int (0:Int32), .ref d]) rfl ?_
      refine lv_l2i hx hb d_PatternBook_Decimal_readUnsigned_130 rfl ?_
      refine lv_aload_n hx hb d_PatternBook_Decimal_readUnsigned_131 rfl (lv_at hl 2 rfl) ?_
      refine va_get (D := D) (ci := 4) (v := .int fl) (C := R_PatternBook_DecletDecimal) (T := F_PatternBook_DecletDecimal) (N := 11) hx hb hts i_PatternBook_DecletDecimal hown hK hP 5 rfl rfl 2 (by decide) (hts _ k_141) (fun x9 h9 => u_same (hts _ k_140) x9 h9) rfl d_PatternBook_Decimal_readUnsigned_132 ?_
      refine lv_iadd hx hb d_PatternBook_Decimal_readUnsigned_135 ?_
      refine uCall (WR := [(mn, .inr (0, [.long mnh, .long mnl])), (mp, .inr (0, [.long mph, .long mpl])), (w, .inr (0, [.long wh, .long wl])), (f, .inr (4, [.int fb, .int fp, .int fl, .int fg, .int fd, .int ft, .int fh, .ref mn, .ref mp, .int fr, .ref lf]))]) (RT := []) (va_runV (As := [.int (0:Int32), .int ((Int64.toInt32 u6) + fl)]) (rest := []) ⟨hx, hb, hml, hown, hts⟩ (c_D_become l D d b H.size (0:Int32) ((Int64.toInt32 u6) + fl) kd ng ex u5.1 u5.2) ⟨uCB 2 hts k_65 k_66 k_176 (by decide +kernel) rfl rfl ⟨Nat.le_of_ble_eq_true rfl, Nat.le_of_ble_eq_true rfl⟩, hts _ k_68, hts _ k_69⟩ (uPreV (ci := 1) (q0 := 2) hK hP hD hN [2, 4] rfl (by decide) [] rfl rfl rfl) rfl rfl hl.1 rfl (lv_room (Nat.le_of_ble_eq_true rfl)) d_PatternBook_Decimal_readUnsigned_136 ⟨(Nat.le_of_ble_eq_true rfl), (Nat.le_of_ble_eq_true rfl)⟩) hK hP hD hS hA [2, 4] [0, 1, 3, 5] rfl rfl (by decide) (by decide) [] rfl (fun u7 H locs hu7 hP hD hK hS => ?_)
      have hP : va_P D classes [(mn, .inr (0, [.long mnh, .long mnl])), (mp, .inr (0, [.long mph, .long mpl])), (w, .inr (0, [.long wh, .long wl])), (f, .inr (4, [.int fb, .int fp, .int fl, .int fg, .int fd, .int ft, .int fh, .ref mn, .ref mp, .int fr, .ref lf])), (d, .inr (1, [.int u7.1, .int (bI ng), .int u7.2.1, .ref b])), (b, .inr (0, [.long u7.2.2.1, .long u7.2.2.2]))] H := hP
      have hD : va_D A [(mn, .inr (0, [.long mnh, .long mnl])), (mp, .inr (0, [.long mph, .long mpl])), (w, .inr (0, [.long wh, .long wl])), (f, .inr (4, [.int fb, .int fp, .int fl, .int fg, .int fd, .int ft, .int fh, .ref mn, .ref mp, .int fr, .ref lf])), (d, .inr (1, [.int u7.1, .int (bI ng), .int u7.2.1, .ref b])), (b, .inr (0, [.long u7.2.2.1, .long u7.2.2.2]))] := hD
      have hK : va_K D classes [] s := hK
      refine W.eq (g2 := F0 m 139 ls []) rfl ?_
      refine W.vret hx hb hr ?_ hS.2.2 d_PatternBook_Decimal_readUnsigned_139
      exact uEnd (u7.1, u7.2.1, u7.2.2.1, u7.2.2.2) (hP.sub [3, 0, 1, 2, 4, 5] rfl) (hK.sub [] rfl) (hD.sub [3, 0, 1, 2, 4, 5] (by decide) rfl) hS (by have eu1 := hu1.symm; subst eu1; have eu4 := hu4.symm; subst eu4; have eu5 := hu5.symm; subst eu5; have eu6 := hu6.symm; subst eu6; have eu7 := hu7.symm; subst eu7; exact ((if_neg c_2).trans ((if_neg c_3).trans (rfl))).symm) rfl
    · refine lv_aload_n hx hb d_PatternBook_Decimal_readUnsigned_96 rfl (lv_at hl 4 rfl) ?_
      refine lv_iconst (v := 1) hx hb d_PatternBook_Decimal_readUnsigned_97 (by decide) ?_
      refine lv_iconst (v := 0) hx hb d_PatternBook_Decimal_readUnsigned_98 (by decide) ?_
      refine uCall (WR := [(f, .inr (4, [.int fb, .int fp, .int fl, .int fg, .int fd, .int ft, .int fh, .ref mn, .ref mp, .int fr, .ref lf])), (mn, .inr (0, [.long mnh, .long mnl])), (mp, .inr (0, [.long mph, .long mpl])), (w, .inr (0, [.long wh, .long wl]))]) (RT := []) (va_runV (As := [.int (1:Int32), .int (0:Int32)]) (rest := []) ⟨hx, hb, hml, hown, hts⟩ (c_D_become l D d b H.size (1:Int32) (0:Int32) kd ng ex bh bl) ⟨uCB 2 hts k_65 k_66 k_176 (by decide +kernel) rfl rfl ⟨Nat.le_of_ble_eq_true rfl, Nat.le_of_ble_eq_true rfl⟩, hts _ k_68, hts _ k_69⟩ (uPreV (ci := 1) (q0 := 3) hK hP hD hN [3, 4] rfl (by decide) [] rfl rfl rfl) rfl rfl hl.1 rfl (lv_room (Nat.le_of_ble_eq_true rfl)) d_PatternBook_Decimal_readUnsigned_99 ⟨(Nat.le_of_ble_eq_true rfl), (Nat.le_of_ble_eq_true rfl)⟩) hK hP hD hS hA [3, 4] [0, 1, 2, 5] rfl rfl (by decide) (by decide) [] rfl (fun u8 H locs hu8 hP hD hK hS => ?_)
      have hP : va_P D classes [(f, .inr (4, [.int fb, .int fp, .int fl, .int fg, .int fd, .int ft, .int fh, .ref mn, .ref mp, .int fr, .ref lf])), (mn, .inr (0, [.long mnh, .long mnl])), (mp, .inr (0, [.long mph, .long mpl])), (w, .inr (0, [.long wh, .long wl])), (d, .inr (1, [.int u8.1, .int (bI ng), .int u8.2.1, .ref b])), (b, .inr (0, [.long u8.2.2.1, .long u8.2.2.2]))] H := hP
      have hD : va_D A [(f, .inr (4, [.int fb, .int fp, .int fl, .int fg, .int fd, .int ft, .int fh, .ref mn, .ref mp, .int fr, .ref lf])), (mn, .inr (0, [.long mnh, .long mnl])), (mp, .inr (0, [.long mph, .long mpl])), (w, .inr (0, [.long wh, .long wl])), (d, .inr (1, [.int u8.1, .int (bI ng), .int u8.2.1, .ref b])), (b, .inr (0, [.long u8.2.2.1, .long u8.2.2.2]))] := hD
      have hK : va_K D classes [] s := hK
      refine W.eq (g2 := F0 m 102 ls []) rfl ?_
      refine lv_goto (tgt := 139) hx hb d_PatternBook_Decimal_readUnsigned_102 (by decide) ?_
      refine W.vret hx hb hr ?_ hS.2.2 d_PatternBook_Decimal_readUnsigned_139
      exact uEnd (u8.1, u8.2.1, u8.2.2.1, u8.2.2.2) (hP.sub [0, 1, 2, 3, 4, 5] rfl) (hK.sub [] rfl) (hD.sub [0, 1, 2, 3, 4, 5] (by decide) rfl) hS (by have eu1 := hu1.symm; subst eu1; have eu8 := hu8.symm; subst eu8; exact ((if_neg c_2).trans ((if_pos c_3).trans (rfl))).symm) rfl
  · refine lv_lload_n hx hb d_PatternBook_Decimal_readUnsigned_32 rfl (lv_at hl 1 rfl) ?_
    refine lv_aload_n hx hb d_PatternBook_Decimal_readUnsigned_33 rfl (lv_at hl 2 rfl) ?_
    refine va_get (D := D) (ci := 4) (v := .int fh) (C := R_PatternBook_DecletDecimal) (T := F_PatternBook_DecletDecimal) (N := 11) hx hb hts i_PatternBook_DecletDecimal hown hK hP 0 rfl rfl 6 (by decide) (hts _ k_121) (fun _ h9 => h9) rfl d_PatternBook_Decimal_readUnsigned_34 ?_
    refine lv_bipush (v := 6) hx hb d_PatternBook_Decimal_readUnsigned_37 (by decide) ?_
    refine lv_isub hx hb d_PatternBook_Decimal_readUnsigned_39 ?_
    refine lv_lushr (v := lushr_ u1 (fh - (6:Int32))) hx hb d_PatternBook_Decimal_readUnsigned_40 rfl ?_
    refine lv_lconst (v := 1) hx hb d_PatternBook_Decimal_readUnsigned_41 (by decide) ?_
    refine lv_land hx hb d_PatternBook_Decimal_readUnsigned_42 ?_
    refine lv_lconst (v := 1) hx hb d_PatternBook_Decimal_readUnsigned_43 (by decide) ?_
    refine W.lcmp hx hb d_PatternBook_Decimal_readUnsigned_44 ?_
    refine lv_if_ne (tgt := 52) hx hb d_PatternBook_Decimal_readUnsigned_45 (by decide) (fun c_9 => ?_) (fun c_9 => ?_)
    · refine lv_iconst (v := 0) hx hb d_PatternBook_Decimal_readUnsigned_52 (by decide) ?_
      refine lv_istore (lv' := [(7, .int (0:Int32)), (5, .long (lushr_ u1 (fh - (5:Int32)))), (3, .long u1), (0, .ref f), (1, .ref w), (2, .ref d)]) hx hb d_PatternBook_Decimal_readUnsigned_53 hl (by decide) rfl (fun ls hl => ?_)
      refine lv_aload_n hx hb d_PatternBook_Decimal_readUnsigned_55 rfl (lv_at hl 3 rfl) ?_
      refine lv_iconst (v := 0) hx hb d_PatternBook_Decimal_readUnsigned_56 (by decide) ?_
      refine lv_aload_n hx hb d_PatternBook_Decimal_readUnsigned_57 rfl (lv_at hl 3 rfl) ?_
      refine va_get (D := D) (ci := 4) (v := .ref mp) (C := R_PatternBook_DecletDecimal) (T := F_PatternBook_DecletDecimal) (N := 11) hx hb hts i_PatternBook_DecletDecimal hown hK hP 0 rfl rfl 8 (by decide) (hts _ k_139) (fun _ h9 => h9) rfl d_PatternBook_Decimal_readUnsigned_58 ?_
      refine lv_aload_n hx hb d_PatternBook_Decimal_readUnsigned_61 rfl (lv_at hl 4 rfl) ?_
      refine lv_aload_n hx hb d_PatternBook_Decimal_readUnsigned_62 rfl (lv_at hl 5 rfl) ?_
      refine va_getN (D := D) (ci := 1) (v := .ref b) (C := R_PatternBook_Datum) (T := F_PatternBook_Datum) (N := 4) hx hb hts i_PatternBook_Datum hown hK hP 3 rfl rfl 3 (by decide) (va_Nw.use rfl (hN _ kn_12)) (fun _ h9 => h9) rfl d_PatternBook_Decimal_readUnsigned_63 ?_
      have ho10 := hk
      refine uCall (WR := [(mn, .inr (0, [.long mnh, .long mnl])), (mp, .inr (0, [.long mph, .long mpl])), (d, .inr (1, [.int kd, .int (bI ng), .int ex, .ref b]))]) (RT := []) (va_runU (As := [.int (0:Int32), .ref mp, .ref w, .ref b]) (rest := []) ⟨hx, hb, hml, hown, hts⟩ (c_T_readBody l D f mp w b mn mp lf H.size (0:Int32) fb fp fl fg fd ft fh fr wh wl bh bl ho10) (uCU (x := ⟨R_PatternBook_Decimal, "readBody", "(ILPatternBook$Wide;LPatternBook$Wide;LPatternBook$Wide;)V"⟩) (owner := R_PatternBook_Decimal) 4 hts k_240 k_209 k_167 k_168 (va_Decl.abs (hN _ kn_17)) k_241 k_242 (by decide +kernel) rfl rfl ⟨Nat.le_of_ble_eq_true rfl, Nat.le_of_ble_eq_true rfl⟩) (uPreV (ci := 4) (q0 := 0) hK hP hD hN [0, 5, 4] rfl (by decide) [] rfl rfl rfl) rfl rfl hl.1 rfl (lv_room (Nat.le_of_ble_eq_true rfl)) d_PatternBook_Decimal_readUnsigned_66 ⟨(Nat.le_of_ble_eq_true rfl), (Nat.le_of_ble_eq_true rfl)⟩) hK hP hD hS hA [0, 5, 4] [1, 2, 3] rfl rfl (by decide) (by decide) [] rfl (fun u10 H locs hu10 hP hD hK hS => ?_)
      have hP : va_P D classes [(mn, .inr (0, [.long mnh, .long mnl])), (mp, .inr (0, [.long mph, .long mpl])), (d, .inr (1, [.int kd, .int (bI ng), .int ex, .ref b])), (f, .inr (4, [.int fb, .int fp, .int fl, .int fg, .int fd, .int ft, .int fh, .ref mn, .ref mp, .int fr, .ref lf])), (w, .inr (0, [.long wh, .long wl])), (b, .inr (0, [.long u10.1, .long u10.2]))] H := hP
      have hD : va_D A [(mn, .inr (0, [.long mnh, .long mnl])), (mp, .inr (0, [.long mph, .long mpl])), (d, .inr (1, [.int kd, .int (bI ng), .int ex, .ref b])), (f, .inr (4, [.int fb, .int fp, .int fl, .int fg, .int fd, .int ft, .int fh, .ref mn, .ref mp, .int fr, .ref lf])), (w, .inr (0, [.long wh, .long wl])), (b, .inr (0, [.long u10.1, .long u10.2]))] := hD
      have hK : va_K D classes [] s := hK
      refine W.eq (g2 := F0 m 69 ls []) rfl ?_
      refine lv_aload_n hx hb d_PatternBook_Decimal_readUnsigned_69 rfl (lv_at hl 5 rfl) ?_
      refine lv_iload hx hb d_PatternBook_Decimal_readUnsigned_70 (lv_at hl 0 rfl) ?_
      refine lv_if_eq (tgt := 79) hx hb d_PatternBook_Decimal_readUnsigned_72 (by decide) (fun c_11 => ?_) (fun c_11 => ?_)
      · refine lv_iconst (v := 2) hx hb d_PatternBook_Decimal_readUnsigned_79 (by decide) ?_
        refine lv_iconst (v := 0) hx hb d_PatternBook_Decimal_readUnsigned_80 (by decide) ?_
        refine uCall (WR := [(mn, .inr (0, [.long mnh, .long mnl])), (mp, .inr (0, [.long mph, .long mpl])), (f, .inr (4, [.int fb, .int fp, .int fl, .int fg, .int fd, .int ft, .int fh, .ref mn, .ref mp, .int fr, .ref lf])), (w, .inr (0, [.long wh, .long wl]))]) (RT := []) (va_runV (As := [.int (2:Int32), .int (0:Int32)]) (rest := []) ⟨hx, hb, hml, hown, hts⟩ (c_D_become l D d b H.size (2:Int32) (0:Int32) kd ng ex u10.1 u10.2) ⟨uCB 2 hts k_65 k_66 k_176 (by decide +kernel) rfl rfl ⟨Nat.le_of_ble_eq_true rfl, Nat.le_of_ble_eq_true rfl⟩, hts _ k_68, hts _ k_69⟩ (uPreV (ci := 1) (q0 := 2) hK hP hD hN [2, 5] rfl (by decide) [] rfl rfl rfl) rfl rfl hl.1 rfl (lv_room (Nat.le_of_ble_eq_true rfl)) d_PatternBook_Decimal_readUnsigned_81 ⟨(Nat.le_of_ble_eq_true rfl), (Nat.le_of_ble_eq_true rfl)⟩) hK hP hD hS hA [2, 5] [0, 1, 3, 4] rfl rfl (by decide) (by decide) [] rfl (fun u12 H locs hu12 hP hD hK hS => ?_)
        have hP : va_P D classes [(mn, .inr (0, [.long mnh, .long mnl])), (mp, .inr (0, [.long mph, .long mpl])), (f, .inr (4, [.int fb, .int fp, .int fl, .int fg, .int fd, .int ft, .int fh, .ref mn, .ref mp, .int fr, .ref lf])), (w, .inr (0, [.long wh, .long wl])), (d, .inr (1, [.int u12.1, .int (bI ng), .int u12.2.1, .ref b])), (b, .inr (0, [.long u12.2.2.1, .long u12.2.2.2]))] H := hP
        have hD : va_D A [(mn, .inr (0, [.long mnh, .long mnl])), (mp, .inr (0, [.long mph, .long mpl])), (f, .inr (4, [.int fb, .int fp, .int fl, .int fg, .int fd, .int ft, .int fh, .ref mn, .ref mp, .int fr, .ref lf])), (w, .inr (0, [.long wh, .long wl])), (d, .inr (1, [.int u12.1, .int (bI ng), .int u12.2.1, .ref b])), (b, .inr (0, [.long u12.2.2.1, .long u12.2.2.2]))] := hD
        have hK : va_K D classes [] s := hK
        refine W.eq (g2 := F0 m 84 ls []) rfl ?_
        refine lv_goto (tgt := 139) hx hb d_PatternBook_Decimal_readUnsigned_84 (by decide) ?_
        refine W.vret hx hb hr ?_ hS.2.2 d_PatternBook_Decimal_readUnsigned_139
        exact uEnd (u12.1, u12.2.1, u12.2.2.1, u12.2.2.2) (hP.sub [2, 0, 1, 3, 4, 5] rfl) (hK.sub [] rfl) (hD.sub [2, 0, 1, 3, 4, 5] (by decide) rfl) hS (by have eu1 := hu1.symm; subst eu1; have eu10 := hu10.symm; subst eu10; have eu12 := hu12.symm; subst eu12; exact ((if_pos c_2).trans ((if_neg c_9).trans (rfl))).symm) rfl
      · exact absurd (by decide) c_11
    · refine lv_iconst (v := 1) hx hb d_PatternBook_Decimal_readUnsigned_48 (by decide) ?_
      refine lv_goto (tgt := 53) hx hb d_PatternBook_Decimal_readUnsigned_49 (by decide) ?_
      refine lv_istore (lv' := [(7, .int (1:Int32)), (5, .long (lushr_ u1 (fh - (5:Int32)))), (3, .long u1), (0, .ref f), (1, .ref w), (2, .ref d)]) hx hb d_PatternBook_Decimal_readUnsigned_53 hl (by decide) rfl (fun ls hl => ?_)
      refine lv_aload_n hx hb d_PatternBook_Decimal_readUnsigned_55 rfl (lv_at hl 3 rfl) ?_
      refine lv_iconst (v := 0) hx hb d_PatternBook_Decimal_readUnsigned_56 (by decide) ?_
      refine lv_aload_n hx hb d_PatternBook_Decimal_readUnsigned_57 rfl (lv_at hl 3 rfl) ?_
      refine va_get (D := D) (ci := 4) (v := .ref mp) (C := R_PatternBook_DecletDecimal) (T := F_PatternBook_DecletDecimal) (N := 11) hx hb hts i_PatternBook_DecletDecimal hown hK hP 0 rfl rfl 8 (by decide) (hts _ k_139) (fun _ h9 => h9) rfl d_PatternBook_Decimal_readUnsigned_58 ?_
      refine lv_aload_n hx hb d_PatternBook_Decimal_readUnsigned_61 rfl (lv_at hl 4 rfl) ?_
      refine lv_aload_n hx hb d_PatternBook_Decimal_readUnsigned_62 rfl (lv_at hl 5 rfl) ?_
      refine va_getN (D := D) (ci := 1) (v := .ref b) (C := R_PatternBook_Datum) (T := F_PatternBook_Datum) (N := 4) hx hb hts i_PatternBook_Datum hown hK hP 3 rfl rfl 3 (by decide) (va_Nw.use rfl (hN _ kn_12)) (fun _ h9 => h9) rfl d_PatternBook_Decimal_readUnsigned_63 ?_
      have ho13 := hk
      refine uCall (WR := [(mn, .inr (0, [.long mnh, .long mnl])), (mp, .inr (0, [.long mph, .long mpl])), (d, .inr (1, [.int kd, .int (bI ng), .int ex, .ref b]))]) (RT := []) (va_runU (As := [.int (0:Int32), .ref mp, .ref w, .ref b]) (rest := []) ⟨hx, hb, hml, hown, hts⟩ (c_T_readBody l D f mp w b mn mp lf H.size (0:Int32) fb fp fl fg fd ft fh fr wh wl bh bl ho13) (uCU (x := ⟨R_PatternBook_Decimal, "readBody", "(ILPatternBook$Wide;LPatternBook$Wide;LPatternBook$Wide;)V"⟩) (owner := R_PatternBook_Decimal) 4 hts k_240 k_209 k_167 k_168 (va_Decl.abs (hN _ kn_17)) k_241 k_242 (by decide +kernel) rfl rfl ⟨Nat.le_of_ble_eq_true rfl, Nat.le_of_ble_eq_true rfl⟩) (uPreV (ci := 4) (q0 := 0) hK hP hD hN [0, 5, 4] rfl (by decide) [] rfl rfl rfl) rfl rfl hl.1 rfl (lv_room (Nat.le_of_ble_eq_true rfl)) d_PatternBook_Decimal_readUnsigned_66 ⟨(Nat.le_of_ble_eq_true rfl), (Nat.le_of_ble_eq_true rfl)⟩) hK hP hD hS hA [0, 5, 4] [1, 2, 3] rfl rfl (by decide) (by decide) [] rfl (fun u13 H locs hu13 hP hD hK hS => ?_)
      have hP : va_P D classes [(mn, .inr (0, [.long mnh, .long mnl])), (mp, .inr (0, [.long mph, .long mpl])), (d, .inr (1, [.int kd, .int (bI ng), .int ex, .ref b])), (f, .inr (4, [.int fb, .int fp, .int fl, .int fg, .int fd, .int ft, .int fh, .ref mn, .ref mp, .int fr, .ref lf])), (w, .inr (0, [.long wh, .long wl])), (b, .inr (0, [.long u13.1, .long u13.2]))] H := hP
      have hD : va_D A [(mn, .inr (0, [.long mnh, .long mnl])), (mp, .inr (0, [.long mph, .long mpl])), (d, .inr (1, [.int kd, .int (bI ng), .int ex, .ref b])), (f, .inr (4, [.int fb, .int fp, .int fl, .int fg, .int fd, .int ft, .int fh, .ref mn, .ref mp, .int fr, .ref lf])), (w, .inr (0, [.long wh, .long wl])), (b, .inr (0, [.long u13.1, .long u13.2]))] := hD
      have hK : va_K D classes [] s := hK
      refine W.eq (g2 := F0 m 69 ls []) rfl ?_
      refine lv_aload_n hx hb d_PatternBook_Decimal_readUnsigned_69 rfl (lv_at hl 5 rfl) ?_
      refine lv_iload hx hb d_PatternBook_Decimal_readUnsigned_70 (lv_at hl 0 rfl) ?_
      refine lv_if_eq (tgt := 79) hx hb d_PatternBook_Decimal_readUnsigned_72 (by decide) (fun c_14 => ?_) (fun c_14 => ?_)
      · exact absurd c_14 (by decide)
      · refine lv_iconst (v := 3) hx hb d_PatternBook_Decimal_readUnsigned_75 (by decide) ?_
        refine lv_goto (tgt := 80) hx hb d_PatternBook_Decimal_readUnsigned_76 (by decide) ?_
        refine lv_iconst (v := 0) hx hb d_PatternBook_Decimal_readUnsigned_80 (by decide) ?_
        refine uCall (WR := [(mn, .inr (0, [.long mnh, .long mnl])), (mp, .inr (0, [.long mph, .long mpl])), (f, .inr (4, [.int fb, .int fp, .int fl, .int fg, .int fd, .int ft, .int fh, .ref mn, .ref mp, .int fr, .ref lf])), (w, .inr (0, [.long wh, .long wl]))]) (RT := []) (va_runV (As := [.int (3:Int32), .int (0:Int32)]) (rest := []) ⟨hx, hb, hml, hown, hts⟩ (c_D_become l D d b H.size (3:Int32) (0:Int32) kd ng ex u13.1 u13.2) ⟨uCB 2 hts k_65 k_66 k_176 (by decide +kernel) rfl rfl ⟨Nat.le_of_ble_eq_true rfl, Nat.le_of_ble_eq_true rfl⟩, hts _ k_68, hts _ k_69⟩ (uPreV (ci := 1) (q0 := 2) hK hP hD hN [2, 5] rfl (by decide) [] rfl rfl rfl) rfl rfl hl.1 rfl (lv_room (Nat.le_of_ble_eq_true rfl)) d_PatternBook_Decimal_readUnsigned_81 ⟨(Nat.le_of_ble_eq_true rfl), (Nat.le_of_ble_eq_true rfl)⟩) hK hP hD hS hA [2, 5] [0, 1, 3, 4] rfl rfl (by decide) (by decide) [] rfl (fun u15 H locs hu15 hP hD hK hS => ?_)
        have hP : va_P D classes [(mn, .inr (0, [.long mnh, .long mnl])), (mp, .inr (0, [.long mph, .long mpl])), (f, .inr (4, [.int fb, .int fp, .int fl, .int fg, .int fd, .int ft, .int fh, .ref mn, .ref mp, .int fr, .ref lf])), (w, .inr (0, [.long wh, .long wl])), (d, .inr (1, [.int u15.1, .int (bI ng), .int u15.2.1, .ref b])), (b, .inr (0, [.long u15.2.2.1, .long u15.2.2.2]))] H := hP
        have hD : va_D A [(mn, .inr (0, [.long mnh, .long mnl])), (mp, .inr (0, [.long mph, .long mpl])), (f, .inr (4, [.int fb, .int fp, .int fl, .int fg, .int fd, .int ft, .int fh, .ref mn, .ref mp, .int fr, .ref lf])), (w, .inr (0, [.long wh, .long wl])), (d, .inr (1, [.int u15.1, .int (bI ng), .int u15.2.1, .ref b])), (b, .inr (0, [.long u15.2.2.1, .long u15.2.2.2]))] := hD
        have hK : va_K D classes [] s := hK
        refine W.eq (g2 := F0 m 84 ls []) rfl ?_
        refine lv_goto (tgt := 139) hx hb d_PatternBook_Decimal_readUnsigned_84 (by decide) ?_
        refine W.vret hx hb hr ?_ hS.2.2 d_PatternBook_Decimal_readUnsigned_139
        exact uEnd (u15.1, u15.2.1, u15.2.2.1, u15.2.2.2) (hP.sub [2, 0, 1, 3, 4, 5] rfl) (hK.sub [] rfl) (hD.sub [2, 0, 1, 3, 4, 5] (by decide) rfl) hS (by have eu1 := hu1.symm; subst eu1; have eu13 := hu13.symm; subst eu13; have eu15 := hu15.symm; subst eu15; exact ((if_pos c_2).trans ((if_pos c_9).trans (rfl))).symm) rfl
set_option maxHeartbeats 4000000 in
set_option maxRecDepth 100000 in
/-- PatternBook$Decimal.writeUnsigned(LPatternBook$Datum;LPatternBook$Wide;)V -/
theorem c_T_writeU (l : Launch) (D : va_G) (f : Nat) (d : Nat) (w : Nat) (mn : Nat) (mp : Nat) (lf : Nat) (b : Nat) (sz : Nat) (fb : Int32) (fp : Int32) (fl : Int32) (fg : Int32) (fd : Int32) (ft : Int32) (fh : Int32) (fr : Int32) (lfh : Int64) (lfl : Int64) (kd : Int32) (ng : Bool) (ex : Int32) (bh : Int64) (bl : Int64) (wh : Int64) (wl : Int64) (hk : mok_T_writeU fd) : Met l y_PatternBook_Decimal_writeUnsigned (wsOf y_PatternBook_Decimal_writeUnsigned b_PatternBook_Decimal_writeUnsigned 4 none) ({ frames := 3, cells := 0, slots := 0, locals := 71 }) (uP D classes [(f, .inr (4, [.int fb, .int fp, .int fl, .int fg, .int fd, .int ft, .int fh, .ref mn, .ref mp, .int fr, .ref lf])), (lf, .inr (0, [.long lfh, .long lfl])), (d, .inr (1, [.int kd, .int (bI ng), .int ex, .ref b])), (b, .inr (0, [.long bh, .long bl])), (w, .inr (0, [.long wh, .long wl]))] [] sz [.ref f, .ref d, .ref w]) (uQ D classes (fun _ : Int64 × Int64 × Int64 × Int64 => none) (fun u => u = (sl m_T_writeU) fl fd ft fh fr kd ex bh bl wh wl) (va_A [(f, .inr (4, [.int fb, .int fp, .int fl, .int fg, .int fd, .int ft, .int fh, .ref mn, .ref mp, .int fr, .ref lf])), (lf, .inr (0, [.long lfh, .long lfl])), (d, .inr (1, [.int kd, .int (bI ng), .int ex, .ref b])), (b, .inr (0, [.long bh, .long bl])), (w, .inr (0, [.long wh, .long wl]))] sz) (fun _ => []) (fun u => [(f, .inr (4, [.int fb, .int fp, .int fl, .int fg, .int fd, .int ft, .int fh, .ref mn, .ref mp, .int fr, .ref lf])), (lf, .inr (0, [.long u.1, .long u.2.1])), (d, .inr (1, [.int kd, .int (bI ng), .int ex, .ref b])), (b, .inr (0, [.long bh, .long bl])), (w, .inr (0, [.long u.2.2.1, .long u.2.2.2]))])) 0 0 (va_A [(f, .inr (4, [.int fb, .int fp, .int fl, .int fg, .int fd, .int ft, .int fh, .ref mn, .ref mp, .int fr, .ref lf])), (lf, .inr (0, [.long lfh, .long lfl])), (d, .inr (1, [.int kd, .int (bI ng), .int ex, .ref b])), (b, .inr (0, [.long bh, .long bl])), (w, .inr (0, [.long wh, .long wl]))] sz) := by
  rw [sl_eq m_T_writeU]
  refine uBegin (by decide +kernel) (Nat.le_of_ble_eq_true rfl) ?_
  intro p e s m below meth c A ls H locs hx hb hr hts hown hlocks hml hin hA hP hK hD hN hS hl
  have hl : lv_has ls 4 [(0, .ref f), (1, .ref d), (2, .ref w)] := hl
  unfold mok_T_writeU at hk
  refine lv_aload_n hx hb d_PatternBook_Decimal_writeUnsigned_0 rfl (lv_at hl 0 rfl) ?_
  refine lv_aload_n hx hb d_PatternBook_Decimal_writeUnsigned_1 rfl (lv_at hl 1 rfl) ?_
  refine va_getN (D := D) (ci := 1) (v := .ref b) (C := R_PatternBook_Datum) (T := F_PatternBook_Datum) (N := 4) hx hb hts i_PatternBook_Datum hown hK hP 2 rfl rfl 3 (by decide) (va_Nw.use rfl (hN _ kn_12)) (fun _ h9 => h9) rfl d_PatternBook_Decimal_writeUnsigned_2 ?_
  refine lv_aload_n hx hb d_PatternBook_Decimal_writeUnsigned_5 rfl (lv_at hl 2 rfl) ?_
  have ho1 := hk
  refine uCall (WR := [(d, .inr (1, [.int kd, .int (bI ng), .int ex, .ref b]))]) (RT := []) (va_runU (As := [.ref b, .ref w]) (rest := []) ⟨hx, hb, hml, hown, hts⟩ (c_T_writeTail l D f b w mn mp lf H.size fb fp fl fg fd ft fh fr lfh lfl bh bl wh wl ho1) (uCU (x := ⟨R_PatternBook_Decimal, "writeTail", "(LPatternBook$Wide;LPatternBook$Wide;)I"⟩) (owner := R_PatternBook_Decimal) 2 hts k_246 k_209 k_178 k_179 (va_Decl.abs (hN _ kn_19)) k_247 k_248 (by decide +kernel) rfl rfl ⟨Nat.le_of_ble_eq_true rfl, Nat.le_of_ble_eq_true rfl⟩) (uPreV (ci := 4) (q0 := 0) hK hP hD hN [0, 1, 3, 4] rfl (by decide) [] rfl rfl rfl) rfl rfl hl.1 rfl (lv_room (Nat.le_of_ble_eq_true rfl)) d_PatternBook_Decimal_writeUnsigned_6 ⟨(Nat.le_of_ble_eq_true rfl), (Nat.le_of_ble_eq_true rfl)⟩) hK hP hD hS hA [0, 1, 3, 4] [2] rfl rfl (by decide) (by decide) [] rfl (fun u1 H locs hu1 hP hD hK hS => ?_)
  have hP : va_P D classes [(d, .inr (1, [.int kd, .int (bI ng), .int ex, .ref b])), (f, .inr (4, [.int fb, .int fp, .int fl, .int fg, .int fd, .int ft, .int fh, .ref mn, .ref mp, .int fr, .ref lf])), (lf, .inr (0, [.long u1.2.1, .long u1.2.2.1])), (b, .inr (0, [.long bh, .long bl])), (w, .inr (0, [.long u1.2.2.2.1, .long u1.2.2.2.2]))] H := hP
  have hD : va_D A [(d, .inr (1, [.int kd, .int (bI ng), .int ex, .ref b])), (f, .inr (4, [.int fb, .int fp, .int fl, .int fg, .int fd, .int ft, .int fh, .ref mn, .ref mp, .int fr, .ref lf])), (lf, .inr (0, [.long u1.2.1, .long u1.2.2.1])), (b, .inr (0, [.long bh, .long bl])), (w, .inr (0, [.long u1.2.2.2.1, .long u1.2.2.2.2]))] := hD
  have hK : va_K D classes [] s := hK
  refine W.eq (g2 := F0 m 9 ls [.int u1.1]) rfl ?_
  refine lv_istore_n (lv' := [(3, .int u1.1), (0, .ref f), (1, .ref d), (2, .ref w)]) hx hb d_PatternBook_Decimal_writeUnsigned_9 rfl hl (by decide) rfl (fun ls hl => ?_)
  refine lv_aload_n hx hb d_PatternBook_Decimal_writeUnsigned_10 rfl (lv_at hl 3 rfl) ?_
  refine lv_aload_n hx hb d_PatternBook_Decimal_writeUnsigned_11 rfl (lv_at hl 1 rfl) ?_
  refine va_get (D := D) (ci := 4) (v := .int ft) (C := R_PatternBook_DecletDecimal) (T := F_PatternBook_DecletDecimal) (N := 11) hx hb hts i_PatternBook_DecletDecimal hown hK hP 1 rfl rfl 5 (by decide) (hts _ k_159) (fun _ h9 => h9) rfl d_PatternBook_Decimal_writeUnsigned_12 ?_
  refine lv_aload_n hx hb d_PatternBook_Decimal_writeUnsigned_15 rfl (lv_at hl 1 rfl) ?_
  refine lv_aload_n hx hb d_PatternBook_Decimal_writeUnsigned_16 rfl (lv_at hl 2 rfl) ?_
  refine lv_iload_n hx hb d_PatternBook_Decimal_writeUnsigned_17 rfl (lv_at hl 0 rfl) ?_
  refine uCall (WR := [(lf, .inr (0, [.long u1.2.1, .long u1.2.2.1])), (b, .inr (0, [.long bh, .long bl])), (w, .inr (0, [.long u1.2.2.2.1, .long u1.2.2.2.2]))]) (RT := []) (va_runV (As := [.ref d, .int u1.1]) (rest := [.int ft, .ref w]) ⟨hx, hb, hml, hown, hts⟩ (c_T_headFor l D f d mn mp lf b H.size u1.1 fb fp fl fg fd ft fh fr kd ng ex) ⟨uCB 2 hts k_182 k_124 k_183 (by decide +kernel) rfl rfl ⟨Nat.le_of_ble_eq_true rfl, Nat.le_of_ble_eq_true rfl⟩, hts _ k_184, hts _ k_249⟩ (uPreV (ci := 4) (q0 := 1) hK hP hD hN [1, 0] rfl (by decide) [] rfl rfl rfl) rfl rfl hl.1 rfl (lv_room (Nat.le_of_ble_eq_true rfl)) d_PatternBook_Decimal_writeUnsigned_18 ⟨(Nat.le_of_ble_eq_true rfl), (Nat.le_of_ble_eq_true rfl)⟩) hK hP hD hS hA [1, 0] [2, 3, 4] rfl rfl (by decide) (by decide) [] rfl (fun u2 H locs hu2 hP hD hK hS => ?_)
  have hP : va_P D classes [(lf, .inr (0, [.long u1.2.1, .long u1.2.2.1])), (b, .inr (0, [.long bh, .long bl])), (w, .inr (0, [.long u1.2.2.2.1, .long u1.2.2.2.2])), (f, .inr (4, [.int fb, .int fp, .int fl, .int fg, .int fd, .int ft, .int fh, .ref mn, .ref mp, .int fr, .ref lf])), (d, .inr (1, [.int kd, .int (bI ng), .int ex, .ref b]))] H := hP
  have hD : va_D A [(lf, .inr (0, [.long u1.2.1, .long u1.2.2.1])), (b, .inr (0, [.long bh, .long bl])), (w, .inr (0, [.long u1.2.2.2.1, .long u1.2.2.2.2])), (f, .inr (4, [.int fb, .int fp, .int fl, .int fg, .int fd, .int ft, .int fh, .ref mn, .ref mp, .int fr, .ref lf])), (d, .inr (1, [.int kd, .int (bI ng), .int ex, .ref b]))] := hD
  have hK : va_K D classes [] s := hK
  refine W.eq (g2 := F0 m 21 ls [.long u2, .int ft, .ref w]) rfl ?_
  refine uCall (WR := [(lf, .inr (0, [.long u1.2.1, .long u1.2.2.1])), (b, .inr (0, [.long bh, .long bl])), (f, .inr (4, [.int fb, .int fp, .int fl, .int fg, .int fd, .int ft, .int fh, .ref mn, .ref mp, .int fr, .ref lf])), (d, .inr (1, [.int kd, .int (bI ng), .int ex, .ref b]))]) (RT := []) (va_runV (As := [.int ft, .long u2]) (rest := []) ⟨hx, hb, hml, hown, hts⟩ (c_W_addBits l D w H.size ft u2 u1.2.2.2.1 u1.2.2.2.2) ⟨uCB 2 hts k_76 k_12 k_186 (by decide +kernel) rfl rfl ⟨Nat.le_of_ble_eq_true rfl, Nat.le_of_ble_eq_true rfl⟩, hts _ k_78, hts _ k_79⟩ (uPreV (ci := 0) (q0 := 2) hK hP hD hN [2] rfl (by decide) [] rfl rfl rfl) rfl rfl hl.1 rfl (lv_room (Nat.le_of_ble_eq_true rfl)) d_PatternBook_Decimal_writeUnsigned_21 ⟨(Nat.le_of_ble_eq_true rfl), (Nat.le_of_ble_eq_true rfl)⟩) hK hP hD hS hA [2] [0, 1, 3, 4] rfl rfl (by decide) (by decide) [] rfl (fun u3 H locs hu3 hP hD hK hS => ?_)
  have hP : va_P D classes [(lf, .inr (0, [.long u1.2.1, .long u1.2.2.1])), (b, .inr (0, [.long bh, .long bl])), (f, .inr (4, [.int fb, .int fp, .int fl, .int fg, .int fd, .int ft, .int fh, .ref mn, .ref mp, .int fr, .ref lf])), (d, .inr (1, [.int kd, .int (bI ng), .int ex, .ref b])), (w, .inr (0, [.long u3.1, .long u3.2]))] H := hP
  have hD : va_D A [(lf, .inr (0, [.long u1.2.1, .long u1.2.2.1])), (b, .inr (0, [.long bh, .long bl])), (f, .inr (4, [.int fb, .int fp, .int fl, .int fg, .int fd, .int ft, .int fh, .ref mn, .ref mp, .int fr, .ref lf])), (d, .inr (1, [.int kd, .int (bI ng), .int ex, .ref b])), (w, .inr (0, [.long u3.1, .long u3.2]))] := hD
  have hK : va_K D classes [] s := hK
  refine W.eq (g2 := F0 m 24 ls []) rfl ?_
  refine W.vret hx hb hr ?_ hS.2.2 d_PatternBook_Decimal_writeUnsigned_24
  exact uEnd (u1.2.1, u1.2.2.1, u3.1, u3.2) (hP.sub [2, 0, 3, 1, 4] rfl) (hK.sub [] rfl) (hD.sub [2, 0, 3, 1, 4] (by decide) rfl) hS (by have eu1 := hu1.symm; subst eu1; have eu2 := hu2.symm; subst eu2; have eu3 := hu3.symm; subst eu3; exact (rfl).symm) rfl
set_option maxHeartbeats 4000000 in
set_option maxRecDepth 100000 in
/-- PatternBook$Format.has(LPatternBook$Datum;)Z -/
theorem c_T_has (l : Launch) (D : va_G) (f : Nat) (d : Nat) (mn : Nat) (mp : Nat) (lf : Nat) (b : Nat) (sz : Nat) (fb : Int32) (fp : Int32) (fl : Int32) (fg : Int32) (fd : Int32) (ft : Int32) (fh : Int32) (fr : Int32) (mnh : Int64) (mnl : Int64) (mph : Int64) (mpl : Int64) (kd : Int32) (ng : Bool) (ex : Int32) (bh : Int64) (bl : Int64) : Met l y_PatternBook_Format_has (wsOf y_PatternBook_Format_has b_PatternBook_Format_has 2 (some .boolean)) ({ frames := 4, cells := 0, slots := 0, locals := 88 }) (uP D classes [(f, .inr (4, [.int fb, .int fp, .int fl, .int fg, .int fd, .int ft, .int fh, .ref mn, .ref mp, .int fr, .ref lf])), (mn, .inr (0, [.long mnh, .long mnl])), (mp, .inr (0, [.long mph, .long mpl])), (d, .inr (1, [.int kd, .int (bI ng), .int ex, .ref b])), (b, .inr (0, [.long bh, .long bl]))] [] sz [.ref f, .ref d]) (uQ D classes (fun u : Bool => some (.int (bI u))) (fun u => u = (sl m_T_has) fl fg mnh mnl mph mpl kd ex bh bl) (va_A [(f, .inr (4, [.int fb, .int fp, .int fl, .int fg, .int fd, .int ft, .int fh, .ref mn, .ref mp, .int fr, .ref lf])), (mn, .inr (0, [.long mnh, .long mnl])), (mp, .inr (0, [.long mph, .long mpl])), (d, .inr (1, [.int kd, .int (bI ng), .int ex, .ref b])), (b, .inr (0, [.long bh, .long bl]))] sz) (fun _ => []) (fun u => [(f, .inr (4, [.int fb, .int fp, .int fl, .int fg, .int fd, .int ft, .int fh, .ref mn, .ref mp, .int fr, .ref lf])), (mn, .inr (0, [.long mnh, .long mnl])), (mp, .inr (0, [.long mph, .long mpl])), (d, .inr (1, [.int kd, .int (bI ng), .int ex, .ref b])), (b, .inr (0, [.long bh, .long bl]))])) 0 0 (va_A [(f, .inr (4, [.int fb, .int fp, .int fl, .int fg, .int fd, .int ft, .int fh, .ref mn, .ref mp, .int fr, .ref lf])), (mn, .inr (0, [.long mnh, .long mnl])), (mp, .inr (0, [.long mph, .long mpl])), (d, .inr (1, [.int kd, .int (bI ng), .int ex, .ref b])), (b, .inr (0, [.long bh, .long bl]))] sz) := by
  rw [sl_eq m_T_has]
  refine uBegin (by decide +kernel) (Nat.le_of_ble_eq_true rfl) ?_
  intro p e s m below meth c A ls H locs hx hb hr hts hown hlocks hml hin hA hP hK hD hN hS hl
  have hl : lv_has ls 2 [(0, .ref f), (1, .ref d)] := hl
  refine lv_aload_n hx hb d_PatternBook_Format_has_0 rfl (lv_at hl 1 rfl) ?_
  refine va_getN (D := D) (ci := 1) (v := .int kd) (C := R_PatternBook_Datum) (T := F_PatternBook_Datum) (N := 4) hx hb hts i_PatternBook_Datum hown hK hP 3 rfl rfl 0 (by decide) (va_Nw.use rfl (hN _ kn_5)) (fun _ h9 => h9) rfl d_PatternBook_Format_has_1 ?_
  by_cases c_1 : kd = (0:Int32)
  · refine lv_lookup (off := 28) (tgt := 32) hx hb d_PatternBook_Format_has_4 (by decide) (by rw [c_1]; rfl) (by decide) ?_
    refine lv_aload_n hx hb d_PatternBook_Format_has_32 rfl (lv_at hl 1 rfl) ?_
    refine va_getN (D := D) (ci := 1) (v := .int ex) (C := R_PatternBook_Datum) (T := F_PatternBook_Datum) (N := 4) hx hb hts i_PatternBook_Datum hown hK hP 3 rfl rfl 2 (by decide) (va_Nw.use rfl (hN _ kn_6)) (fun _ h9 => h9) rfl d_PatternBook_Format_has_33 ?_
    refine lv_aload_n hx hb d_PatternBook_Format_has_36 rfl (lv_at hl 0 rfl) ?_
    refine va_get (D := D) (ci := 4) (v := .int fl) (C := R_PatternBook_DecletDecimal) (T := F_PatternBook_DecletDecimal) (N := 11) hx hb hts i_PatternBook_DecletDecimal hown hK hP 0 rfl rfl 2 (by decide) (hts _ k_89) (fun _ h9 => h9) rfl d_PatternBook_Format_has_37 ?_
    refine lv_icmp_lt (tgt := 66) hx hb d_PatternBook_Format_has_40 (by decide) (fun c_2 => ?_) (fun c_2 => ?_)
    · refine lv_iconst (v := 0) hx hb d_PatternBook_Format_has_66 (by decide) ?_
      refine W.zret hx hb hr rfl ?_ hS.2.2 d_PatternBook_Format_has_67
      exact uEnd false (hP.sub [0, 1, 2, 3, 4] rfl) (hK.sub [] rfl) (hD.sub [0, 1, 2, 3, 4] (by decide) rfl) hS (by  exact ((if_pos c_1).trans ((if_pos c_2).trans (rfl))).symm) rfl
    · refine lv_aload_n hx hb d_PatternBook_Format_has_43 rfl (lv_at hl 1 rfl) ?_
      refine va_getN (D := D) (ci := 1) (v := .int ex) (C := R_PatternBook_Datum) (T := F_PatternBook_Datum) (N := 4) hx hb hts i_PatternBook_Datum hown hK hP 3 rfl rfl 2 (by decide) (va_Nw.use rfl (hN _ kn_6)) (fun _ h9 => h9) rfl d_PatternBook_Format_has_44 ?_
      refine lv_aload_n hx hb d_PatternBook_Format_has_47 rfl (lv_at hl 0 rfl) ?_
      refine va_get (D := D) (ci := 4) (v := .int fg) (C := R_PatternBook_DecletDecimal) (T := F_PatternBook_DecletDecimal) (N := 11) hx hb hts i_PatternBook_DecletDecimal hown hK hP 0 rfl rfl 3 (by decide) (hts _ k_90) (fun _ h9 => h9) rfl d_PatternBook_Format_has_48 ?_
      refine lv_icmp_gt (tgt := 66) hx hb d_PatternBook_Format_has_51 (by decide) (fun c_3 => ?_) (fun c_3 => ?_)
      · refine lv_iconst (v := 0) hx hb d_PatternBook_Format_has_66 (by decide) ?_
        refine W.zret hx hb hr rfl ?_ hS.2.2 d_PatternBook_Format_has_67
        exact uEnd false (hP.sub [0, 1, 2, 3, 4] rfl) (hK.sub [] rfl) (hD.sub [0, 1, 2, 3, 4] (by decide) rfl) hS (by  exact ((if_pos c_1).trans ((if_neg c_2).trans ((if_pos c_3).trans (rfl)))).symm) rfl
      · refine lv_aload_n hx hb d_PatternBook_Format_has_54 rfl (lv_at hl 0 rfl) ?_
        refine lv_aload_n hx hb d_PatternBook_Format_has_55 rfl (lv_at hl 1 rfl) ?_
        refine uCall (WR := [(mp, .inr (0, [.long mph, .long mpl]))]) (RT := []) (va_runU (As := [.ref d]) (rest := []) ⟨hx, hb, hml, hown, hts⟩ (c_T_hasNumber l D f d mn mp lf b H.size fb fp fl fg fd ft fh fr mnh mnl kd ng ex bh bl) (uCU (x := ⟨R_PatternBook_Format, "hasNumber", "(LPatternBook$Datum;)Z"⟩) (owner := R_PatternBook_Format) 1 hts k_187 k_124 k_92 k_93 (va_Decl.abs (hN _ kn_7)) k_250 k_189 (by decide +kernel) rfl rfl ⟨Nat.le_of_ble_eq_true rfl, Nat.le_of_ble_eq_true rfl⟩) (uPreV (ci := 4) (q0 := 0) hK hP hD hN [0, 1, 3, 4] rfl (by decide) [] rfl rfl rfl) rfl rfl hl.1 rfl (lv_room (Nat.le_of_ble_eq_true rfl)) d_PatternBook_Format_has_56 ⟨(Nat.le_of_ble_eq_true rfl), (Nat.le_of_ble_eq_true rfl)⟩) hK hP hD hS hA [0, 1, 3, 4] [2] rfl rfl (by decide) (by decide) [] rfl (fun u4 H locs hu4 hP hD hK hS => ?_)
        have hP : va_P D classes [(mp, .inr (0, [.long mph, .long mpl])), (f, .inr (4, [.int fb, .int fp, .int fl, .int fg, .int fd, .int ft, .int fh, .ref mn, .ref mp, .int fr, .ref lf])), (mn, .inr (0, [.long mnh, .long mnl])), (d, .inr (1, [.int kd, .int (bI ng), .int ex, .ref b])), (b, .inr (0, [.long bh, .long bl]))] H := hP
        have hD : va_D A [(mp, .inr (0, [.long mph, .long mpl])), (f, .inr (4, [.int fb, .int fp, .int fl, .int fg, .int fd, .int ft, .int fh, .ref mn, .ref mp, .int fr, .ref lf])), (mn, .inr (0, [.long mnh, .long mnl])), (d, .inr (1, [.int kd, .int (bI ng), .int ex, .ref b])), (b, .inr (0, [.long bh, .long bl]))] := hD
        have hK : va_K D classes [] s := hK
        refine W.eq (g2 := F0 m 59 ls [.int (bI u4)]) rfl ?_
        refine lv_if_eq (tgt := 66) hx hb d_PatternBook_Format_has_59 (by decide) (fun c_5 => ?_) (fun c_5 => ?_)
        · refine lv_iconst (v := 0) hx hb d_PatternBook_Format_has_66 (by decide) ?_
          refine W.zret hx hb hr rfl ?_ hS.2.2 d_PatternBook_Format_has_67
          exact uEnd false (hP.sub [1, 2, 0, 3, 4] rfl) (hK.sub [] rfl) (hD.sub [1, 2, 0, 3, 4] (by decide) rfl) hS (by have eu4 := hu4.symm; subst eu4; exact ((if_pos c_1).trans ((if_neg c_2).trans ((if_neg c_3).trans ((if_pos c_5).trans (rfl))))).symm) rfl
        · refine lv_iconst (v := 1) hx hb d_PatternBook_Format_has_62 (by decide) ?_
          refine lv_goto (tgt := 67) hx hb d_PatternBook_Format_has_63 (by decide) ?_
          refine W.zret hx hb hr rfl ?_ hS.2.2 d_PatternBook_Format_has_67
          exact uEnd true (hP.sub [1, 2, 0, 3, 4] rfl) (hK.sub [] rfl) (hD.sub [1, 2, 0, 3, 4] (by decide) rfl) hS (by have eu4 := hu4.symm; subst eu4; exact ((if_pos c_1).trans ((if_neg c_2).trans ((if_neg c_3).trans ((if_neg c_5).trans (rfl))))).symm) rfl
  · by_cases c_6 : kd = (1:Int32)
    · refine lv_lookup (off := 64) (tgt := 68) hx hb d_PatternBook_Format_has_4 (by decide) (by rw [c_6]; rfl) (by decide) ?_
      refine lv_iconst (v := 1) hx hb d_PatternBook_Format_has_68 (by decide) ?_
      refine W.zret hx hb hr rfl ?_ hS.2.2 d_PatternBook_Format_has_69
      exact uEnd true (hP.sub [0, 1, 2, 3, 4] rfl) (hK.sub [] rfl) (hD.sub [0, 1, 2, 3, 4] (by decide) rfl) hS (by  exact ((if_neg c_1).trans ((if_pos c_6).trans (rfl))).symm) rfl
    · refine lv_lookup (off := 66) (tgt := 70) hx hb d_PatternBook_Format_has_4 (by decide) (by show Op.lookupswitch.offset [(0, 28), (1, 64)] 66 _ = _; rw [lv_osw c_1 (by decide), lv_osw c_6 (by decide)]; rfl) (by decide) ?_
      refine lv_aload_n hx hb d_PatternBook_Format_has_70 rfl (lv_at hl 0 rfl) ?_
      refine lv_aload_n hx hb d_PatternBook_Format_has_71 rfl (lv_at hl 1 rfl) ?_
      refine uCall (WR := [(mn, .inr (0, [.long mnh, .long mnl]))]) (RT := []) (va_runU (As := [.ref d]) (rest := []) ⟨hx, hb, hml, hown, hts⟩ (c_T_hasNan l D f d mn mp lf b H.size fb fp fl fg fd ft fh fr mph mpl kd ng ex bh bl) (uCU (x := ⟨R_PatternBook_Format, "hasNan", "(LPatternBook$Datum;)Z"⟩) (owner := R_PatternBook_Format) 1 hts k_190 k_124 k_97 k_98 (va_Decl.abs (hN _ kn_8)) k_251 k_192 (by decide +kernel) rfl rfl ⟨Nat.le_of_ble_eq_true rfl, Nat.le_of_ble_eq_true rfl⟩) (uPreV (ci := 4) (q0 := 0) hK hP hD hN [0, 2, 3, 4] rfl (by decide) [] rfl rfl rfl) rfl rfl hl.1 rfl (lv_room (Nat.le_of_ble_eq_true rfl)) d_PatternBook_Format_has_72 ⟨(Nat.le_of_ble_eq_true rfl), (Nat.le_of_ble_eq_true rfl)⟩) hK hP hD hS hA [0, 2, 3, 4] [1] rfl rfl (by decide) (by decide) [] rfl (fun u7 H locs hu7 hP hD hK hS => ?_)
      have hP : va_P D classes [(mn, .inr (0, [.long mnh, .long mnl])), (f, .inr (4, [.int fb, .int fp, .int fl, .int fg, .int fd, .int ft, .int fh, .ref mn, .ref mp, .int fr, .ref lf])), (mp, .inr (0, [.long mph, .long mpl])), (d, .inr (1, [.int kd, .int (bI ng), .int ex, .ref b])), (b, .inr (0, [.long bh, .long bl]))] H := hP
      have hD : va_D A [(mn, .inr (0, [.long mnh, .long mnl])), (f, .inr (4, [.int fb, .int fp, .int fl, .int fg, .int fd, .int ft, .int fh, .ref mn, .ref mp, .int fr, .ref lf])), (mp, .inr (0, [.long mph, .long mpl])), (d, .inr (1, [.int kd, .int (bI ng), .int ex, .ref b])), (b, .inr (0, [.long bh, .long bl]))] := hD
      have hK : va_K D classes [] s := hK
      refine W.eq (g2 := F0 m 75 ls [.int (bI u7)]) rfl ?_
      refine W.zret hx hb hr (bI_nar _) ?_ hS.2.2 d_PatternBook_Format_has_75
      exact uEnd u7 (hP.sub [1, 0, 2, 3, 4] rfl) (hK.sub [] rfl) (hD.sub [1, 0, 2, 3, 4] (by decide) rfl) hS (by have eu7 := hu7.symm; subst eu7; exact ((if_neg c_1).trans ((if_neg c_6).trans (rfl))).symm) rfl
set_option maxHeartbeats 4000000 in
set_option maxRecDepth 100000 in
/-- PatternBook$Format.cut(JJLPatternBook$Wide;)V -/
theorem c_T_cut (l : Launch) (D : va_G) (f : Nat) (w : Nat) (mn : Nat) (mp : Nat) (lf : Nat) (sz : Nat) (x : Int64) (y : Int64) (fb : Int32) (fp : Int32) (fl : Int32) (fg : Int32) (fd : Int32) (ft : Int32) (fh : Int32) (fr : Int32) (wh : Int64) (wl : Int64) : Met l y_PatternBook_Format_cut (wsOf y_PatternBook_Format_cut b_PatternBook_Format_cut 6 none) ({ frames := 2, cells := 0, slots := 0, locals := 41 }) (uP D classes [(f, .inr (4, [.int fb, .int fp, .int fl, .int fg, .int fd, .int ft, .int fh, .ref mn, .ref mp, .int fr, .ref lf])), (w, .inr (0, [.long wh, .long wl]))] [] sz [.ref f, .long x, .long y, .ref w]) (uQ D classes (fun _ : Int64 × Int64 => none) (fun u => u = (sl m_T_cut) x y fb) (va_A [(f, .inr (4, [.int fb, .int fp, .int fl, .int fg, .int fd, .int ft, .int fh, .ref mn, .ref mp, .int fr, .ref lf])), (w, .inr (0, [.long wh, .long wl]))] sz) (fun _ => []) (fun u => [(f, .inr (4, [.int fb, .int fp, .int fl, .int fg, .int fd, .int ft, .int fh, .ref mn, .ref mp, .int fr, .ref lf])), (w, .inr (0, [.long u.1, .long u.2]))])) 0 0 (va_A [(f, .inr (4, [.int fb, .int fp, .int fl, .int fg, .int fd, .int ft, .int fh, .ref mn, .ref mp, .int fr, .ref lf])), (w, .inr (0, [.long wh, .long wl]))] sz) := by
  rw [sl_eq m_T_cut]
  refine uBegin (by decide +kernel) (Nat.le_of_ble_eq_true rfl) ?_
  intro p e s m below meth c A ls H locs hx hb hr hts hown hlocks hml hin hA hP hK hD hN hS hl
  have hl : lv_has ls 6 [(0, .ref f), (1, .long x), (3, .long y), (5, .ref w)] := hl
  refine lv_aload hx hb d_PatternBook_Format_cut_0 (lv_at hl 3 rfl) ?_
  refine lv_lload_n hx hb d_PatternBook_Format_cut_2 rfl (lv_at hl 1 rfl) ?_
  refine lv_lload_n hx hb d_PatternBook_Format_cut_3 rfl (lv_at hl 2 rfl) ?_
  refine uCall (WR := [(f, .inr (4, [.int fb, .int fp, .int fl, .int fg, .int fd, .int ft, .int fh, .ref mn, .ref mp, .int fr, .ref lf]))]) (RT := []) (va_runV (As := [.long x, .long y]) (rest := []) ⟨hx, hb, hml, hown, hts⟩ (c_W_set l D w H.size x y wh wl) ⟨uCB 2 hts k_11 k_12 k_101 (by decide +kernel) rfl rfl ⟨Nat.le_of_ble_eq_true rfl, Nat.le_of_ble_eq_true rfl⟩, hts _ k_14, hts _ k_15⟩ (uPreV (ci := 0) (q0 := 1) hK hP hD hN [1] rfl (by decide) [] rfl rfl rfl) rfl rfl hl.1 rfl (lv_room (Nat.le_of_ble_eq_true rfl)) d_PatternBook_Format_cut_4 ⟨(Nat.le_of_ble_eq_true rfl), (Nat.le_of_ble_eq_true rfl)⟩) hK hP hD hS hA [1] [0] rfl rfl (by decide) (by decide) [] rfl (fun u1 H locs hu1 hP hD hK hS => ?_)
  have hP : va_P D classes [(f, .inr (4, [.int fb, .int fp, .int fl, .int fg, .int fd, .int ft, .int fh, .ref mn, .ref mp, .int fr, .ref lf])), (w, .inr (0, [.long u1.1, .long u1.2]))] H := hP
  have hD : va_D A [(f, .inr (4, [.int fb, .int fp, .int fl, .int fg, .int fd, .int ft, .int fh, .ref mn, .ref mp, .int fr, .ref lf])), (w, .inr (0, [.long u1.1, .long u1.2]))] := hD
  have hK : va_K D classes [] s := hK
  refine W.eq (g2 := F0 m 7 ls []) rfl ?_
  refine lv_aload hx hb d_PatternBook_Format_cut_7 (lv_at hl 3 rfl) ?_
  refine lv_aload_n hx hb d_PatternBook_Format_cut_9 rfl (lv_at hl 0 rfl) ?_
  refine va_get (D := D) (ci := 4) (v := .int fb) (C := R_PatternBook_DecletDecimal) (T := F_PatternBook_DecletDecimal) (N := 11) hx hb hts i_PatternBook_DecletDecimal hown hK hP 0 rfl rfl 0 (by decide) (hts _ k_102) (fun _ h9 => h9) rfl d_PatternBook_Format_cut_10 ?_
  refine uCall (WR := [(f, .inr (4, [.int fb, .int fp, .int fl, .int fg, .int fd, .int ft, .int fh, .ref mn, .ref mp, .int fr, .ref lf]))]) (RT := []) (va_runV (As := [.int fb]) (rest := []) ⟨hx, hb, hml, hown, hts⟩ (c_W_keep l D w H.size fb u1.1 u1.2) ⟨uCB 1 hts k_61 k_12 k_103 (by decide +kernel) rfl rfl ⟨Nat.le_of_ble_eq_true rfl, Nat.le_of_ble_eq_true rfl⟩, hts _ k_63, hts _ k_64⟩ (uPreV (ci := 0) (q0 := 1) hK hP hD hN [1] rfl (by decide) [] rfl rfl rfl) rfl rfl hl.1 rfl (lv_room (Nat.le_of_ble_eq_true rfl)) d_PatternBook_Format_cut_13 ⟨(Nat.le_of_ble_eq_true rfl), (Nat.le_of_ble_eq_true rfl)⟩) hK hP hD hS hA [1] [0] rfl rfl (by decide) (by decide) [] rfl (fun u2 H locs hu2 hP hD hK hS => ?_)
  have hP : va_P D classes [(f, .inr (4, [.int fb, .int fp, .int fl, .int fg, .int fd, .int ft, .int fh, .ref mn, .ref mp, .int fr, .ref lf])), (w, .inr (0, [.long u2.1, .long u2.2]))] H := hP
  have hD : va_D A [(f, .inr (4, [.int fb, .int fp, .int fl, .int fg, .int fd, .int ft, .int fh, .ref mn, .ref mp, .int fr, .ref lf])), (w, .inr (0, [.long u2.1, .long u2.2]))] := hD
  have hK : va_K D classes [] s := hK
  refine W.eq (g2 := F0 m 16 ls []) rfl ?_
  refine W.vret hx hb hr ?_ hS.2.2 d_PatternBook_Format_cut_16
  exact uEnd (u2.1, u2.2) (hP.sub [0, 1] rfl) (hK.sub [] rfl) (hD.sub [0, 1] (by decide) rfl) hS (by have eu1 := hu1.symm; subst eu1; have eu2 := hu2.symm; subst eu2; exact (rfl).symm) rfl
set_option maxHeartbeats 4000000 in
set_option maxRecDepth 100000 in
/-- PatternBook$Format.read(LPatternBook$Wide;LPatternBook$Datum;)V -/
theorem c_T_read (l : Launch) (D : va_G) (f : Nat) (w : Nat) (d : Nat) (mn : Nat) (mp : Nat) (lf : Nat) (b : Nat) (sz : Nat) (fb : Int32) (fp : Int32) (fl : Int32) (fg : Int32) (fd : Int32) (ft : Int32) (fh : Int32) (fr : Int32) (mnh : Int64) (mnl : Int64) (mph : Int64) (mpl : Int64) (wh : Int64) (wl : Int64) (kd : Int32) (ng : Bool) (ex : Int32) (bh : Int64) (bl : Int64) (hk : mok_T_read fd) : Met l y_PatternBook_Format_read (wsOf y_PatternBook_Format_read b_PatternBook_Format_read 3 none) ({ frames := 5, cells := 0, slots := 0, locals := 122 }) (uP D classes [(f, .inr (4, [.int fb, .int fp, .int fl, .int fg, .int fd, .int ft, .int fh, .ref mn, .ref mp, .int fr, .ref lf])), (mn, .inr (0, [.long mnh, .long mnl])), (mp, .inr (0, [.long mph, .long mpl])), (w, .inr (0, [.long wh, .long wl])), (d, .inr (1, [.int kd, .int (bI ng), .int ex, .ref b])), (b, .inr (0, [.long bh, .long bl]))] [] sz [.ref f, .ref w, .ref d]) (uQ D classes (fun _ : Int32 × Bool × Int32 × Int64 × Int64 => none) (fun u => u = (sl m_T_read) fb fl fd ft fh fr wh wl bh bl) (va_A [(f, .inr (4, [.int fb, .int fp, .int fl, .int fg, .int fd, .int ft, .int fh, .ref mn, .ref mp, .int fr, .ref lf])), (mn, .inr (0, [.long mnh, .long mnl])), (mp, .inr (0, [.long mph, .long mpl])), (w, .inr (0, [.long wh, .long wl])), (d, .inr (1, [.int kd, .int (bI ng), .int ex, .ref b])), (b, .inr (0, [.long bh, .long bl]))] sz) (fun _ => []) (fun u => [(f, .inr (4, [.int fb, .int fp, .int fl, .int fg, .int fd, .int ft, .int fh, .ref mn, .ref mp, .int fr, .ref lf])), (mn, .inr (0, [.long mnh, .long mnl])), (mp, .inr (0, [.long mph, .long mpl])), (w, .inr (0, [.long wh, .long wl])), (d, .inr (1, [.int u.1, .int (bI u.2.1), .int u.2.2.1, .ref b])), (b, .inr (0, [.long u.2.2.2.1, .long u.2.2.2.2]))])) 0 0 (va_A [(f, .inr (4, [.int fb, .int fp, .int fl, .int fg, .int fd, .int ft, .int fh, .ref mn, .ref mp, .int fr, .ref lf])), (mn, .inr (0, [.long mnh, .long mnl])), (mp, .inr (0, [.long mph, .long mpl])), (w, .inr (0, [.long wh, .long wl])), (d, .inr (1, [.int kd, .int (bI ng), .int ex, .ref b])), (b, .inr (0, [.long bh, .long bl]))] sz) := by
  rw [sl_eq m_T_read]
  refine uBegin (by decide +kernel) (Nat.le_of_ble_eq_true rfl) ?_
  intro p e s m below meth c A ls H locs hx hb hr hts hown hlocks hml hin hA hP hK hD hN hS hl
  have hl : lv_has ls 3 [(0, .ref f), (1, .ref w), (2, .ref d)] := hl
  unfold mok_T_read at hk
  refine lv_aload_n hx hb d_PatternBook_Format_read_0 rfl (lv_at hl 2 rfl) ?_
  refine lv_aload_n hx hb d_PatternBook_Format_read_1 rfl (lv_at hl 1 rfl) ?_
  refine lv_aload_n hx hb d_PatternBook_Format_read_2 rfl (lv_at hl 0 rfl) ?_
  refine va_get (D := D) (ci := 4) (v := .int fb) (C := R_PatternBook_DecletDecimal) (T := F_PatternBook_DecletDecimal) (N := 11) hx hb hts i_PatternBook_DecletDecimal hown hK hP 0 rfl rfl 0 (by decide) (hts _ k_102) (fun _ h9 => h9) rfl d_PatternBook_Format_read_3 ?_
  refine lv_iconst (v := 1) hx hb d_PatternBook_Format_read_6 (by decide) ?_
  refine lv_isub hx hb d_PatternBook_Format_read_7 ?_
  refine lv_iconst (v := 1) hx hb d_PatternBook_Format_read_8 (by decide) ?_
  refine uCall (WR := [(f, .inr (4, [.int fb, .int fp, .int fl, .int fg, .int fd, .int ft, .int fh, .ref mn, .ref mp, .int fr, .ref lf])), (mn, .inr (0, [.long mnh, .long mnl])), (mp, .inr (0, [.long mph, .long mpl])), (d, .inr (1, [.int kd, .int (bI ng), .int ex, .ref b])), (b, .inr (0, [.long bh, .long bl]))]) (RT := []) (va_runV (As := [.int (fb - (1:Int32)), .int (1:Int32)]) (rest := [.ref d]) ⟨hx, hb, hml, hown, hts⟩ (c_W_bitsAt l D w H.size (fb - (1:Int32)) (1:Int32) wh wl) ⟨uCB 2 hts k_57 k_12 k_104 (by decide +kernel) rfl rfl ⟨Nat.le_of_ble_eq_true rfl, Nat.le_of_ble_eq_true rfl⟩, hts _ k_59, hts _ k_60⟩ (uPreV (ci := 0) (q0 := 3) hK hP hD hN [3] rfl (by decide) [] rfl rfl rfl) rfl rfl hl.1 rfl (lv_room (Nat.le_of_ble_eq_true rfl)) d_PatternBook_Format_read_9 ⟨(Nat.le_of_ble_eq_true rfl), (Nat.le_of_ble_eq_true rfl)⟩) hK hP hD hS hA [3] [0, 1, 2, 4, 5] rfl rfl (by decide) (by decide) [] rfl (fun u1 H locs hu1 hP hD hK hS => ?_)
  have hP : va_P D classes [(f, .inr (4, [.int fb, .int fp, .int fl, .int fg, .int fd, .int ft, .int fh, .ref mn, .ref mp, .int fr, .ref lf])), (mn, .inr (0, [.long mnh, .long mnl])), (mp, .inr (0, [.long mph, .long mpl])), (d, .inr (1, [.int kd, .int (bI ng), .int ex, .ref b])), (b, .inr (0, [.long bh, .long bl])), (w, .inr (0, [.long wh, .long wl]))] H := hP
  have hD : va_D A [(f, .inr (4, [.int fb, .int fp, .int fl, .int fg, .int fd, .int ft, .int fh, .ref mn, .ref mp, .int fr, .ref lf])), (mn, .inr (0, [.long mnh, .long mnl])), (mp, .inr (0, [.long mph, .long mpl])), (d, .inr (1, [.int kd, .int (bI ng), .int ex, .ref b])), (b, .inr (0, [.long bh, .long bl])), (w, .inr (0, [.long wh, .long wl]))] := hD
  have hK : va_K D classes [] s := hK
  refine W.eq (g2 := F0 m 12 ls [.long u1, .ref d]) rfl ?_
  refine lv_lconst (v := 1) hx hb d_PatternBook_Format_read_12 (by decide) ?_
  refine W.lcmp hx hb d_PatternBook_Format_read_13 ?_
  refine lv_if_ne (tgt := 21) hx hb d_PatternBook_Format_read_14 (by decide) (fun c_2 => ?_) (fun c_2 => ?_)
  · refine lv_iconst (v := 0) hx hb d_PatternBook_Format_read_21 (by decide) ?_
    refine va_putN (D := D) (ci := 1) (v := .int (0:Int32)) (ty := .boolean) (C := R_PatternBook_Datum) (T := F_PatternBook_Datum) (N := 4) hx hb hts i_PatternBook_Datum t_PatternBook_Datum t_PatternBook_Datum_ok n_PatternBook_Datum hown hK hP hD hS 3 rfl rfl 1 (by decide) (va_Nw.use rfl (hN _ kn_9)) (fun _ h9 => h9) rfl (by decide +kernel) rfl rfl (Nat.le_of_ble_eq_true rfl) d_PatternBook_Format_read_22 (fun H locs hP hD hS => ?_)
    have hP : va_P D classes [(f, .inr (4, [.int fb, .int fp, .int fl, .int fg, .int fd, .int ft, .int fh, .ref mn, .ref mp, .int fr, .ref lf])), (mn, .inr (0, [.long mnh, .long mnl])), (mp, .inr (0, [.long mph, .long mpl])), (d, .inr (1, [.int kd, .int (bI false), .int ex, .ref b])), (b, .inr (0, [.long bh, .long bl])), (w, .inr (0, [.long wh, .long wl]))] H := hP
    have hD : va_D A [(f, .inr (4, [.int fb, .int fp, .int fl, .int fg, .int fd, .int ft, .int fh, .ref mn, .ref mp, .int fr, .ref lf])), (mn, .inr (0, [.long mnh, .long mnl])), (mp, .inr (0, [.long mph, .long mpl])), (d, .inr (1, [.int kd, .int (bI false), .int ex, .ref b])), (b, .inr (0, [.long bh, .long bl])), (w, .inr (0, [.long wh, .long wl]))] := hD
    refine lv_aload_n hx hb d_PatternBook_Format_read_25 rfl (lv_at hl 0 rfl) ?_
    refine lv_aload_n hx hb d_PatternBook_Format_read_26 rfl (lv_at hl 1 rfl) ?_
    refine lv_aload_n hx hb d_PatternBook_Format_read_27 rfl (lv_at hl 2 rfl) ?_
    have ho3 := hk
    refine uCall (WR := []) (RT := []) (va_runU (As := [.ref w, .ref d]) (rest := []) ⟨hx, hb, hml, hown, hts⟩ (c_T_readU l D f w d mn mp lf b H.size fb fp fl fg fd ft fh fr mnh mnl mph mpl wh wl kd false ex bh bl ho3) (uCU (x := ⟨R_PatternBook_Format, "readUnsigned", "(LPatternBook$Wide;LPatternBook$Datum;)V"⟩) (owner := R_PatternBook_Format) 2 hts k_193 k_124 k_106 k_107 (va_Decl.abs (hN _ kn_10)) k_252 k_195 (by decide +kernel) rfl rfl ⟨Nat.le_of_ble_eq_true rfl, Nat.le_of_ble_eq_true rfl⟩) (uPreV (ci := 4) (q0 := 0) hK hP hD hN [0, 1, 2, 5, 3, 4] rfl (by decide) [] rfl rfl rfl) rfl rfl hl.1 rfl (lv_room (Nat.le_of_ble_eq_true rfl)) d_PatternBook_Format_read_28 ⟨(Nat.le_of_ble_eq_true rfl), (Nat.le_of_ble_eq_true rfl)⟩) hK hP hD hS hA [0, 1, 2, 5, 3, 4] [] rfl rfl (by decide) (by decide) [] rfl (fun u3 H locs hu3 hP hD hK hS => ?_)
    have hP : va_P D classes [(f, .inr (4, [.int fb, .int fp, .int fl, .int fg, .int fd, .int ft, .int fh, .ref mn, .ref mp, .int fr, .ref lf])), (mn, .inr (0, [.long mnh, .long mnl])), (mp, .inr (0, [.long mph, .long mpl])), (w, .inr (0, [.long wh, .long wl])), (d, .inr (1, [.int u3.1, .int (bI false), .int u3.2.1, .ref b])), (b, .inr (0, [.long u3.2.2.1, .long u3.2.2.2]))] H := hP
    have hD : va_D A [(f, .inr (4, [.int fb, .int fp, .int fl, .int fg, .int fd, .int ft, .int fh, .ref mn, .ref mp, .int fr, .ref lf])), (mn, .inr (0, [.long mnh, .long mnl])), (mp, .inr (0, [.long mph, .long mpl])), (w, .inr (0, [.long wh, .long wl])), (d, .inr (1, [.int u3.1, .int (bI false), .int u3.2.1, .ref b])), (b, .inr (0, [.long u3.2.2.1, .long u3.2.2.2]))] := hD
    have hK : va_K D classes [] s := hK
    refine W.eq (g2 := F0 m 31 ls []) rfl ?_
    refine W.vret hx hb hr ?_ hS.2.2 d_PatternBook_Format_read_31
    exact uEnd (u3.1, false, u3.2.1, u3.2.2.1, u3.2.2.2) (hP.sub [0, 1, 2, 3, 4, 5] rfl) (hK.sub [] rfl) (hD.sub [0, 1, 2, 3, 4, 5] (by decide) rfl) hS (by have eu1 := hu1.symm; subst eu1; have eu3 := hu3.symm; subst eu3; exact ((if_neg c_2).trans (rfl)).symm) rfl
  · refine lv_iconst (v := 1) hx hb d_PatternBook_Format_read_17 (by decide) ?_
    refine lv_goto (tgt := 22) hx hb d_PatternBook_Format_read_18 (by decide) ?_
    refine va_putN (D := D) (ci := 1) (v := .int (1:Int32)) (ty := .boolean) (C := R_PatternBook_Datum) (T := F_PatternBook_Datum) (N := 4) hx hb hts i_PatternBook_Datum t_PatternBook_Datum t_PatternBook_Datum_ok n_PatternBook_Datum hown hK hP hD hS 3 rfl rfl 1 (by decide) (va_Nw.use rfl (hN _ kn_9)) (fun _ h9 => h9) rfl (by decide +kernel) rfl rfl (Nat.le_of_ble_eq_true rfl) d_PatternBook_Format_read_22 (fun H locs hP hD hS => ?_)
    have hP : va_P D classes [(f, .inr (4, [.int fb, .int fp, .int fl, .int fg, .int fd, .int ft, .int fh, .ref mn, .ref mp, .int fr, .ref lf])), (mn, .inr (0, [.long mnh, .long mnl])), (mp, .inr (0, [.long mph, .long mpl])), (d, .inr (1, [.int kd, .int (bI true), .int ex, .ref b])), (b, .inr (0, [.long bh, .long bl])), (w, .inr (0, [.long wh, .long wl]))] H := hP
    have hD : va_D A [(f, .inr (4, [.int fb, .int fp, .int fl, .int fg, .int fd, .int ft, .int fh, .ref mn, .ref mp, .int fr, .ref lf])), (mn, .inr (0, [.long mnh, .long mnl])), (mp, .inr (0, [.long mph, .long mpl])), (d, .inr (1, [.int kd, .int (bI true), .int ex, .ref b])), (b, .inr (0, [.long bh, .long bl])), (w, .inr (0, [.long wh, .long wl]))] := hD
    refine lv_aload_n hx hb d_PatternBook_Format_read_25 rfl (lv_at hl 0 rfl) ?_
    refine lv_aload_n hx hb d_PatternBook_Format_read_26 rfl (lv_at hl 1 rfl) ?_
    refine lv_aload_n hx hb d_PatternBook_Format_read_27 rfl (lv_at hl 2 rfl) ?_
    have ho4 := hk
    refine uCall (WR := []) (RT := []) (va_runU (As := [.ref w, .ref d]) (rest := []) ⟨hx, hb, hml, hown, hts⟩ (c_T_readU l D f w d mn mp lf b H.size fb fp fl fg fd ft fh fr mnh mnl mph mpl wh wl kd true ex bh bl ho4) (uCU (x := ⟨R_PatternBook_Format, "readUnsigned", "(LPatternBook$Wide;LPatternBook$Datum;)V"⟩) (owner := R_PatternBook_Format) 2 hts k_193 k_124 k_106 k_107 (va_Decl.abs (hN _ kn_10)) k_252 k_195 (by decide +kernel) rfl rfl ⟨Nat.le_of_ble_eq_true rfl, Nat.le_of_ble_eq_true rfl⟩) (uPreV (ci := 4) (q0 := 0) hK hP hD hN [0, 1, 2, 5, 3, 4] rfl (by decide) [] rfl rfl rfl) rfl rfl hl.1 rfl (lv_room (Nat.le_of_ble_eq_true rfl)) d_PatternBook_Format_read_28 ⟨(Nat.le_of_ble_eq_true rfl), (Nat.le_of_ble_eq_true rfl)⟩) hK hP hD hS hA [0, 1, 2, 5, 3, 4] [] rfl rfl (by decide) (by decide) [] rfl (fun u4 H locs hu4 hP hD hK hS => ?_)
    have hP : va_P D classes [(f, .inr (4, [.int fb, .int fp, .int fl, .int fg, .int fd, .int ft, .int fh, .ref mn, .ref mp, .int fr, .ref lf])), (mn, .inr (0, [.long mnh, .long mnl])), (mp, .inr (0, [.long mph, .long mpl])), (w, .inr (0, [.long wh, .long wl])), (d, .inr (1, [.int u4.1, .int (bI true), .int u4.2.1, .ref b])), (b, .inr (0, [.long u4.2.2.1, .long u4.2.2.2]))] H := hP
    have hD : va_D A [(f, .inr (4, [.int fb, .int fp, .int fl, .int fg, .int fd, .int ft, .int fh, .ref mn, .ref mp, .int fr, .ref lf])), (mn, .inr (0, [.long mnh, .long mnl])), (mp, .inr (0, [.long mph, .long mpl])), (w, .inr (0, [.long wh, .long wl])), (d, .inr (1, [.int u4.1, .int (bI true), .int u4.2.1, .ref b])), (b, .inr (0, [.long u4.2.2.1, .long u4.2.2.2]))] := hD
    have hK : va_K D classes [] s := hK
    refine W.eq (g2 := F0 m 31 ls []) rfl ?_
    refine W.vret hx hb hr ?_ hS.2.2 d_PatternBook_Format_read_31
    exact uEnd (u4.1, true, u4.2.1, u4.2.2.1, u4.2.2.2) (hP.sub [0, 1, 2, 3, 4, 5] rfl) (hK.sub [] rfl) (hD.sub [0, 1, 2, 3, 4, 5] (by decide) rfl) hS (by have eu1 := hu1.symm; subst eu1; have eu4 := hu4.symm; subst eu4; exact ((if_pos c_2).trans (rfl)).symm) rfl
set_option maxHeartbeats 4000000 in
set_option maxRecDepth 100000 in
/-- PatternBook$Format.write(LPatternBook$Datum;LPatternBook$Wide;)Z -/
theorem c_T_write (l : Launch) (D : va_G) (f : Nat) (d : Nat) (w : Nat) (mn : Nat) (mp : Nat) (lf : Nat) (b : Nat) (sz : Nat) (fb : Int32) (fp : Int32) (fl : Int32) (fg : Int32) (fd : Int32) (ft : Int32) (fh : Int32) (fr : Int32) (mnh : Int64) (mnl : Int64) (mph : Int64) (mpl : Int64) (lfh : Int64) (lfl : Int64) (kd : Int32) (ng : Bool) (ex : Int32) (bh : Int64) (bl : Int64) (wh : Int64) (wl : Int64) (hk : mok_T_write fd) : Met l y_PatternBook_Format_write (wsOf y_PatternBook_Format_write b_PatternBook_Format_write 3 (some .boolean)) ({ frames := 5, cells := 0, slots := 0, locals := 109 }) (uP D classes [(f, .inr (4, [.int fb, .int fp, .int fl, .int fg, .int fd, .int ft, .int fh, .ref mn, .ref mp, .int fr, .ref lf])), (mn, .inr (0, [.long mnh, .long mnl])), (mp, .inr (0, [.long mph, .long mpl])), (lf, .inr (0, [.long lfh, .long lfl])), (d, .inr (1, [.int kd, .int (bI ng), .int ex, .ref b])), (b, .inr (0, [.long bh, .long bl])), (w, .inr (0, [.long wh, .long wl]))] [] sz [.ref f, .ref d, .ref w]) (uQ D classes (fun u : Bool × Int64 × Int64 × Int64 × Int64 => some (.int (bI u.1))) (fun u => u = (sl m_T_write) fb fl fg fd ft fh fr mnh mnl mph mpl lfh lfl kd ng ex bh bl wh wl) (va_A [(f, .inr (4, [.int fb, .int fp, .int fl, .int fg, .int fd, .int ft, .int fh, .ref mn, .ref mp, .int fr, .ref lf])), (mn, .inr (0, [.long mnh, .long mnl])), (mp, .inr (0, [.long mph, .long mpl])), (lf, .inr (0, [.long lfh, .long lfl])), (d, .inr (1, [.int kd, .int (bI ng), .int ex, .ref b])), (b, .inr (0, [.long bh, .long bl])), (w, .inr (0, [.long wh, .long wl]))] sz) (fun _ => []) (fun u => [(f, .inr (4, [.int fb, .int fp, .int fl, .int fg, .int fd, .int ft, .int fh, .ref mn, .ref mp, .int fr, .ref lf])), (mn, .inr (0, [.long mnh, .long mnl])), (mp, .inr (0, [.long mph, .long mpl])), (lf, .inr (0, [.long u.2.1, .long u.2.2.1])), (d, .inr (1, [.int kd, .int (bI ng), .int ex, .ref b])), (b, .inr (0, [.long bh, .long bl])), (w, .inr (0, [.long u.2.2.2.1, .long u.2.2.2.2]))])) 0 0 (va_A [(f, .inr (4, [.int fb, .int fp, .int fl, .int fg, .int fd, .int ft, .int fh, .ref mn, .ref mp, .int fr, .ref lf])), (mn, .inr (0, [.long mnh, .long mnl])), (mp, .inr (0, [.long mph, .long mpl])), (lf, .inr (0, [.long lfh, .long lfl])), (d, .inr (1, [.int kd, .int (bI ng), .int ex, .ref b])), (b, .inr (0, [.long bh, .long bl])), (w, .inr (0, [.long wh, .long wl]))] sz) := by
  rw [sl_eq m_T_write]
  refine uBegin (by decide +kernel) (Nat.le_of_ble_eq_true rfl) ?_
  intro p e s m below meth c A ls H locs hx hb hr hts hown hlocks hml hin hA hP hK hD hN hS hl
  have hl : lv_has ls 3 [(0, .ref f), (1, .ref d), (2, .ref w)] := hl
  unfold mok_T_write at hk
  refine lv_aload_n hx hb d_PatternBook_Format_write_0 rfl (lv_at hl 0 rfl) ?_
  refine lv_aload_n hx hb d_PatternBook_Format_write_1 rfl (lv_at hl 1 rfl) ?_
  refine uCall (WR := [(lf, .inr (0, [.long lfh, .long lfl])), (w, .inr (0, [.long wh, .long wl]))]) (RT := []) (va_runV (As := [.ref d]) (rest := []) ⟨hx, hb, hml, hown, hts⟩ (c_T_has l D f d mn mp lf b H.size fb fp fl fg fd ft fh fr mnh mnl mph mpl kd ng ex bh bl) ⟨uCB 1 hts k_110 k_111 k_112 (by decide +kernel) rfl rfl ⟨Nat.le_of_ble_eq_true rfl, Nat.le_of_ble_eq_true rfl⟩, hts _ k_113, hts _ k_253⟩ (uPreV (ci := 4) (q0 := 0) hK hP hD hN [0, 1, 2, 4, 5] rfl (by decide) [] rfl rfl rfl) rfl rfl hl.1 rfl (lv_room (Nat.le_of_ble_eq_true rfl)) d_PatternBook_Format_write_2 ⟨(Nat.le_of_ble_eq_true rfl), (Nat.le_of_ble_eq_true rfl)⟩) hK hP hD hS hA [0, 1, 2, 4, 5] [3, 6] rfl rfl (by decide) (by decide) [] rfl (fun u1 H locs hu1 hP hD hK hS => ?_)
  have hP : va_P D classes [(lf, .inr (0, [.long lfh, .long lfl])), (w, .inr (0, [.long wh, .long wl])), (f, .inr (4, [.int fb, .int fp, .int fl, .int fg, .int fd, .int ft, .int fh, .ref mn, .ref mp, .int fr, .ref lf])), (mn, .inr (0, [.long mnh, .long mnl])), (mp, .inr (0, [.long mph, .long mpl])), (d, .inr (1, [.int kd, .int (bI ng), .int ex, .ref b])), (b, .inr (0, [.long bh, .long bl]))] H := hP
  have hD : va_D A [(lf, .inr (0, [.long lfh, .long lfl])), (w, .inr (0, [.long wh, .long wl])), (f, .inr (4, [.int fb, .int fp, .int fl, .int fg, .int fd, .int ft, .int fh, .ref mn, .ref mp, .int fr, .ref lf])), (mn, .inr (0, [.long mnh, .long mnl])), (mp, .inr (0, [.long mph, .long mpl])), (d, .inr (1, [.int kd, .int (bI ng), .int ex, .ref b])), (b, .inr (0, [.long bh, .long bl]))] := hD
  have hK : va_K D classes [] s := hK
  refine W.eq (g2 := F0 m 5 ls [.int (bI u1)]) rfl ?_
  refine lv_if_ne (tgt := 10) hx hb d_PatternBook_Format_write_5 (by decide) (fun c_2 => ?_) (fun c_2 => ?_)
  · refine lv_aload_n hx hb d_PatternBook_Format_write_10 rfl (lv_at hl 2 rfl) ?_
    refine lv_lconst (v := 0) hx hb d_PatternBook_Format_write_11 (by decide) ?_
    refine lv_lconst (v := 0) hx hb d_PatternBook_Format_write_12 (by decide) ?_
    refine uCall (WR := [(lf, .inr (0, [.long lfh, .long lfl])), (f, .inr (4, [.int fb, .int fp, .int fl, .int fg, .int fd, .int ft, .int fh, .ref mn, .ref mp, .int fr, .ref lf])), (mn, .inr (0, [.long mnh, .long mnl])), (mp, .inr (0, [.long mph, .long mpl])), (d, .inr (1, [.int kd, .int (bI ng), .int ex, .ref b])), (b, .inr (0, [.long bh, .long bl]))]) (RT := []) (va_runV (As := [.long (0:Int64), .long (0:Int64)]) (rest := []) ⟨hx, hb, hml, hown, hts⟩ (c_W_set l D w H.size (0:Int64) (0:Int64) wh wl) ⟨uCB 2 hts k_11 k_12 k_101 (by decide +kernel) rfl rfl ⟨Nat.le_of_ble_eq_true rfl, Nat.le_of_ble_eq_true rfl⟩, hts _ k_14, hts _ k_15⟩ (uPreV (ci := 0) (q0 := 1) hK hP hD hN [1] rfl (by decide) [] rfl rfl rfl) rfl rfl hl.1 rfl (lv_room (Nat.le_of_ble_eq_true rfl)) d_PatternBook_Format_write_13 ⟨(Nat.le_of_ble_eq_true rfl), (Nat.le_of_ble_eq_true rfl)⟩) hK hP hD hS hA [1] [0, 2, 3, 4, 5, 6] rfl rfl (by decide) (by decide) [] rfl (fun u3 H locs hu3 hP hD hK hS => ?_)
    have hP : va_P D classes [(lf, .inr (0, [.long lfh, .long lfl])), (f, .inr (4, [.int fb, .int fp, .int fl, .int fg, .int fd, .int ft, .int fh, .ref mn, .ref mp, .int fr, .ref lf])), (mn, .inr (0, [.long mnh, .long mnl])), (mp, .inr (0, [.long mph, .long mpl])), (d, .inr (1, [.int kd, .int (bI ng), .int ex, .ref b])), (b, .inr (0, [.long bh, .long bl])), (w, .inr (0, [.long u3.1, .long u3.2]))] H := hP
    have hD : va_D A [(lf, .inr (0, [.long lfh, .long lfl])), (f, .inr (4, [.int fb, .int fp, .int fl, .int fg, .int fd, .int ft, .int fh, .ref mn, .ref mp, .int fr, .ref lf])), (mn, .inr (0, [.long mnh, .long mnl])), (mp, .inr (0, [.long mph, .long mpl])), (d, .inr (1, [.int kd, .int (bI ng), .int ex, .ref b])), (b, .inr (0, [.long bh, .long bl])), (w, .inr (0, [.long u3.1, .long u3.2]))] := hD
    have hK : va_K D classes [] s := hK
    refine W.eq (g2 := F0 m 16 ls []) rfl ?_
    refine lv_aload_n hx hb d_PatternBook_Format_write_16 rfl (lv_at hl 0 rfl) ?_
    refine lv_aload_n hx hb d_PatternBook_Format_write_17 rfl (lv_at hl 1 rfl) ?_
    refine lv_aload_n hx hb d_PatternBook_Format_write_18 rfl (lv_at hl 2 rfl) ?_
    have ho4 := hk
    refine uCall (WR := [(mn, .inr (0, [.long mnh, .long mnl])), (mp, .inr (0, [.long mph, .long mpl]))]) (RT := []) (va_runU (As := [.ref d, .ref w]) (rest := []) ⟨hx, hb, hml, hown, hts⟩ (c_T_writeU l D f d w mn mp lf b H.size fb fp fl fg fd ft fh fr lfh lfl kd ng ex bh bl u3.1 u3.2 ho4) (uCU (x := ⟨R_PatternBook_Format, "writeUnsigned", "(LPatternBook$Datum;LPatternBook$Wide;)V"⟩) (owner := R_PatternBook_Format) 2 hts k_197 k_124 k_116 k_117 (va_Decl.abs (hN _ kn_11)) k_254 k_199 (by decide +kernel) rfl rfl ⟨Nat.le_of_ble_eq_true rfl, Nat.le_of_ble_eq_true rfl⟩) (uPreV (ci := 4) (q0 := 1) hK hP hD hN [1, 0, 4, 5, 6] rfl (by decide) [] rfl rfl rfl) rfl rfl hl.1 rfl (lv_room (Nat.le_of_ble_eq_true rfl)) d_PatternBook_Format_write_19 ⟨(Nat.le_of_ble_eq_true rfl), (Nat.le_of_ble_eq_true rfl)⟩) hK hP hD hS hA [1, 0, 4, 5, 6] [2, 3] rfl rfl (by decide) (by decide) [] rfl (fun u4 H locs hu4 hP hD hK hS => ?_)
    have hP : va_P D classes [(mn, .inr (0, [.long mnh, .long mnl])), (mp, .inr (0, [.long mph, .long mpl])), (f, .inr (4, [.int fb, .int fp, .int fl, .int fg, .int fd, .int ft, .int fh, .ref mn, .ref mp, .int fr, .ref lf])), (lf, .inr (0, [.long u4.1, .long u4.2.1])), (d, .inr (1, [.int kd, .int (bI ng), .int ex, .ref b])), (b, .inr (0, [.long bh, .long bl])), (w, .inr (0, [.long u4.2.2.1, .long u4.2.2.2]))] H := hP
    have hD : va_D A [(mn, .inr (0, [.long mnh, .long mnl])), (mp, .inr (0, [.long mph, .long mpl])), (f, .inr (4, [.int fb, .int fp, .int fl, .int fg, .int fd, .int ft, .int fh, .ref mn, .ref mp, .int fr, .ref lf])), (lf, .inr (0, [.long u4.1, .long u4.2.1])), (d, .inr (1, [.int kd, .int (bI ng), .int ex, .ref b])), (b, .inr (0, [.long bh, .long bl])), (w, .inr (0, [.long u4.2.2.1, .long u4.2.2.2]))] := hD
    have hK : va_K D classes [] s := hK
    refine W.eq (g2 := F0 m 22 ls []) rfl ?_
    refine lv_aload_n hx hb d_PatternBook_Format_write_22 rfl (lv_at hl 1 rfl) ?_
    refine va_getN (D := D) (ci := 1) (v := .int (bI ng)) (C := R_PatternBook_Datum) (T := F_PatternBook_Datum) (N := 4) hx hb hts i_PatternBook_Datum hown hK hP 4 rfl rfl 1 (by decide) (va_Nw.use rfl (hN _ kn_9)) (fun _ h9 => h9) rfl d_PatternBook_Format_write_23 ?_
    refine lv_if_eq (tgt := 40) hx hb d_PatternBook_Format_write_26 (by decide) (fun c_5 => ?_) (fun c_5 => ?_)
    · refine lv_iconst (v := 1) hx hb d_PatternBook_Format_write_40 (by decide) ?_
      refine W.zret hx hb hr rfl ?_ hS.2.2 d_PatternBook_Format_write_41
      exact uEnd (true, u4.1, u4.2.1, u4.2.2.1, u4.2.2.2) (hP.sub [2, 0, 1, 3, 4, 5, 6] rfl) (hK.sub [] rfl) (hD.sub [2, 0, 1, 3, 4, 5, 6] (by decide) rfl) hS (by have eu1 := hu1.symm; subst eu1; have eu3 := hu3.symm; subst eu3; have eu4 := hu4.symm; subst eu4; exact ((if_neg c_2).trans ((if_pos c_5).trans (rfl))).symm) rfl
    · refine lv_aload_n hx hb d_PatternBook_Format_write_29 rfl (lv_at hl 2 rfl) ?_
      refine lv_aload_n hx hb d_PatternBook_Format_write_30 rfl (lv_at hl 0 rfl) ?_
      refine va_get (D := D) (ci := 4) (v := .int fb) (C := R_PatternBook_DecletDecimal) (T := F_PatternBook_DecletDecimal) (N := 11) hx hb hts i_PatternBook_DecletDecimal hown hK hP 2 rfl rfl 0 (by decide) (hts _ k_102) (fun _ h9 => h9) rfl d_PatternBook_Format_write_31 ?_
      refine lv_iconst (v := 1) hx hb d_PatternBook_Format_write_34 (by decide) ?_
      refine lv_isub hx hb d_PatternBook_Format_write_35 ?_
      refine lv_lconst (v := 1) hx hb d_PatternBook_Format_write_36 (by decide) ?_
      refine uCall (WR := [(mn, .inr (0, [.long mnh, .long mnl])), (mp, .inr (0, [.long mph, .long mpl])), (f, .inr (4, [.int fb, .int fp, .int fl, .int fg, .int fd, .int ft, .int fh, .ref mn, .ref mp, .int fr, .ref lf])), (lf, .inr (0, [.long u4.1, .long u4.2.1])), (d, .inr (1, [.int kd, .int (bI ng), .int ex, .ref b])), (b, .inr (0, [.long bh, .long bl]))]) (RT := []) (va_runV (As := [.int (fb - (1:Int32)), .long (1:Int64)]) (rest := []) ⟨hx, hb, hml, hown, hts⟩ (c_W_addBits l D w H.size (fb - (1:Int32)) (1:Int64) u4.2.2.1 u4.2.2.2) ⟨uCB 2 hts k_76 k_12 k_120 (by decide +kernel) rfl rfl ⟨Nat.le_of_ble_eq_true rfl, Nat.le_of_ble_eq_true rfl⟩, hts _ k_78, hts _ k_79⟩ (uPreV (ci := 0) (q0 := 6) hK hP hD hN [6] rfl (by decide) [] rfl rfl rfl) rfl rfl hl.1 rfl (lv_room (Nat.le_of_ble_eq_true rfl)) d_PatternBook_Format_write_37 ⟨(Nat.le_of_ble_eq_true rfl), (Nat.le_of_ble_eq_true rfl)⟩) hK hP hD hS hA [6] [0, 1, 2, 3, 4, 5] rfl rfl (by decide) (by decide) [] rfl (fun u6 H locs hu6 hP hD hK hS => ?_)
      have hP : va_P D classes [(mn, .inr (0, [.long mnh, .long mnl])), (mp, .inr (0, [.long mph, .long mpl])), (f, .inr (4, [.int fb, .int fp, .int fl, .int fg, .int fd, .int ft, .int fh, .ref mn, .ref mp, .int fr, .ref lf])), (lf, .inr (0, [.long u4.1, .long u4.2.1])), (d, .inr (1, [.int kd, .int (bI ng), .int ex, .ref b])), (b, .inr (0, [.long bh, .long bl])), (w, .inr (0, [.long u6.1, .long u6.2]))] H := hP
      have hD : va_D A [(mn, .inr (0, [.long mnh, .long mnl])), (mp, .inr (0, [.long mph, .long mpl])), (f, .inr (4, [.int fb, .int fp, .int fl, .int fg, .int fd, .int ft, .int fh, .ref mn, .ref mp, .int fr, .ref lf])), (lf, .inr (0, [.long u4.1, .long u4.2.1])), (d, .inr (1, [.int kd, .int (bI ng), .int ex, .ref b])), (b, .inr (0, [.long bh, .long bl])), (w, .inr (0, [.long u6.1, .long u6.2]))] := hD
      have hK : va_K D classes [] s := hK
      refine W.eq (g2 := F0 m 40 ls []) rfl ?_
      refine lv_iconst (v := 1) hx hb d_PatternBook_Format_write_40 (by decide) ?_
      refine W.zret hx hb hr rfl ?_ hS.2.2 d_PatternBook_Format_write_41
      exact uEnd (true, u4.1, u4.2.1, u6.1, u6.2) (hP.sub [2, 0, 1, 3, 4, 5, 6] rfl) (hK.sub [] rfl) (hD.sub [2, 0, 1, 3, 4, 5, 6] (by decide) rfl) hS (by have eu1 := hu1.symm; subst eu1; have eu3 := hu3.symm; subst eu3; have eu4 := hu4.symm; subst eu4; have eu6 := hu6.symm; subst eu6; exact ((if_neg c_2).trans ((if_neg c_5).trans (rfl))).symm) rfl
  · refine lv_iconst (v := 0) hx hb d_PatternBook_Format_write_8 (by decide) ?_
    refine W.zret hx hb hr rfl ?_ hS.2.2 d_PatternBook_Format_write_9
    exact uEnd (false, lfh, lfl, wh, wl) (hP.sub [2, 3, 4, 0, 5, 6, 1] rfl) (hK.sub [] rfl) (hD.sub [2, 3, 4, 0, 5, 6, 1] (by decide) rfl) hS (by have eu1 := hu1.symm; subst eu1; exact ((if_pos c_2).trans (rfl)).symm) rfl
