set_option maxHeartbeats 4000000 in
set_option maxRecDepth 100000 in
/-- java/lang/Long.compare(JJ)I -/
theorem c_Long_compare (l : Launch) (D : va_G)  (sz : Nat) (x : Int64) (y : Int64) : Met l y_java_lang_Long_compare (wsOf y_java_lang_Long_compare b_java_lang_Long_compare 4 (some .int)) ({ frames := 0, cells := 0, slots := 0, locals := 0 }) (uP D classes [] [] sz [.long x, .long y]) (uQ D classes (fun u : Int32 => some (.int u)) (fun u => u = (sl m_Long_compare) x y) (va_A [] sz) (fun _ => []) (fun u => [])) 0 0 (va_A [] sz) := by
  rw [sl_eq m_Long_compare]
  refine uBegin (by decide +kernel) (Nat.le_of_ble_eq_true rfl) ?_
  intro p e s m below meth c A ls H locs hx hb hr hts hown hlocks hml hin hA hP hK hD hN hS hl
  have hl : lv_has ls 4 [(0, .long x), (2, .long y)] := hl
  refine lv_lload_n hx hb d_java_lang_Long_compare_0 rfl (lv_at hl 0 rfl) ?_
  refine lv_lload_n hx hb d_java_lang_Long_compare_1 rfl (lv_at hl 1 rfl) ?_
  refine W.lcmp hx hb d_java_lang_Long_compare_2 ?_
  refine lv_if_ge (tgt := 10) hx hb d_java_lang_Long_compare_3 (by decide) (fun c_1 => ?_) (fun c_1 => ?_)
  · refine lv_lload_n hx hb d_java_lang_Long_compare_10 rfl (lv_at hl 0 rfl) ?_
    refine lv_lload_n hx hb d_java_lang_Long_compare_11 rfl (lv_at hl 1 rfl) ?_
    refine W.lcmp hx hb d_java_lang_Long_compare_12 ?_
    refine lv_if_ne (tgt := 20) hx hb d_java_lang_Long_compare_13 (by decide) (fun c_2 => ?_) (fun c_2 => ?_)
    · refine lv_iconst (v := 1) hx hb d_java_lang_Long_compare_20 (by decide) ?_
      refine W.iret hx hb hr ?_ hS.2.2 d_java_lang_Long_compare_21
      exact uEnd (1:Int32) (hP.sub [] rfl) (hK.sub [] rfl) (hD.sub [] (by decide) rfl) hS (by  exact ((if_pos c_1).trans ((if_neg c_2).trans (rfl))).symm) rfl
    · refine lv_iconst (v := 0) hx hb d_java_lang_Long_compare_16 (by decide) ?_
      refine lv_goto (tgt := 21) hx hb d_java_lang_Long_compare_17 (by decide) ?_
      refine W.iret hx hb hr ?_ hS.2.2 d_java_lang_Long_compare_21
      exact uEnd (0:Int32) (hP.sub [] rfl) (hK.sub [] rfl) (hD.sub [] (by decide) rfl) hS (by  exact ((if_pos c_1).trans ((if_pos c_2).trans (rfl))).symm) rfl
  · refine lv_iconst (v := (-1)) hx hb d_java_lang_Long_compare_6 (by decide) ?_
    refine lv_goto (tgt := 21) hx hb d_java_lang_Long_compare_7 (by decide) ?_
    refine W.iret hx hb hr ?_ hS.2.2 d_java_lang_Long_compare_21
    exact uEnd (-1:Int32) (hP.sub [] rfl) (hK.sub [] rfl) (hD.sub [] (by decide) rfl) hS (by  exact ((if_neg c_1).trans (rfl)).symm) rfl
set_option maxHeartbeats 4000000 in
set_option maxRecDepth 100000 in
/-- java/lang/Long.compareUnsigned(JJ)I -/
theorem c_Long_compareU (l : Launch) (D : va_G)  (sz : Nat) (x : Int64) (y : Int64) : Met l y_java_lang_Long_compareUnsigned (wsOf y_java_lang_Long_compareUnsigned b_java_lang_Long_compareUnsigned 4 (some .int)) ({ frames := 1, cells := 0, slots := 0, locals := 23 }) (uP D classes [] [] sz [.long x, .long y]) (uQ D classes (fun u : Int32 => some (.int u)) (fun u => u = (sl m_Long_compareU) x y) (va_A [] sz) (fun _ => []) (fun u => [])) 0 0 (va_A [] sz) := by
  rw [sl_eq m_Long_compareU]
  refine uBegin (by decide +kernel) (Nat.le_of_ble_eq_true rfl) ?_
  intro p e s m below meth c A ls H locs hx hb hr hts hown hlocks hml hin hA hP hK hD hN hS hl
  have hl : lv_has ls 4 [(0, .long x), (2, .long y)] := hl
  refine lv_lload_n hx hb d_java_lang_Long_compareUnsigned_0 rfl (lv_at hl 0 rfl) ?_
  refine lv_ldc2 (v := (-9223372036854775808)) hx hb hown (hts _ k_1) d_java_lang_Long_compareUnsigned_1 ?_
  refine lv_ladd hx hb d_java_lang_Long_compareUnsigned_4 ?_
  refine lv_lload_n hx hb d_java_lang_Long_compareUnsigned_5 rfl (lv_at hl 1 rfl) ?_
  refine lv_ldc2 (v := (-9223372036854775808)) hx hb hown (hts _ k_1) d_java_lang_Long_compareUnsigned_6 ?_
  refine lv_ladd hx hb d_java_lang_Long_compareUnsigned_9 ?_
  refine uCall (WR := []) (RT := []) (va_runS (As := [.long (x + (-9223372036854775808:Int64)), .long (y + (-9223372036854775808:Int64))]) (rest := []) ⟨hx, hb, hml, hown, hts⟩ (c_Long_compare l D H.size (x + (-9223372036854775808:Int64)) (y + (-9223372036854775808:Int64))) ⟨uCB 2 hts k_2 k_3 k_4 (by decide +kernel) rfl rfl ⟨Nat.le_of_ble_eq_true rfl, Nat.le_of_ble_eq_true rfl⟩, hts _ k_5⟩ (uPreS hK hP hD hN [] rfl (by decide) [] rfl) rfl rfl hl.1 rfl (lv_room (Nat.le_of_ble_eq_true rfl)) d_java_lang_Long_compareUnsigned_10 ⟨(Nat.le_of_ble_eq_true rfl), (Nat.le_of_ble_eq_true rfl)⟩) hK hP hD hS hA [] [] rfl rfl (by decide) (by decide) [] rfl (fun u1 H locs hu1 hP hD hK hS => ?_)
  have hP : va_P D classes [] H := hP
  have hD : va_D A [] := hD
  have hK : va_K D classes [] s := hK
  refine W.eq (g2 := F0 m 13 ls [.int u1]) rfl ?_
  refine W.iret hx hb hr ?_ hS.2.2 d_java_lang_Long_compareUnsigned_13
  exact uEnd u1 (hP.sub [] rfl) (hK.sub [] rfl) (hD.sub [] (by decide) rfl) hS (by have eu1 := hu1.symm; subst eu1; exact (rfl).symm) rfl
set_option maxHeartbeats 4000000 in
set_option maxRecDepth 100000 in
/-- PatternBook$Wide.<init>()V -/
theorem c_W_init (l : Launch) (D : va_G) (w : Nat) (sz : Nat) (wh : Int64) (wl : Int64) : Met l y_PatternBook_Wide_init (wsOf y_PatternBook_Wide_init b_PatternBook_Wide_init 1 none) ({ frames := 1, cells := 0, slots := 0, locals := 12 }) (uP D classes [(w, .inr (0, [.long wh, .long wl]))] [] sz [.ref w]) (uQ D classes (fun _ : Unit => none) (fun u => True) (va_A [(w, .inr (0, [.long wh, .long wl]))] sz) (fun _ => []) (fun u => [(w, .inr (0, [.long wh, .long wl]))])) 0 0 (va_A [(w, .inr (0, [.long wh, .long wl]))] sz) := by
  refine uBegin (by decide +kernel) (Nat.le_of_ble_eq_true rfl) ?_
  intro p e s m below meth c A ls H locs hx hb hr hts hown hlocks hml hin hA hP hK hD hN hS hl
  have hl : lv_has ls 1 [(0, .ref w)] := hl
  refine lv_aload_n hx hb d_PatternBook_Wide_init_0 rfl (lv_at hl 0 rfl) ?_
  refine W.objInit hx hb hown (hts _ k_6) (hts _ k_7) (hts _ k_8) rfl (by rw [hml]; exact hl.1) rfl d_PatternBook_Wide_init_1 (Nat.le_of_ble_eq_true rfl) (Nat.le_of_ble_eq_true rfl) ?_
  refine W.eq (g2 := F0 m 4 ls []) rfl ?_
  refine W.vret hx hb hr ?_ hS.2.2 d_PatternBook_Wide_init_4
  exact uEnd () (hP.sub [0] rfl) (hK.sub [] rfl) (hD.sub [0] (by decide) rfl) hS trivial rfl
set_option maxHeartbeats 4000000 in
set_option maxRecDepth 100000 in
/-- PatternBook$Wide.ones(I)J -/
theorem c_W_ones (l : Launch) (D : va_G)  (sz : Nat) (x : Int32) : Met l y_PatternBook_Wide_ones (wsOf y_PatternBook_Wide_ones b_PatternBook_Wide_ones 1 (some .long)) ({ frames := 0, cells := 0, slots := 0, locals := 0 }) (uP D classes [] [] sz [.int x]) (uQ D classes (fun u : Int64 => some (.long u)) (fun u => u = (sl m_W_ones) x) (va_A [] sz) (fun _ => []) (fun u => [])) 0 0 (va_A [] sz) := by
  rw [sl_eq m_W_ones]
  refine uBegin (by decide +kernel) (Nat.le_of_ble_eq_true rfl) ?_
  intro p e s m below meth c A ls H locs hx hb hr hts hown hlocks hml hin hA hP hK hD hN hS hl
  have hl : lv_has ls 1 [(0, .int x)] := hl
  refine lv_lconst (v := 1) hx hb d_PatternBook_Wide_ones_0 (by decide) ?_
  refine lv_iload_n hx hb d_PatternBook_Wide_ones_1 rfl (lv_at hl 0 rfl) ?_
  refine lv_lshl (v := lshl_ (1:Int64) x) hx hb d_PatternBook_Wide_ones_2 rfl ?_
  refine lv_lconst (v := 1) hx hb d_PatternBook_Wide_ones_3 (by decide) ?_
  refine lv_lsub hx hb d_PatternBook_Wide_ones_4 ?_
  refine W.lret hx hb hr ?_ hS.2.2 d_PatternBook_Wide_ones_5
  exact uEnd ((lshl_ (1:Int64) x) - (1:Int64)) (hP.sub [] rfl) (hK.sub [] rfl) (hD.sub [] (by decide) rfl) hS rfl rfl
set_option maxHeartbeats 4000000 in
set_option maxRecDepth 100000 in
/-- PatternBook$Wide.set(JJ)V -/
theorem c_W_set (l : Launch) (D : va_G) (w : Nat) (sz : Nat) (x : Int64) (y : Int64) (wh : Int64) (wl : Int64) : Met l y_PatternBook_Wide_set (wsOf y_PatternBook_Wide_set b_PatternBook_Wide_set 5 none) ({ frames := 0, cells := 0, slots := 0, locals := 0 }) (uP D classes [(w, .inr (0, [.long wh, .long wl]))] [] sz [.ref w, .long x, .long y]) (uQ D classes (fun _ : Int64 × Int64 => none) (fun u => u = (sl m_W_set) x y) (va_A [(w, .inr (0, [.long wh, .long wl]))] sz) (fun _ => []) (fun u => [(w, .inr (0, [.long u.1, .long u.2]))])) 0 0 (va_A [(w, .inr (0, [.long wh, .long wl]))] sz) := by
  rw [sl_eq m_W_set]
  refine uBegin (by decide +kernel) (Nat.le_of_ble_eq_true rfl) ?_
  intro p e s m below meth c A ls H locs hx hb hr hts hown hlocks hml hin hA hP hK hD hN hS hl
  have hl : lv_has ls 5 [(0, .ref w), (1, .long x), (3, .long y)] := hl
  refine lv_aload_n hx hb d_PatternBook_Wide_set_0 rfl (lv_at hl 0 rfl) ?_
  refine lv_lload_n hx hb d_PatternBook_Wide_set_1 rfl (lv_at hl 1 rfl) ?_
  refine va_put (D := D) (ci := 0) (v := .long x) (ty := .long) (C := R_PatternBook_Wide) (T := F_PatternBook_Wide) (N := 2) hx hb hts i_PatternBook_Wide t_PatternBook_Wide t_PatternBook_Wide_ok n_PatternBook_Wide hown hK hP hD hS 0 rfl rfl 0 (by decide) (hts _ k_9) (fun _ h9 => h9) rfl (by decide +kernel) rfl rfl (Nat.le_of_ble_eq_true rfl) d_PatternBook_Wide_set_2 (fun H locs hP hD hS => ?_)
  have hP : va_P D classes [(w, .inr (0, [.long x, .long wl]))] H := hP
  have hD : va_D A [(w, .inr (0, [.long x, .long wl]))] := hD
  refine lv_aload_n hx hb d_PatternBook_Wide_set_5 rfl (lv_at hl 0 rfl) ?_
  refine lv_lload_n hx hb d_PatternBook_Wide_set_6 rfl (lv_at hl 2 rfl) ?_
  refine va_put (D := D) (ci := 0) (v := .long y) (ty := .long) (C := R_PatternBook_Wide) (T := F_PatternBook_Wide) (N := 2) hx hb hts i_PatternBook_Wide t_PatternBook_Wide t_PatternBook_Wide_ok n_PatternBook_Wide hown hK hP hD hS 0 rfl rfl 1 (by decide) (hts _ k_10) (fun _ h9 => h9) rfl (by decide +kernel) rfl rfl (Nat.le_of_ble_eq_true rfl) d_PatternBook_Wide_set_7 (fun H locs hP hD hS => ?_)
  have hP : va_P D classes [(w, .inr (0, [.long x, .long y]))] H := hP
  have hD : va_D A [(w, .inr (0, [.long x, .long y]))] := hD
  refine W.vret hx hb hr ?_ hS.2.2 d_PatternBook_Wide_set_10
  exact uEnd (x, y) (hP.sub [0] rfl) (hK.sub [] rfl) (hD.sub [0] (by decide) rfl) hS rfl rfl
set_option maxHeartbeats 4000000 in
set_option maxRecDepth 100000 in
/-- PatternBook$Wide.copy(LPatternBook$Wide;)V -/
theorem c_W_copy (l : Launch) (D : va_G) (w : Nat) (o : Nat) (sz : Nat) (wh : Int64) (wl : Int64) (oh : Int64) (ol : Int64) : Met l y_PatternBook_Wide_copy (wsOf y_PatternBook_Wide_copy b_PatternBook_Wide_copy 2 none) ({ frames := 1, cells := 0, slots := 0, locals := 24 }) (uP D classes [(w, .inr (0, [.long wh, .long wl])), (o, .inr (0, [.long oh, .long ol]))] [] sz [.ref w, .ref o]) (uQ D classes (fun _ : Int64 × Int64 => none) (fun u => u = (sl m_W_copy) oh ol) (va_A [(w, .inr (0, [.long wh, .long wl])), (o, .inr (0, [.long oh, .long ol]))] sz) (fun _ => []) (fun u => [(w, .inr (0, [.long u.1, .long u.2])), (o, .inr (0, [.long oh, .long ol]))])) 0 0 (va_A [(w, .inr (0, [.long wh, .long wl])), (o, .inr (0, [.long oh, .long ol]))] sz) := by
  rw [sl_eq m_W_copy]
  refine uBegin (by decide +kernel) (Nat.le_of_ble_eq_true rfl) ?_
  intro p e s m below meth c A ls H locs hx hb hr hts hown hlocks hml hin hA hP hK hD hN hS hl
  have hl : lv_has ls 2 [(0, .ref w), (1, .ref o)] := hl
  refine lv_aload_n hx hb d_PatternBook_Wide_copy_0 rfl (lv_at hl 0 rfl) ?_
  refine lv_aload_n hx hb d_PatternBook_Wide_copy_1 rfl (lv_at hl 1 rfl) ?_
  refine va_get (D := D) (ci := 0) (v := .long oh) (C := R_PatternBook_Wide) (T := F_PatternBook_Wide) (N := 2) hx hb hts i_PatternBook_Wide hown hK hP 1 rfl rfl 0 (by decide) (hts _ k_9) (fun _ h9 => h9) rfl d_PatternBook_Wide_copy_2 ?_
  refine lv_aload_n hx hb d_PatternBook_Wide_copy_5 rfl (lv_at hl 1 rfl) ?_
  refine va_get (D := D) (ci := 0) (v := .long ol) (C := R_PatternBook_Wide) (T := F_PatternBook_Wide) (N := 2) hx hb hts i_PatternBook_Wide hown hK hP 1 rfl rfl 1 (by decide) (hts _ k_10) (fun _ h9 => h9) rfl d_PatternBook_Wide_copy_6 ?_
  refine uCall (WR := [(o, .inr (0, [.long oh, .long ol]))]) (RT := []) (va_runV (As := [.long oh, .long ol]) (rest := []) ⟨hx, hb, hml, hown, hts⟩ (c_W_set l D w H.size oh ol wh wl) ⟨uCB 2 hts k_11 k_12 k_13 (by decide +kernel) rfl rfl ⟨Nat.le_of_ble_eq_true rfl, Nat.le_of_ble_eq_true rfl⟩, hts _ k_14, hts _ k_15⟩ (uPreV (ci := 0) (q0 := 0) hK hP hD hN [0] rfl (by decide) [] rfl rfl rfl) rfl rfl hl.1 rfl (lv_room (Nat.le_of_ble_eq_true rfl)) d_PatternBook_Wide_copy_9 ⟨(Nat.le_of_ble_eq_true rfl), (Nat.le_of_ble_eq_true rfl)⟩) hK hP hD hS hA [0] [1] rfl rfl (by decide) (by decide) [] rfl (fun u1 H locs hu1 hP hD hK hS => ?_)
  have hP : va_P D classes [(o, .inr (0, [.long oh, .long ol])), (w, .inr (0, [.long u1.1, .long u1.2]))] H := hP
  have hD : va_D A [(o, .inr (0, [.long oh, .long ol])), (w, .inr (0, [.long u1.1, .long u1.2]))] := hD
  have hK : va_K D classes [] s := hK
  refine W.eq (g2 := F0 m 12 ls []) rfl ?_
  refine W.vret hx hb hr ?_ hS.2.2 d_PatternBook_Wide_copy_12
  exact uEnd (u1.1, u1.2) (hP.sub [1, 0] rfl) (hK.sub [] rfl) (hD.sub [1, 0] (by decide) rfl) hS (by have eu1 := hu1.symm; subst eu1; exact (rfl).symm) rfl
set_option maxHeartbeats 4000000 in
set_option maxRecDepth 100000 in
/-- PatternBook$Wide.half(Z)J -/
theorem c_W_half (l : Launch) (D : va_G) (w : Nat) (sz : Nat) (x : Bool) (wh : Int64) (wl : Int64) : Met l y_PatternBook_Wide_half (wsOf y_PatternBook_Wide_half b_PatternBook_Wide_half 2 (some .long)) ({ frames := 0, cells := 0, slots := 0, locals := 0 }) (uP D classes [(w, .inr (0, [.long wh, .long wl]))] [] sz [.ref w, .int (bI x)]) (uQ D classes (fun u : Int64 => some (.long u)) (fun u => u = (sl m_W_half) x wh wl) (va_A [(w, .inr (0, [.long wh, .long wl]))] sz) (fun _ => []) (fun u => [(w, .inr (0, [.long wh, .long wl]))])) 0 0 (va_A [(w, .inr (0, [.long wh, .long wl]))] sz) := by
  rw [sl_eq m_W_half]
  refine uBegin (by decide +kernel) (Nat.le_of_ble_eq_true rfl) ?_
  intro p e s m below meth c A ls H locs hx hb hr hts hown hlocks hml hin hA hP hK hD hN hS hl
  have hl : lv_has ls 2 [(0, .ref w), (1, .int (bI x))] := hl
  refine lv_iload_n hx hb d_PatternBook_Wide_half_0 rfl (lv_at hl 1 rfl) ?_
  refine lv_if_eq (tgt := 11) hx hb d_PatternBook_Wide_half_1 (by decide) (fun c_1 => ?_) (fun c_1 => ?_)
  · refine lv_aload_n hx hb d_PatternBook_Wide_half_11 rfl (lv_at hl 0 rfl) ?_
    refine va_get (D := D) (ci := 0) (v := .long wl) (C := R_PatternBook_Wide) (T := F_PatternBook_Wide) (N := 2) hx hb hts i_PatternBook_Wide hown hK hP 0 rfl rfl 1 (by decide) (hts _ k_10) (fun _ h9 => h9) rfl d_PatternBook_Wide_half_12 ?_
    refine W.lret hx hb hr ?_ hS.2.2 d_PatternBook_Wide_half_15
    exact uEnd wl (hP.sub [0] rfl) (hK.sub [] rfl) (hD.sub [0] (by decide) rfl) hS (by  exact ((if_pos c_1).trans (rfl)).symm) rfl
  · refine lv_aload_n hx hb d_PatternBook_Wide_half_4 rfl (lv_at hl 0 rfl) ?_
    refine va_get (D := D) (ci := 0) (v := .long wh) (C := R_PatternBook_Wide) (T := F_PatternBook_Wide) (N := 2) hx hb hts i_PatternBook_Wide hown hK hP 0 rfl rfl 0 (by decide) (hts _ k_9) (fun _ h9 => h9) rfl d_PatternBook_Wide_half_5 ?_
    refine lv_goto (tgt := 15) hx hb d_PatternBook_Wide_half_8 (by decide) ?_
    refine W.lret hx hb hr ?_ hS.2.2 d_PatternBook_Wide_half_15
    exact uEnd wh (hP.sub [0] rfl) (hK.sub [] rfl) (hD.sub [0] (by decide) rfl) hS (by  exact ((if_neg c_1).trans (rfl)).symm) rfl
set_option maxHeartbeats 4000000 in
set_option maxRecDepth 100000 in
/-- PatternBook$Wide.isZero()Z -/
theorem c_W_isZero (l : Launch) (D : va_G) (w : Nat) (sz : Nat) (wh : Int64) (wl : Int64) : Met l y_PatternBook_Wide_isZero (wsOf y_PatternBook_Wide_isZero b_PatternBook_Wide_isZero 1 (some .boolean)) ({ frames := 0, cells := 0, slots := 0, locals := 0 }) (uP D classes [(w, .inr (0, [.long wh, .long wl]))] [] sz [.ref w]) (uQ D classes (fun u : Bool => some (.int (bI u))) (fun u => u = (sl m_W_isZero) wh wl) (va_A [(w, .inr (0, [.long wh, .long wl]))] sz) (fun _ => []) (fun u => [(w, .inr (0, [.long wh, .long wl]))])) 0 0 (va_A [(w, .inr (0, [.long wh, .long wl]))] sz) := by
  rw [sl_eq m_W_isZero]
  refine uBegin (by decide +kernel) (Nat.le_of_ble_eq_true rfl) ?_
  intro p e s m below meth c A ls H locs hx hb hr hts hown hlocks hml hin hA hP hK hD hN hS hl
  have hl : lv_has ls 1 [(0, .ref w)] := hl
  refine lv_aload_n hx hb d_PatternBook_Wide_isZero_0 rfl (lv_at hl 0 rfl) ?_
  refine va_get (D := D) (ci := 0) (v := .long wh) (C := R_PatternBook_Wide) (T := F_PatternBook_Wide) (N := 2) hx hb hts i_PatternBook_Wide hown hK hP 0 rfl rfl 0 (by decide) (hts _ k_9) (fun _ h9 => h9) rfl d_PatternBook_Wide_isZero_1 ?_
  refine lv_lconst (v := 0) hx hb d_PatternBook_Wide_isZero_4 (by decide) ?_
  refine W.lcmp hx hb d_PatternBook_Wide_isZero_5 ?_
  refine lv_if_ne (tgt := 22) hx hb d_PatternBook_Wide_isZero_6 (by decide) (fun c_1 => ?_) (fun c_1 => ?_)
  · refine lv_iconst (v := 0) hx hb d_PatternBook_Wide_isZero_22 (by decide) ?_
    refine W.zret hx hb hr rfl ?_ hS.2.2 d_PatternBook_Wide_isZero_23
    exact uEnd false (hP.sub [0] rfl) (hK.sub [] rfl) (hD.sub [0] (by decide) rfl) hS (by  exact ((if_neg c_1).trans (rfl)).symm) rfl
  · refine lv_aload_n hx hb d_PatternBook_Wide_isZero_9 rfl (lv_at hl 0 rfl) ?_
    refine va_get (D := D) (ci := 0) (v := .long wl) (C := R_PatternBook_Wide) (T := F_PatternBook_Wide) (N := 2) hx hb hts i_PatternBook_Wide hown hK hP 0 rfl rfl 1 (by decide) (hts _ k_10) (fun _ h9 => h9) rfl d_PatternBook_Wide_isZero_10 ?_
    refine lv_lconst (v := 0) hx hb d_PatternBook_Wide_isZero_13 (by decide) ?_
    refine W.lcmp hx hb d_PatternBook_Wide_isZero_14 ?_
    refine lv_if_ne (tgt := 22) hx hb d_PatternBook_Wide_isZero_15 (by decide) (fun c_2 => ?_) (fun c_2 => ?_)
    · refine lv_iconst (v := 0) hx hb d_PatternBook_Wide_isZero_22 (by decide) ?_
      refine W.zret hx hb hr rfl ?_ hS.2.2 d_PatternBook_Wide_isZero_23
      exact uEnd false (hP.sub [0] rfl) (hK.sub [] rfl) (hD.sub [0] (by decide) rfl) hS (by  exact ((if_pos c_1).trans ((if_neg c_2).trans (rfl))).symm) rfl
    · refine lv_iconst (v := 1) hx hb d_PatternBook_Wide_isZero_18 (by decide) ?_
      refine lv_goto (tgt := 23) hx hb d_PatternBook_Wide_isZero_19 (by decide) ?_
      refine W.zret hx hb hr rfl ?_ hS.2.2 d_PatternBook_Wide_isZero_23
      exact uEnd true (hP.sub [0] rfl) (hK.sub [] rfl) (hD.sub [0] (by decide) rfl) hS (by  exact ((if_pos c_1).trans ((if_pos c_2).trans (rfl))).symm) rfl
set_option maxHeartbeats 4000000 in
set_option maxRecDepth 100000 in
/-- PatternBook$Wide.isSame(LPatternBook$Wide;)Z -/
theorem c_W_isSame (l : Launch) (D : va_G) (w : Nat) (o : Nat) (sz : Nat) (wh : Int64) (wl : Int64) (oh : Int64) (ol : Int64) : Met l y_PatternBook_Wide_isSame (wsOf y_PatternBook_Wide_isSame b_PatternBook_Wide_isSame 2 (some .boolean)) ({ frames := 0, cells := 0, slots := 0, locals := 0 }) (uP D classes [(w, .inr (0, [.long wh, .long wl])), (o, .inr (0, [.long oh, .long ol]))] [] sz [.ref w, .ref o]) (uQ D classes (fun u : Bool => some (.int (bI u))) (fun u => u = (sl m_W_isSame) wh wl oh ol) (va_A [(w, .inr (0, [.long wh, .long wl])), (o, .inr (0, [.long oh, .long ol]))] sz) (fun _ => []) (fun u => [(w, .inr (0, [.long wh, .long wl])), (o, .inr (0, [.long oh, .long ol]))])) 0 0 (va_A [(w, .inr (0, [.long wh, .long wl])), (o, .inr (0, [.long oh, .long ol]))] sz) := by
  rw [sl_eq m_W_isSame]
  refine uBegin (by decide +kernel) (Nat.le_of_ble_eq_true rfl) ?_
  intro p e s m below meth c A ls H locs hx hb hr hts hown hlocks hml hin hA hP hK hD hN hS hl
  have hl : lv_has ls 2 [(0, .ref w), (1, .ref o)] := hl
  refine lv_aload_n hx hb d_PatternBook_Wide_isSame_0 rfl (lv_at hl 0 rfl) ?_
  refine va_get (D := D) (ci := 0) (v := .long wh) (C := R_PatternBook_Wide) (T := F_PatternBook_Wide) (N := 2) hx hb hts i_PatternBook_Wide hown hK hP 0 rfl rfl 0 (by decide) (hts _ k_9) (fun _ h9 => h9) rfl d_PatternBook_Wide_isSame_1 ?_
  refine lv_aload_n hx hb d_PatternBook_Wide_isSame_4 rfl (lv_at hl 1 rfl) ?_
  refine va_get (D := D) (ci := 0) (v := .long oh) (C := R_PatternBook_Wide) (T := F_PatternBook_Wide) (N := 2) hx hb hts i_PatternBook_Wide hown hK hP 1 rfl rfl 0 (by decide) (hts _ k_9) (fun _ h9 => h9) rfl d_PatternBook_Wide_isSame_5 ?_
  refine W.lcmp hx hb d_PatternBook_Wide_isSame_8 ?_
  refine lv_if_ne (tgt := 28) hx hb d_PatternBook_Wide_isSame_9 (by decide) (fun c_1 => ?_) (fun c_1 => ?_)
  · refine lv_iconst (v := 0) hx hb d_PatternBook_Wide_isSame_28 (by decide) ?_
    refine W.zret hx hb hr rfl ?_ hS.2.2 d_PatternBook_Wide_isSame_29
    exact uEnd false (hP.sub [0, 1] rfl) (hK.sub [] rfl) (hD.sub [0, 1] (by decide) rfl) hS (by  exact ((if_neg c_1).trans (rfl)).symm) rfl
  · refine lv_aload_n hx hb d_PatternBook_Wide_isSame_12 rfl (lv_at hl 0 rfl) ?_
    refine va_get (D := D) (ci := 0) (v := .long wl) (C := R_PatternBook_Wide) (T := F_PatternBook_Wide) (N := 2) hx hb hts i_PatternBook_Wide hown hK hP 0 rfl rfl 1 (by decide) (hts _ k_10) (fun _ h9 => h9) rfl d_PatternBook_Wide_isSame_13 ?_
    refine lv_aload_n hx hb d_PatternBook_Wide_isSame_16 rfl (lv_at hl 1 rfl) ?_
    refine va_get (D := D) (ci := 0) (v := .long ol) (C := R_PatternBook_Wide) (T := F_PatternBook_Wide) (N := 2) hx hb hts i_PatternBook_Wide hown hK hP 1 rfl rfl 1 (by decide) (hts _ k_10) (fun _ h9 => h9) rfl d_PatternBook_Wide_isSame_17 ?_
    refine W.lcmp hx hb d_PatternBook_Wide_isSame_20 ?_
    refine lv_if_ne (tgt := 28) hx hb d_PatternBook_Wide_isSame_21 (by decide) (fun c_2 => ?_) (fun c_2 => ?_)
    · refine lv_iconst (v := 0) hx hb d_PatternBook_Wide_isSame_28 (by decide) ?_
      refine W.zret hx hb hr rfl ?_ hS.2.2 d_PatternBook_Wide_isSame_29
      exact uEnd false (hP.sub [0, 1] rfl) (hK.sub [] rfl) (hD.sub [0, 1] (by decide) rfl) hS (by  exact ((if_pos c_1).trans ((if_neg c_2).trans (rfl))).symm) rfl
    · refine lv_iconst (v := 1) hx hb d_PatternBook_Wide_isSame_24 (by decide) ?_
      refine lv_goto (tgt := 29) hx hb d_PatternBook_Wide_isSame_25 (by decide) ?_
      refine W.zret hx hb hr rfl ?_ hS.2.2 d_PatternBook_Wide_isSame_29
      exact uEnd true (hP.sub [0, 1] rfl) (hK.sub [] rfl) (hD.sub [0, 1] (by decide) rfl) hS (by  exact ((if_pos c_1).trans ((if_pos c_2).trans (rfl))).symm) rfl
set_option maxHeartbeats 4000000 in
set_option maxRecDepth 100000 in
/-- PatternBook$Wide.isAbove(LPatternBook$Wide;)Z -/
theorem c_W_isAbove (l : Launch) (D : va_G) (w : Nat) (o : Nat) (sz : Nat) (wh : Int64) (wl : Int64) (oh : Int64) (ol : Int64) : Met l y_PatternBook_Wide_isAbove (wsOf y_PatternBook_Wide_isAbove b_PatternBook_Wide_isAbove 2 (some .boolean)) ({ frames := 2, cells := 0, slots := 0, locals := 46 }) (uP D classes [(w, .inr (0, [.long wh, .long wl])), (o, .inr (0, [.long oh, .long ol]))] [] sz [.ref w, .ref o]) (uQ D classes (fun u : Bool => some (.int (bI u))) (fun u => u = (sl m_W_isAbove) wh wl oh ol) (va_A [(w, .inr (0, [.long wh, .long wl])), (o, .inr (0, [.long oh, .long ol]))] sz) (fun _ => []) (fun u => [(w, .inr (0, [.long wh, .long wl])), (o, .inr (0, [.long oh, .long ol]))])) 0 0 (va_A [(w, .inr (0, [.long wh, .long wl])), (o, .inr (0, [.long oh, .long ol]))] sz) := by
  rw [sl_eq m_W_isAbove]
  refine uBegin (by decide +kernel) (Nat.le_of_ble_eq_true rfl) ?_
  intro p e s m below meth c A ls H locs hx hb hr hts hown hlocks hml hin hA hP hK hD hN hS hl
  have hl : lv_has ls 2 [(0, .ref w), (1, .ref o)] := hl
  refine lv_aload_n hx hb d_PatternBook_Wide_isAbove_0 rfl (lv_at hl 0 rfl) ?_
  refine va_get (D := D) (ci := 0) (v := .long wh) (C := R_PatternBook_Wide) (T := F_PatternBook_Wide) (N := 2) hx hb hts i_PatternBook_Wide hown hK hP 0 rfl rfl 0 (by decide) (hts _ k_9) (fun _ h9 => h9) rfl d_PatternBook_Wide_isAbove_1 ?_
  refine lv_aload_n hx hb d_PatternBook_Wide_isAbove_4 rfl (lv_at hl 1 rfl) ?_
  refine va_get (D := D) (ci := 0) (v := .long oh) (C := R_PatternBook_Wide) (T := F_PatternBook_Wide) (N := 2) hx hb hts i_PatternBook_Wide hown hK hP 1 rfl rfl 0 (by decide) (hts _ k_9) (fun _ h9 => h9) rfl d_PatternBook_Wide_isAbove_5 ?_
  refine W.lcmp hx hb d_PatternBook_Wide_isAbove_8 ?_
  refine lv_if_ne (tgt := 32) hx hb d_PatternBook_Wide_isAbove_9 (by decide) (fun c_1 => ?_) (fun c_1 => ?_)
  · refine lv_aload_n hx hb d_PatternBook_Wide_isAbove_32 rfl (lv_at hl 0 rfl) ?_
    refine va_get (D := D) (ci := 0) (v := .long wh) (C := R_PatternBook_Wide) (T := F_PatternBook_Wide) (N := 2) hx hb hts i_PatternBook_Wide hown hK hP 0 rfl rfl 0 (by decide) (hts _ k_9) (fun _ h9 => h9) rfl d_PatternBook_Wide_isAbove_33 ?_
    refine lv_aload_n hx hb d_PatternBook_Wide_isAbove_36 rfl (lv_at hl 1 rfl) ?_
    refine va_get (D := D) (ci := 0) (v := .long oh) (C := R_PatternBook_Wide) (T := F_PatternBook_Wide) (N := 2) hx hb hts i_PatternBook_Wide hown hK hP 1 rfl rfl 0 (by decide) (hts _ k_9) (fun _ h9 => h9) rfl d_PatternBook_Wide_isAbove_37 ?_
    refine uCall (WR := [(w, .inr (0, [.long wh, .long wl])), (o, .inr (0, [.long oh, .long ol]))]) (RT := []) (va_runS (As := [.long wh, .long oh]) (rest := []) ⟨hx, hb, hml, hown, hts⟩ (c_Long_compareU l D H.size wh oh) ⟨uCB 2 hts k_16 k_3 k_17 (by decide +kernel) rfl rfl ⟨Nat.le_of_ble_eq_true rfl, Nat.le_of_ble_eq_true rfl⟩, hts _ k_18⟩ (uPreS hK hP hD hN [] rfl (by decide) [] rfl) rfl rfl hl.1 rfl (lv_room (Nat.le_of_ble_eq_true rfl)) d_PatternBook_Wide_isAbove_40 ⟨(Nat.le_of_ble_eq_true rfl), (Nat.le_of_ble_eq_true rfl)⟩) hK hP hD hS hA [] [0, 1] rfl rfl (by decide) (by decide) [] rfl (fun u2 H locs hu2 hP hD hK hS => ?_)
    have hP : va_P D classes [(w, .inr (0, [.long wh, .long wl])), (o, .inr (0, [.long oh, .long ol]))] H := hP
    have hD : va_D A [(w, .inr (0, [.long wh, .long wl])), (o, .inr (0, [.long oh, .long ol]))] := hD
    have hK : va_K D classes [] s := hK
    refine W.eq (g2 := F0 m 43 ls [.int u2]) rfl ?_
    refine lv_if_le (tgt := 50) hx hb d_PatternBook_Wide_isAbove_43 (by decide) (fun c_3 => ?_) (fun c_3 => ?_)
    · refine lv_iconst (v := 0) hx hb d_PatternBook_Wide_isAbove_50 (by decide) ?_
      refine W.zret hx hb hr rfl ?_ hS.2.2 d_PatternBook_Wide_isAbove_51
      exact uEnd false (hP.sub [0, 1] rfl) (hK.sub [] rfl) (hD.sub [0, 1] (by decide) rfl) hS (by have eu2 := hu2.symm; subst eu2; exact ((if_neg c_1).trans ((if_pos c_3).trans (rfl))).symm) rfl
    · refine lv_iconst (v := 1) hx hb d_PatternBook_Wide_isAbove_46 (by decide) ?_
      refine lv_goto (tgt := 51) hx hb d_PatternBook_Wide_isAbove_47 (by decide) ?_
      refine W.zret hx hb hr rfl ?_ hS.2.2 d_PatternBook_Wide_isAbove_51
      exact uEnd true (hP.sub [0, 1] rfl) (hK.sub [] rfl) (hD.sub [0, 1] (by decide) rfl) hS (by have eu2 := hu2.symm; subst eu2; exact ((if_neg c_1).trans ((if_neg c_3).trans (rfl))).symm) rfl
  · refine lv_aload_n hx hb d_PatternBook_Wide_isAbove_12 rfl (lv_at hl 0 rfl) ?_
    refine va_get (D := D) (ci := 0) (v := .long wl) (C := R_PatternBook_Wide) (T := F_PatternBook_Wide) (N := 2) hx hb hts i_PatternBook_Wide hown hK hP 0 rfl rfl 1 (by decide) (hts _ k_10) (fun _ h9 => h9) rfl d_PatternBook_Wide_isAbove_13 ?_
    refine lv_aload_n hx hb d_PatternBook_Wide_isAbove_16 rfl (lv_at hl 1 rfl) ?_
    refine va_get (D := D) (ci := 0) (v := .long ol) (C := R_PatternBook_Wide) (T := F_PatternBook_Wide) (N := 2) hx hb hts i_PatternBook_Wide hown hK hP 1 rfl rfl 1 (by decide) (hts _ k_10) (fun _ h9 => h9) rfl d_PatternBook_Wide_isAbove_17 ?_
    refine uCall (WR := [(w, .inr (0, [.long wh, .long wl])), (o, .inr (0, [.long oh, .long ol]))]) (RT := []) (va_runS (As := [.long wl, .long ol]) (rest := []) ⟨hx, hb, hml, hown, hts⟩ (c_Long_compareU l D H.size wl ol) ⟨uCB 2 hts k_16 k_3 k_17 (by decide +kernel) rfl rfl ⟨Nat.le_of_ble_eq_true rfl, Nat.le_of_ble_eq_true rfl⟩, hts _ k_18⟩ (uPreS hK hP hD hN [] rfl (by decide) [] rfl) rfl rfl hl.1 rfl (lv_room (Nat.le_of_ble_eq_true rfl)) d_PatternBook_Wide_isAbove_20 ⟨(Nat.le_of_ble_eq_true rfl), (Nat.le_of_ble_eq_true rfl)⟩) hK hP hD hS hA [] [0, 1] rfl rfl (by decide) (by decide) [] rfl (fun u4 H locs hu4 hP hD hK hS => ?_)
    have hP : va_P D classes [(w, .inr (0, [.long wh, .long wl])), (o, .inr (0, [.long oh, .long ol]))] H := hP
    have hD : va_D A [(w, .inr (0, [.long wh, .long wl])), (o, .inr (0, [.long oh, .long ol]))] := hD
    have hK : va_K D classes [] s := hK
    refine W.eq (g2 := F0 m 23 ls [.int u4]) rfl ?_
    refine lv_if_le (tgt := 30) hx hb d_PatternBook_Wide_isAbove_23 (by decide) (fun c_5 => ?_) (fun c_5 => ?_)
    · refine lv_iconst (v := 0) hx hb d_PatternBook_Wide_isAbove_30 (by decide) ?_
      refine W.zret hx hb hr rfl ?_ hS.2.2 d_PatternBook_Wide_isAbove_31
      exact uEnd false (hP.sub [0, 1] rfl) (hK.sub [] rfl) (hD.sub [0, 1] (by decide) rfl) hS (by have eu4 := hu4.symm; subst eu4; exact ((if_pos c_1).trans ((if_pos c_5).trans (rfl))).symm) rfl
    · refine lv_iconst (v := 1) hx hb d_PatternBook_Wide_isAbove_26 (by decide) ?_
      refine lv_goto (tgt := 31) hx hb d_PatternBook_Wide_isAbove_27 (by decide) ?_
      refine W.zret hx hb hr rfl ?_ hS.2.2 d_PatternBook_Wide_isAbove_31
      exact uEnd true (hP.sub [0, 1] rfl) (hK.sub [] rfl) (hD.sub [0, 1] (by decide) rfl) hS (by have eu4 := hu4.symm; subst eu4; exact ((if_pos c_1).trans ((if_neg c_5).trans (rfl))).symm) rfl
set_option maxHeartbeats 4000000 in
set_option maxRecDepth 100000 in
/-- PatternBook$Wide.fits(I)Z -/
theorem c_W_fits (l : Launch) (D : va_G) (w : Nat) (sz : Nat) (x : Int32) (wh : Int64) (wl : Int64) : Met l y_PatternBook_Wide_fits (wsOf y_PatternBook_Wide_fits b_PatternBook_Wide_fits 2 (some .boolean)) ({ frames := 0, cells := 0, slots := 0, locals := 0 }) (uP D classes [(w, .inr (0, [.long wh, .long wl]))] [] sz [.ref w, .int x]) (uQ D classes (fun u : Bool => some (.int (bI u))) (fun u => u = (sl m_W_fits) x wh wl) (va_A [(w, .inr (0, [.long wh, .long wl]))] sz) (fun _ => []) (fun u => [(w, .inr (0, [.long wh, .long wl]))])) 0 0 (va_A [(w, .inr (0, [.long wh, .long wl]))] sz) := by
  rw [sl_eq m_W_fits]
  refine uBegin (by decide +kernel) (Nat.le_of_ble_eq_true rfl) ?_
  intro p e s m below meth c A ls H locs hx hb hr hts hown hlocks hml hin hA hP hK hD hN hS hl
  have hl : lv_has ls 2 [(0, .ref w), (1, .int x)] := hl
  refine lv_iload_n hx hb d_PatternBook_Wide_fits_0 rfl (lv_at hl 1 rfl) ?_
  refine lv_bipush (v := 64) hx hb d_PatternBook_Wide_fits_1 (by decide) ?_
  refine lv_icmp_lt (tgt := 26) hx hb d_PatternBook_Wide_fits_3 (by decide) (fun c_1 => ?_) (fun c_1 => ?_)
  · refine lv_aload_n hx hb d_PatternBook_Wide_fits_26 rfl (lv_at hl 0 rfl) ?_
    refine va_get (D := D) (ci := 0) (v := .long wh) (C := R_PatternBook_Wide) (T := F_PatternBook_Wide) (N := 2) hx hb hts i_PatternBook_Wide hown hK hP 0 rfl rfl 0 (by decide) (hts _ k_9) (fun _ h9 => h9) rfl d_PatternBook_Wide_fits_27 ?_
    refine lv_lconst (v := 0) hx hb d_PatternBook_Wide_fits_30 (by decide) ?_
    refine W.lcmp hx hb d_PatternBook_Wide_fits_31 ?_
    refine lv_if_ne (tgt := 50) hx hb d_PatternBook_Wide_fits_32 (by decide) (fun c_2 => ?_) (fun c_2 => ?_)
    · refine lv_iconst (v := 0) hx hb d_PatternBook_Wide_fits_50 (by decide) ?_
      refine W.zret hx hb hr rfl ?_ hS.2.2 d_PatternBook_Wide_fits_51
      exact uEnd false (hP.sub [0] rfl) (hK.sub [] rfl) (hD.sub [0] (by decide) rfl) hS (by  exact ((if_pos c_1).trans ((if_neg c_2).trans (rfl))).symm) rfl
    · refine lv_aload_n hx hb d_PatternBook_Wide_fits_35 rfl (lv_at hl 0 rfl) ?_
      refine va_get (D := D) (ci := 0) (v := .long wl) (C := R_PatternBook_Wide) (T := F_PatternBook_Wide) (N := 2) hx hb hts i_PatternBook_Wide hown hK hP 0 rfl rfl 1 (by decide) (hts _ k_10) (fun _ h9 => h9) rfl d_PatternBook_Wide_fits_36 ?_
      refine lv_iload_n hx hb d_PatternBook_Wide_fits_39 rfl (lv_at hl 1 rfl) ?_
      refine lv_lushr (v := lushr_ wl x) hx hb d_PatternBook_Wide_fits_40 rfl ?_
      refine lv_lconst (v := 0) hx hb d_PatternBook_Wide_fits_41 (by decide) ?_
      refine W.lcmp hx hb d_PatternBook_Wide_fits_42 ?_
      refine lv_if_ne (tgt := 50) hx hb d_PatternBook_Wide_fits_43 (by decide) (fun c_3 => ?_) (fun c_3 => ?_)
      · refine lv_iconst (v := 0) hx hb d_PatternBook_Wide_fits_50 (by decide) ?_
        refine W.zret hx hb hr rfl ?_ hS.2.2 d_PatternBook_Wide_fits_51
        exact uEnd false (hP.sub [0] rfl) (hK.sub [] rfl) (hD.sub [0] (by decide) rfl) hS (by  exact ((if_pos c_1).trans ((if_pos c_2).trans ((if_neg c_3).trans (rfl)))).symm) rfl
      · refine lv_iconst (v := 1) hx hb d_PatternBook_Wide_fits_46 (by decide) ?_
        refine lv_goto (tgt := 51) hx hb d_PatternBook_Wide_fits_47 (by decide) ?_
        refine W.zret hx hb hr rfl ?_ hS.2.2 d_PatternBook_Wide_fits_51
        exact uEnd true (hP.sub [0] rfl) (hK.sub [] rfl) (hD.sub [0] (by decide) rfl) hS (by  exact ((if_pos c_1).trans ((if_pos c_2).trans ((if_pos c_3).trans (rfl)))).symm) rfl
  · refine lv_aload_n hx hb d_PatternBook_Wide_fits_6 rfl (lv_at hl 0 rfl) ?_
    refine va_get (D := D) (ci := 0) (v := .long wh) (C := R_PatternBook_Wide) (T := F_PatternBook_Wide) (N := 2) hx hb hts i_PatternBook_Wide hown hK hP 0 rfl rfl 0 (by decide) (hts _ k_9) (fun _ h9 => h9) rfl d_PatternBook_Wide_fits_7 ?_
    refine lv_iload_n hx hb d_PatternBook_Wide_fits_10 rfl (lv_at hl 1 rfl) ?_
    refine lv_bipush (v := 64) hx hb d_PatternBook_Wide_fits_11 (by decide) ?_
    refine lv_isub hx hb d_PatternBook_Wide_fits_13 ?_
    refine lv_lushr (v := lushr_ wh (x - (64:Int32))) hx hb d_PatternBook_Wide_fits_14 rfl ?_
    refine lv_lconst (v := 0) hx hb d_PatternBook_Wide_fits_15 (by decide) ?_
    refine W.lcmp hx hb d_PatternBook_Wide_fits_16 ?_
    refine lv_if_ne (tgt := 24) hx hb d_PatternBook_Wide_fits_17 (by decide) (fun c_4 => ?_) (fun c_4 => ?_)
    · refine lv_iconst (v := 0) hx hb d_PatternBook_Wide_fits_24 (by decide) ?_
      refine W.zret hx hb hr rfl ?_ hS.2.2 d_PatternBook_Wide_fits_25
      exact uEnd false (hP.sub [0] rfl) (hK.sub [] rfl) (hD.sub [0] (by decide) rfl) hS (by  exact ((if_neg c_1).trans ((if_neg c_4).trans (rfl))).symm) rfl
    · refine lv_iconst (v := 1) hx hb d_PatternBook_Wide_fits_20 (by decide) ?_
      refine lv_goto (tgt := 25) hx hb d_PatternBook_Wide_fits_21 (by decide) ?_
      refine W.zret hx hb hr rfl ?_ hS.2.2 d_PatternBook_Wide_fits_25
      exact uEnd true (hP.sub [0] rfl) (hK.sub [] rfl) (hD.sub [0] (by decide) rfl) hS (by  exact ((if_neg c_1).trans ((if_pos c_4).trans (rfl))).symm) rfl
set_option maxHeartbeats 4000000 in
set_option maxRecDepth 100000 in
/-- PatternBook$Wide.keepLowest(I)V -/
theorem c_W_keep (l : Launch) (D : va_G) (w : Nat) (sz : Nat) (x : Int32) (wh : Int64) (wl : Int64) : Met l y_PatternBook_Wide_keepLowest (wsOf y_PatternBook_Wide_keepLowest b_PatternBook_Wide_keepLowest 2 none) ({ frames := 1, cells := 0, slots := 0, locals := 20 }) (uP D classes [(w, .inr (0, [.long wh, .long wl]))] [] sz [.ref w, .int x]) (uQ D classes (fun _ : Int64 × Int64 => none) (fun u => u = (sl m_W_keep) x wh wl) (va_A [(w, .inr (0, [.long wh, .long wl]))] sz) (fun _ => []) (fun u => [(w, .inr (0, [.long u.1, .long u.2]))])) 0 0 (va_A [(w, .inr (0, [.long wh, .long wl]))] sz) := by
  rw [sl_eq m_W_keep]
  refine uBegin (by decide +kernel) (Nat.le_of_ble_eq_true rfl) ?_
  intro p e s m below meth c A ls H locs hx hb hr hts hown hlocks hml hin hA hP hK hD hN hS hl
  have hl : lv_has ls 2 [(0, .ref w), (1, .int x)] := hl
  refine lv_iload_n hx hb d_PatternBook_Wide_keepLowest_0 rfl (lv_at hl 1 rfl) ?_
  refine lv_sipush (v := 128) hx hb d_PatternBook_Wide_keepLowest_1 (by decide) ?_
  refine lv_icmp_lt (tgt := 8) hx hb d_PatternBook_Wide_keepLowest_4 (by decide) (fun c_1 => ?_) (fun c_1 => ?_)
  · refine lv_iload_n hx hb d_PatternBook_Wide_keepLowest_8 rfl (lv_at hl 1 rfl) ?_
    refine lv_bipush (v := 64) hx hb d_PatternBook_Wide_keepLowest_9 (by decide) ?_
    refine lv_icmp_lt (tgt := 33) hx hb d_PatternBook_Wide_keepLowest_11 (by decide) (fun c_2 => ?_) (fun c_2 => ?_)
    · refine lv_aload_n hx hb d_PatternBook_Wide_keepLowest_33 rfl (lv_at hl 0 rfl) ?_
      refine lv_lconst (v := 0) hx hb d_PatternBook_Wide_keepLowest_34 (by decide) ?_
      refine va_put (D := D) (ci := 0) (v := .long (0:Int64)) (ty := .long) (C := R_PatternBook_Wide) (T := F_PatternBook_Wide) (N := 2) hx hb hts i_PatternBook_Wide t_PatternBook_Wide t_PatternBook_Wide_ok n_PatternBook_Wide hown hK hP hD hS 0 rfl rfl 0 (by decide) (hts _ k_9) (fun _ h9 => h9) rfl (by decide +kernel) rfl rfl (Nat.le_of_ble_eq_true rfl) d_PatternBook_Wide_keepLowest_35 (fun H locs hP hD hS => ?_)
      have hP : va_P D classes [(w, .inr (0, [.long (0:Int64), .long wl]))] H := hP
      have hD : va_D A [(w, .inr (0, [.long (0:Int64), .long wl]))] := hD
      refine lv_aload_n hx hb d_PatternBook_Wide_keepLowest_38 rfl (lv_at hl 0 rfl) ?_
      refine lv_dup hx hb d_PatternBook_Wide_keepLowest_39 rfl ?_
      refine va_get (D := D) (ci := 0) (v := .long wl) (C := R_PatternBook_Wide) (T := F_PatternBook_Wide) (N := 2) hx hb hts i_PatternBook_Wide hown hK hP 0 rfl rfl 1 (by decide) (hts _ k_10) (fun _ h9 => h9) rfl d_PatternBook_Wide_keepLowest_40 ?_
      refine lv_iload_n hx hb d_PatternBook_Wide_keepLowest_43 rfl (lv_at hl 1 rfl) ?_
      refine uCall (WR := [(w, .inr (0, [.long (0:Int64), .long wl]))]) (RT := []) (va_runS (As := [.int x]) (rest := [.long wl, .ref w]) ⟨hx, hb, hml, hown, hts⟩ (c_W_ones l D H.size x) ⟨uCB 1 hts k_19 k_12 k_20 (by decide +kernel) rfl rfl ⟨Nat.le_of_ble_eq_true rfl, Nat.le_of_ble_eq_true rfl⟩, hts _ k_21⟩ (uPreS hK hP hD hN [] rfl (by decide) [] rfl) rfl rfl hl.1 rfl (lv_room (Nat.le_of_ble_eq_true rfl)) d_PatternBook_Wide_keepLowest_44 ⟨(Nat.le_of_ble_eq_true rfl), (Nat.le_of_ble_eq_true rfl)⟩) hK hP hD hS hA [] [0] rfl rfl (by decide) (by decide) [] rfl (fun u3 H locs hu3 hP hD hK hS => ?_)
      have hP : va_P D classes [(w, .inr (0, [.long (0:Int64), .long wl]))] H := hP
      have hD : va_D A [(w, .inr (0, [.long (0:Int64), .long wl]))] := hD
      have hK : va_K D classes [] s := hK
      refine W.eq (g2 := F0 m 47 ls [.long u3, .long wl, .ref w]) rfl ?_
      refine lv_land hx hb d_PatternBook_Wide_keepLowest_47 ?_
      refine va_put (D := D) (ci := 0) (v := .long (wl &&& u3)) (ty := .long) (C := R_PatternBook_Wide) (T := F_PatternBook_Wide) (N := 2) hx hb hts i_PatternBook_Wide t_PatternBook_Wide t_PatternBook_Wide_ok n_PatternBook_Wide hown hK hP hD hS 0 rfl rfl 1 (by decide) (hts _ k_10) (fun _ h9 => h9) rfl (by decide +kernel) rfl rfl (Nat.le_of_ble_eq_true rfl) d_PatternBook_Wide_keepLowest_48 (fun H locs hP hD hS => ?_)
      have hP : va_P D classes [(w, .inr (0, [.long (0:Int64), .long (wl &&& u3)]))] H := hP
      have hD : va_D A [(w, .inr (0, [.long (0:Int64), .long (wl &&& u3)]))] := hD
      refine W.vret hx hb hr ?_ hS.2.2 d_PatternBook_Wide_keepLowest_51
      exact uEnd ((0:Int64), (wl &&& u3)) (hP.sub [0] rfl) (hK.sub [] rfl) (hD.sub [0] (by decide) rfl) hS (by have eu3 := hu3.symm; subst eu3; exact ((if_pos c_1).trans ((if_pos c_2).trans (rfl))).symm) rfl
    · refine lv_aload_n hx hb d_PatternBook_Wide_keepLowest_14 rfl (lv_at hl 0 rfl) ?_
      refine lv_dup hx hb d_PatternBook_Wide_keepLowest_15 rfl ?_
      refine va_get (D := D) (ci := 0) (v := .long wh) (C := R_PatternBook_Wide) (T := F_PatternBook_Wide) (N := 2) hx hb hts i_PatternBook_Wide hown hK hP 0 rfl rfl 0 (by decide) (hts _ k_9) (fun _ h9 => h9) rfl d_PatternBook_Wide_keepLowest_16 ?_
      refine lv_iload_n hx hb d_PatternBook_Wide_keepLowest_19 rfl (lv_at hl 1 rfl) ?_
      refine lv_bipush (v := 64) hx hb d_PatternBook_Wide_keepLowest_20 (by decide) ?_
      refine lv_isub hx hb d_PatternBook_Wide_keepLowest_22 ?_
      refine uCall (WR := [(w, .inr (0, [.long wh, .long wl]))]) (RT := []) (va_runS (As := [.int (x - (64:Int32))]) (rest := [.long wh, .ref w]) ⟨hx, hb, hml, hown, hts⟩ (c_W_ones l D H.size (x - (64:Int32))) ⟨uCB 1 hts k_19 k_12 k_20 (by decide +kernel) rfl rfl ⟨Nat.le_of_ble_eq_true rfl, Nat.le_of_ble_eq_true rfl⟩, hts _ k_21⟩ (uPreS hK hP hD hN [] rfl (by decide) [] rfl) rfl rfl hl.1 rfl (lv_room (Nat.le_of_ble_eq_true rfl)) d_PatternBook_Wide_keepLowest_23 ⟨(Nat.le_of_ble_eq_true rfl), (Nat.le_of_ble_eq_true rfl)⟩) hK hP hD hS hA [] [0] rfl rfl (by decide) (by decide) [] rfl (fun u4 H locs hu4 hP hD hK hS => ?_)
      have hP : va_P D classes [(w, .inr (0, [.long wh, .long wl]))] H := hP
      have hD : va_D A [(w, .inr (0, [.long wh, .long wl]))] := hD
      have hK : va_K D classes [] s := hK
      refine W.eq (g2 := F0 m 26 ls [.long u4, .long wh, .ref w]) rfl ?_
      refine lv_land hx hb d_PatternBook_Wide_keepLowest_26 ?_
      refine va_put (D := D) (ci := 0) (v := .long (wh &&& u4)) (ty := .long) (C := R_PatternBook_Wide) (T := F_PatternBook_Wide) (N := 2) hx hb hts i_PatternBook_Wide t_PatternBook_Wide t_PatternBook_Wide_ok n_PatternBook_Wide hown hK hP hD hS 0 rfl rfl 0 (by decide) (hts _ k_9) (fun _ h9 => h9) rfl (by decide +kernel) rfl rfl (Nat.le_of_ble_eq_true rfl) d_PatternBook_Wide_keepLowest_27 (fun H locs hP hD hS => ?_)
      have hP : va_P D classes [(w, .inr (0, [.long (wh &&& u4), .long wl]))] H := hP
      have hD : va_D A [(w, .inr (0, [.long (wh &&& u4), .long wl]))] := hD
      refine lv_goto (tgt := 51) hx hb d_PatternBook_Wide_keepLowest_30 (by decide) ?_
      refine W.vret hx hb hr ?_ hS.2.2 d_PatternBook_Wide_keepLowest_51
      exact uEnd ((wh &&& u4), wl) (hP.sub [0] rfl) (hK.sub [] rfl) (hD.sub [0] (by decide) rfl) hS (by have eu4 := hu4.symm; subst eu4; exact ((if_pos c_1).trans ((if_neg c_2).trans (rfl))).symm) rfl
  · refine W.vret hx hb hr ?_ hS.2.2 d_PatternBook_Wide_keepLowest_7
    exact uEnd (wh, wl) (hP.sub [0] rfl) (hK.sub [] rfl) (hD.sub [0] (by decide) rfl) hS (by  exact ((if_neg c_1).trans (rfl)).symm) rfl
set_option maxHeartbeats 4000000 in
set_option maxRecDepth 100000 in
/-- PatternBook$Wide.bitsAt(II)J -/
theorem c_W_bitsAt (l : Launch) (D : va_G) (w : Nat) (sz : Nat) (x : Int32) (y : Int32) (wh : Int64) (wl : Int64) : Met l y_PatternBook_Wide_bitsAt (wsOf y_PatternBook_Wide_bitsAt b_PatternBook_Wide_bitsAt 5 (some .long)) ({ frames := 1, cells := 0, slots := 0, locals := 20 }) (uP D classes [(w, .inr (0, [.long wh, .long wl]))] [] sz [.ref w, .int x, .int y]) (uQ D classes (fun u : Int64 => some (.long u)) (fun u => u = (sl m_W_bitsAt) x y wh wl) (va_A [(w, .inr (0, [.long wh, .long wl]))] sz) (fun _ => []) (fun u => [(w, .inr (0, [.long wh, .long wl]))])) 0 0 (va_A [(w, .inr (0, [.long wh, .long wl]))] sz) := by
  rw [sl_eq m_W_bitsAt]
  refine uBegin (by decide +kernel) (Nat.le_of_ble_eq_true rfl) ?_
  intro p e s m below meth c A ls H locs hx hb hr hts hown hlocks hml hin hA hP hK hD hN hS hl
  have hl : lv_has ls 5 [(0, .ref w), (1, .int x), (2, .int y)] := hl
  refine lv_iload_n hx hb d_PatternBook_Wide_bitsAt_0 rfl (lv_at hl 1 rfl) ?_
  refine lv_bipush (v := 64) hx hb d_PatternBook_Wide_bitsAt_1 (by decide) ?_
  refine lv_icmp_lt (tgt := 19) hx hb d_PatternBook_Wide_bitsAt_3 (by decide) (fun c_1 => ?_) (fun c_1 => ?_)
  · refine lv_iload_n hx hb d_PatternBook_Wide_bitsAt_19 rfl (lv_at hl 1 rfl) ?_
    refine lv_if_ne (tgt := 31) hx hb d_PatternBook_Wide_bitsAt_20 (by decide) (fun c_2 => ?_) (fun c_2 => ?_)
    · refine lv_aload_n hx hb d_PatternBook_Wide_bitsAt_31 rfl (lv_at hl 0 rfl) ?_
      refine va_get (D := D) (ci := 0) (v := .long wl) (C := R_PatternBook_Wide) (T := F_PatternBook_Wide) (N := 2) hx hb hts i_PatternBook_Wide hown hK hP 0 rfl rfl 1 (by decide) (hts _ k_10) (fun _ h9 => h9) rfl d_PatternBook_Wide_bitsAt_32 ?_
      refine lv_iload_n hx hb d_PatternBook_Wide_bitsAt_35 rfl (lv_at hl 1 rfl) ?_
      refine lv_lushr (v := lushr_ wl x) hx hb d_PatternBook_Wide_bitsAt_36 rfl ?_
      refine lv_aload_n hx hb d_PatternBook_Wide_bitsAt_37 rfl (lv_at hl 0 rfl) ?_
      refine va_get (D := D) (ci := 0) (v := .long wh) (C := R_PatternBook_Wide) (T := F_PatternBook_Wide) (N := 2) hx hb hts i_PatternBook_Wide hown hK hP 0 rfl rfl 0 (by decide) (hts _ k_9) (fun _ h9 => h9) rfl d_PatternBook_Wide_bitsAt_38 ?_
      refine lv_bipush (v := 64) hx hb d_PatternBook_Wide_bitsAt_41 (by decide) ?_
      refine lv_iload_n hx hb d_PatternBook_Wide_bitsAt_43 rfl (lv_at hl 1 rfl) ?_
      refine lv_isub hx hb d_PatternBook_Wide_bitsAt_44 ?_
      refine lv_lshl (v := lshl_ wh ((64:Int32) - x)) hx hb d_PatternBook_Wide_bitsAt_45 rfl ?_
      refine lv_lor hx hb d_PatternBook_Wide_bitsAt_46 ?_
      refine lv_lstore_n (lv' := [(3, .long ((lushr_ wl x) ||| (lshl_ wh ((64:Int32) - x)))), (0, .ref w), (1, .int x), (2, .int y)]) hx hb d_PatternBook_Wide_bitsAt_47 rfl hl (by decide) rfl (fun ls hl => ?_)
      refine lv_lload_n hx hb d_PatternBook_Wide_bitsAt_48 rfl (lv_at hl 0 rfl) ?_
      refine lv_iload_n hx hb d_PatternBook_Wide_bitsAt_49 rfl (lv_at hl 3 rfl) ?_
      refine uCall (WR := [(w, .inr (0, [.long wh, .long wl]))]) (RT := []) (va_runS (As := [.int y]) (rest := [.long ((lushr_ wl x) ||| (lshl_ wh ((64:Int32) - x)))]) ⟨hx, hb, hml, hown, hts⟩ (c_W_ones l D H.size y) ⟨uCB 1 hts k_19 k_12 k_20 (by decide +kernel) rfl rfl ⟨Nat.le_of_ble_eq_true rfl, Nat.le_of_ble_eq_true rfl⟩, hts _ k_21⟩ (uPreS hK hP hD hN [] rfl (by decide) [] rfl) rfl rfl hl.1 rfl (lv_room (Nat.le_of_ble_eq_true rfl)) d_PatternBook_Wide_bitsAt_50 ⟨(Nat.le_of_ble_eq_true rfl), (Nat.le_of_ble_eq_true rfl)⟩) hK hP hD hS hA [] [0] rfl rfl (by decide) (by decide) [] rfl (fun u3 H locs hu3 hP hD hK hS => ?_)
      have hP : va_P D classes [(w, .inr (0, [.long wh, .long wl]))] H := hP
      have hD : va_D A [(w, .inr (0, [.long wh, .long wl]))] := hD
      have hK : va_K D classes [] s := hK
      refine W.eq (g2 := F0 m 53 ls [.long u3, .long ((lushr_ wl x) ||| (lshl_ wh ((64:Int32) - x)))]) rfl ?_
      refine lv_land hx hb d_PatternBook_Wide_bitsAt_53 ?_
      refine W.lret hx hb hr ?_ hS.2.2 d_PatternBook_Wide_bitsAt_54
      exact uEnd (((lushr_ wl x) ||| (lshl_ wh ((64:Int32) - x))) &&& u3) (hP.sub [0] rfl) (hK.sub [] rfl) (hD.sub [0] (by decide) rfl) hS (by have eu3 := hu3.symm; subst eu3; exact ((if_pos c_1).trans ((if_neg c_2).trans (rfl))).symm) rfl
    · refine lv_aload_n hx hb d_PatternBook_Wide_bitsAt_23 rfl (lv_at hl 0 rfl) ?_
      refine va_get (D := D) (ci := 0) (v := .long wl) (C := R_PatternBook_Wide) (T := F_PatternBook_Wide) (N := 2) hx hb hts i_PatternBook_Wide hown hK hP 0 rfl rfl 1 (by decide) (hts _ k_10) (fun _ h9 => h9) rfl d_PatternBook_Wide_bitsAt_24 ?_
      refine lv_lstore_n (lv' := [(3, .long wl), (0, .ref w), (1, .int x), (2, .int y)]) hx hb d_PatternBook_Wide_bitsAt_27 rfl hl (by decide) rfl (fun ls hl => ?_)
      refine lv_goto (tgt := 48) hx hb d_PatternBook_Wide_bitsAt_28 (by decide) ?_
      refine lv_lload_n hx hb d_PatternBook_Wide_bitsAt_48 rfl (lv_at hl 0 rfl) ?_
      refine lv_iload_n hx hb d_PatternBook_Wide_bitsAt_49 rfl (lv_at hl 3 rfl) ?_
      refine uCall (WR := [(w, .inr (0, [.long wh, .long wl]))]) (RT := []) (va_runS (As := [.int y]) (rest := [.long wl]) ⟨hx, hb, hml, hown, hts⟩ (c_W_ones l D H.size y) ⟨uCB 1 hts k_19 k_12 k_20 (by decide +kernel) rfl rfl ⟨Nat.le_of_ble_eq_true rfl, Nat.le_of_ble_eq_true rfl⟩, hts _ k_21⟩ (uPreS hK hP hD hN [] rfl (by decide) [] rfl) rfl rfl hl.1 rfl (lv_room (Nat.le_of_ble_eq_true rfl)) d_PatternBook_Wide_bitsAt_50 ⟨(Nat.le_of_ble_eq_true rfl), (Nat.le_of_ble_eq_true rfl)⟩) hK hP hD hS hA [] [0] rfl rfl (by decide) (by decide) [] rfl (fun u4 H locs hu4 hP hD hK hS => ?_)
      have hP : va_P D classes [(w, .inr (0, [.long wh, .long wl]))] H := hP
      have hD : va_D A [(w, .inr (0, [.long wh, .long wl]))] := hD
      have hK : va_K D classes [] s := hK
      refine W.eq (g2 := F0 m 53 ls [.long u4, .long wl]) rfl ?_
      refine lv_land hx hb d_PatternBook_Wide_bitsAt_53 ?_
      refine W.lret hx hb hr ?_ hS.2.2 d_PatternBook_Wide_bitsAt_54
      exact uEnd (wl &&& u4) (hP.sub [0] rfl) (hK.sub [] rfl) (hD.sub [0] (by decide) rfl) hS (by have eu4 := hu4.symm; subst eu4; exact ((if_pos c_1).trans ((if_pos c_2).trans (rfl))).symm) rfl
  · refine lv_aload_n hx hb d_PatternBook_Wide_bitsAt_6 rfl (lv_at hl 0 rfl) ?_
    refine va_get (D := D) (ci := 0) (v := .long wh) (C := R_PatternBook_Wide) (T := F_PatternBook_Wide) (N := 2) hx hb hts i_PatternBook_Wide hown hK hP 0 rfl rfl 0 (by decide) (hts _ k_9) (fun _ h9 => h9) rfl d_PatternBook_Wide_bitsAt_7 ?_
    refine lv_iload_n hx hb d_PatternBook_Wide_bitsAt_10 rfl (lv_at hl 1 rfl) ?_
    refine lv_bipush (v := 64) hx hb d_PatternBook_Wide_bitsAt_11 (by decide) ?_
    refine lv_isub hx hb d_PatternBook_Wide_bitsAt_13 ?_
    refine lv_lushr (v := lushr_ wh (x - (64:Int32))) hx hb d_PatternBook_Wide_bitsAt_14 rfl ?_
    refine lv_lstore_n (lv' := [(3, .long (lushr_ wh (x - (64:Int32)))), (0, .ref w), (1, .int x), (2, .int y)]) hx hb d_PatternBook_Wide_bitsAt_15 rfl hl (by decide) rfl (fun ls hl => ?_)
    refine lv_goto (tgt := 48) hx hb d_PatternBook_Wide_bitsAt_16 (by decide) ?_
    refine lv_lload_n hx hb d_PatternBook_Wide_bitsAt_48 rfl (lv_at hl 0 rfl) ?_
    refine lv_iload_n hx hb d_PatternBook_Wide_bitsAt_49 rfl (lv_at hl 3 rfl) ?_
    refine uCall (WR := [(w, .inr (0, [.long wh, .long wl]))]) (RT := []) (va_runS (As := [.int y]) (rest := [.long (lushr_ wh (x - (64:Int32)))]) ⟨hx, hb, hml, hown, hts⟩ (c_W_ones l D H.size y) ⟨uCB 1 hts k_19 k_12 k_20 (by decide +kernel) rfl rfl ⟨Nat.le_of_ble_eq_true rfl, Nat.le_of_ble_eq_true rfl⟩, hts _ k_21⟩ (uPreS hK hP hD hN [] rfl (by decide) [] rfl) rfl rfl hl.1 rfl (lv_room (Nat.le_of_ble_eq_true rfl)) d_PatternBook_Wide_bitsAt_50 ⟨(Nat.le_of_ble_eq_true rfl), (Nat.le_of_ble_eq_true rfl)⟩) hK hP hD hS hA [] [0] rfl rfl (by decide) (by decide) [] rfl (fun u5 H locs hu5 hP hD hK hS => ?_)
    have hP : va_P D classes [(w, .inr (0, [.long wh, .long wl]))] H := hP
    have hD : va_D A [(w, .inr (0, [.long wh, .long wl]))] := hD
    have hK : va_K D classes [] s := hK
    refine W.eq (g2 := F0 m 53 ls [.long u5, .long (lushr_ wh (x - (64:Int32)))]) rfl ?_
    refine lv_land hx hb d_PatternBook_Wide_bitsAt_53 ?_
    refine W.lret hx hb hr ?_ hS.2.2 d_PatternBook_Wide_bitsAt_54
    exact uEnd ((lushr_ wh (x - (64:Int32))) &&& u5) (hP.sub [0] rfl) (hK.sub [] rfl) (hD.sub [0] (by decide) rfl) hS (by have eu5 := hu5.symm; subst eu5; exact ((if_neg c_1).trans (rfl)).symm) rfl
set_option maxHeartbeats 4000000 in
set_option maxRecDepth 100000 in
/-- PatternBook$Wide.addBits(IJ)V -/
theorem c_W_addBits (l : Launch) (D : va_G) (w : Nat) (sz : Nat) (x : Int32) (y : Int64) (wh : Int64) (wl : Int64) : Met l y_PatternBook_Wide_addBits (wsOf y_PatternBook_Wide_addBits b_PatternBook_Wide_addBits 4 none) ({ frames := 0, cells := 0, slots := 0, locals := 0 }) (uP D classes [(w, .inr (0, [.long wh, .long wl]))] [] sz [.ref w, .int x, .long y]) (uQ D classes (fun _ : Int64 × Int64 => none) (fun u => u = (sl m_W_addBits) x y wh wl) (va_A [(w, .inr (0, [.long wh, .long wl]))] sz) (fun _ => []) (fun u => [(w, .inr (0, [.long u.1, .long u.2]))])) 0 0 (va_A [(w, .inr (0, [.long wh, .long wl]))] sz) := by
  rw [sl_eq m_W_addBits]
  refine uBegin (by decide +kernel) (Nat.le_of_ble_eq_true rfl) ?_
  intro p e s m below meth c A ls H locs hx hb hr hts hown hlocks hml hin hA hP hK hD hN hS hl
  have hl : lv_has ls 4 [(0, .ref w), (1, .int x), (2, .long y)] := hl
  refine lv_iload_n hx hb d_PatternBook_Wide_addBits_0 rfl (lv_at hl 1 rfl) ?_
  refine lv_bipush (v := 64) hx hb d_PatternBook_Wide_addBits_1 (by decide) ?_
  refine lv_icmp_lt (tgt := 22) hx hb d_PatternBook_Wide_addBits_3 (by decide) (fun c_1 => ?_) (fun c_1 => ?_)
  · refine lv_aload_n hx hb d_PatternBook_Wide_addBits_22 rfl (lv_at hl 0 rfl) ?_
    refine lv_dup hx hb d_PatternBook_Wide_addBits_23 rfl ?_
    refine va_get (D := D) (ci := 0) (v := .long wl) (C := R_PatternBook_Wide) (T := F_PatternBook_Wide) (N := 2) hx hb hts i_PatternBook_Wide hown hK hP 0 rfl rfl 1 (by decide) (hts _ k_10) (fun _ h9 => h9) rfl d_PatternBook_Wide_addBits_24 ?_
    refine lv_lload_n hx hb d_PatternBook_Wide_addBits_27 rfl (lv_at hl 2 rfl) ?_
    refine lv_iload_n hx hb d_PatternBook_Wide_addBits_28 rfl (lv_at hl 1 rfl) ?_
    refine lv_lshl (v := lshl_ y x) hx hb d_PatternBook_Wide_addBits_29 rfl ?_
    refine lv_lor hx hb d_PatternBook_Wide_addBits_30 ?_
    refine va_put (D := D) (ci := 0) (v := .long (wl ||| (lshl_ y x))) (ty := .long) (C := R_PatternBook_Wide) (T := F_PatternBook_Wide) (N := 2) hx hb hts i_PatternBook_Wide t_PatternBook_Wide t_PatternBook_Wide_ok n_PatternBook_Wide hown hK hP hD hS 0 rfl rfl 1 (by decide) (hts _ k_10) (fun _ h9 => h9) rfl (by decide +kernel) rfl rfl (Nat.le_of_ble_eq_true rfl) d_PatternBook_Wide_addBits_31 (fun H locs hP hD hS => ?_)
    have hP : va_P D classes [(w, .inr (0, [.long wh, .long (wl ||| (lshl_ y x))]))] H := hP
    have hD : va_D A [(w, .inr (0, [.long wh, .long (wl ||| (lshl_ y x))]))] := hD
    refine lv_iload_n hx hb d_PatternBook_Wide_addBits_34 rfl (lv_at hl 1 rfl) ?_
    refine lv_if_le (tgt := 53) hx hb d_PatternBook_Wide_addBits_35 (by decide) (fun c_2 => ?_) (fun c_2 => ?_)
    · refine W.vret hx hb hr ?_ hS.2.2 d_PatternBook_Wide_addBits_53
      exact uEnd (wh, (wl ||| (lshl_ y x))) (hP.sub [0] rfl) (hK.sub [] rfl) (hD.sub [0] (by decide) rfl) hS (by  exact ((if_pos c_1).trans ((if_pos c_2).trans (rfl))).symm) rfl
    · refine lv_aload_n hx hb d_PatternBook_Wide_addBits_38 rfl (lv_at hl 0 rfl) ?_
      refine lv_dup hx hb d_PatternBook_Wide_addBits_39 rfl ?_
      refine va_get (D := D) (ci := 0) (v := .long wh) (C := R_PatternBook_Wide) (T := F_PatternBook_Wide) (N := 2) hx hb hts i_PatternBook_Wide hown hK hP 0 rfl rfl 0 (by decide) (hts _ k_9) (fun _ h9 => h9) rfl d_PatternBook_Wide_addBits_40 ?_
      refine lv_lload_n hx hb d_PatternBook_Wide_addBits_43 rfl (lv_at hl 2 rfl) ?_
      refine lv_bipush (v := 64) hx hb d_PatternBook_Wide_addBits_44 (by decide) ?_
      refine lv_iload_n hx hb d_PatternBook_Wide_addBits_46 rfl (lv_at hl 1 rfl) ?_
      refine lv_isub hx hb d_PatternBook_Wide_addBits_47 ?_
      refine lv_lushr (v := lushr_ y ((64:Int32) - x)) hx hb d_PatternBook_Wide_addBits_48 rfl ?_
      refine lv_lor hx hb d_PatternBook_Wide_addBits_49 ?_
      refine va_put (D := D) (ci := 0) (v := .long (wh ||| (lushr_ y ((64:Int32) - x)))) (ty := .long) (C := R_PatternBook_Wide) (T := F_PatternBook_Wide) (N := 2) hx hb hts i_PatternBook_Wide t_PatternBook_Wide t_PatternBook_Wide_ok n_PatternBook_Wide hown hK hP hD hS 0 rfl rfl 0 (by decide) (hts _ k_9) (fun _ h9 => h9) rfl (by decide +kernel) rfl rfl (Nat.le_of_ble_eq_true rfl) d_PatternBook_Wide_addBits_50 (fun H locs hP hD hS => ?_)
      have hP : va_P D classes [(w, .inr (0, [.long (wh ||| (lushr_ y ((64:Int32) - x))), .long (wl ||| (lshl_ y x))]))] H := hP
      have hD : va_D A [(w, .inr (0, [.long (wh ||| (lushr_ y ((64:Int32) - x))), .long (wl ||| (lshl_ y x))]))] := hD
      refine W.vret hx hb hr ?_ hS.2.2 d_PatternBook_Wide_addBits_53
      exact uEnd ((wh ||| (lushr_ y ((64:Int32) - x))), (wl ||| (lshl_ y x))) (hP.sub [0] rfl) (hK.sub [] rfl) (hD.sub [0] (by decide) rfl) hS (by  exact ((if_pos c_1).trans ((if_neg c_2).trans (rfl))).symm) rfl
  · refine lv_aload_n hx hb d_PatternBook_Wide_addBits_6 rfl (lv_at hl 0 rfl) ?_
    refine lv_dup hx hb d_PatternBook_Wide_addBits_7 rfl ?_
    refine va_get (D := D) (ci := 0) (v := .long wh) (C := R_PatternBook_Wide) (T := F_PatternBook_Wide) (N := 2) hx hb hts i_PatternBook_Wide hown hK hP 0 rfl rfl 0 (by decide) (hts _ k_9) (fun _ h9 => h9) rfl d_PatternBook_Wide_addBits_8 ?_
    refine lv_lload_n hx hb d_PatternBook_Wide_addBits_11 rfl (lv_at hl 2 rfl) ?_
    refine lv_iload_n hx hb d_PatternBook_Wide_addBits_12 rfl (lv_at hl 1 rfl) ?_
    refine lv_bipush (v := 64) hx hb d_PatternBook_Wide_addBits_13 (by decide) ?_
    refine lv_isub hx hb d_PatternBook_Wide_addBits_15 ?_
    refine lv_lshl (v := lshl_ y (x - (64:Int32))) hx hb d_PatternBook_Wide_addBits_16 rfl ?_
    refine lv_lor hx hb d_PatternBook_Wide_addBits_17 ?_
    refine va_put (D := D) (ci := 0) (v := .long (wh ||| (lshl_ y (x - (64:Int32))))) (ty := .long) (C := R_PatternBook_Wide) (T := F_PatternBook_Wide) (N := 2) hx hb hts i_PatternBook_Wide t_PatternBook_Wide t_PatternBook_Wide_ok n_PatternBook_Wide hown hK hP hD hS 0 rfl rfl 0 (by decide) (hts _ k_9) (fun _ h9 => h9) rfl (by decide +kernel) rfl rfl (Nat.le_of_ble_eq_true rfl) d_PatternBook_Wide_addBits_18 (fun H locs hP hD hS => ?_)
    have hP : va_P D classes [(w, .inr (0, [.long (wh ||| (lshl_ y (x - (64:Int32)))), .long wl]))] H := hP
    have hD : va_D A [(w, .inr (0, [.long (wh ||| (lshl_ y (x - (64:Int32)))), .long wl]))] := hD
    refine W.vret hx hb hr ?_ hS.2.2 d_PatternBook_Wide_addBits_21
    exact uEnd ((wh ||| (lshl_ y (x - (64:Int32)))), wl) (hP.sub [0] rfl) (hK.sub [] rfl) (hD.sub [0] (by decide) rfl) hS (by  exact ((if_neg c_1).trans (rfl)).symm) rfl
set_option maxHeartbeats 4000000 in
set_option maxRecDepth 100000 in
/-- PatternBook$Wide.timesPlus(II)V -/
theorem c_W_times (l : Launch) (D : va_G) (w : Nat) (sz : Nat) (x : Int32) (y : Int32) (wh : Int64) (wl : Int64) : Met l y_PatternBook_Wide_timesPlus (wsOf y_PatternBook_Wide_timesPlus b_PatternBook_Wide_timesPlus 11 none) ({ frames := 0, cells := 0, slots := 0, locals := 0 }) (uP D classes [(w, .inr (0, [.long wh, .long wl]))] [] sz [.ref w, .int x, .int y]) (uQ D classes (fun _ : Int64 × Int64 => none) (fun u => u = (sl m_W_times) x y wh wl) (va_A [(w, .inr (0, [.long wh, .long wl]))] sz) (fun _ => []) (fun u => [(w, .inr (0, [.long u.1, .long u.2]))])) 0 0 (va_A [(w, .inr (0, [.long wh, .long wl]))] sz) := by
  rw [sl_eq m_W_times]
  refine uBegin (by decide +kernel) (Nat.le_of_ble_eq_true rfl) ?_
  intro p e s m below meth c A ls H locs hx hb hr hts hown hlocks hml hin hA hP hK hD hN hS hl
  have hl : lv_has ls 11 [(0, .ref w), (1, .int x), (2, .int y)] := hl
  refine lv_aload_n hx hb d_PatternBook_Wide_timesPlus_0 rfl (lv_at hl 0 rfl) ?_
  refine va_get (D := D) (ci := 0) (v := .long wl) (C := R_PatternBook_Wide) (T := F_PatternBook_Wide) (N := 2) hx hb hts i_PatternBook_Wide hown hK hP 0 rfl rfl 1 (by decide) (hts _ k_10) (fun _ h9 => h9) rfl d_PatternBook_Wide_timesPlus_1 ?_
  refine lv_ldc2 (v := 4294967295) hx hb hown (hts _ k_22) d_PatternBook_Wide_timesPlus_4 ?_
  refine lv_land hx hb d_PatternBook_Wide_timesPlus_7 ?_
  refine lv_iload_n hx hb d_PatternBook_Wide_timesPlus_8 rfl (lv_at hl 1 rfl) ?_
  refine lv_i2l hx hb d_PatternBook_Wide_timesPlus_9 rfl ?_
  refine lv_lmul hx hb d_PatternBook_Wide_timesPlus_10 ?_
  refine lv_iload_n hx hb d_PatternBook_Wide_timesPlus_11 rfl (lv_at hl 2 rfl) ?_
  refine lv_i2l hx hb d_PatternBook_Wide_timesPlus_12 rfl ?_
  refine lv_ladd hx hb d_PatternBook_Wide_timesPlus_13 ?_
  refine lv_topl (fun z1 hz1 => ?_)
  refine lv_lstore_n (lv' := [(3, .long z1), (0, .ref w), (1, .int x), (2, .int y)]) hx hb d_PatternBook_Wide_timesPlus_14 rfl hl (by decide) rfl (fun ls hl => ?_)
  refine lv_aload_n hx hb d_PatternBook_Wide_timesPlus_15 rfl (lv_at hl 1 rfl) ?_
  refine va_get (D := D) (ci := 0) (v := .long wl) (C := R_PatternBook_Wide) (T := F_PatternBook_Wide) (N := 2) hx hb hts i_PatternBook_Wide hown hK hP 0 rfl rfl 1 (by decide) (hts _ k_10) (fun _ h9 => h9) rfl d_PatternBook_Wide_timesPlus_16 ?_
  refine lv_bipush (v := 32) hx hb d_PatternBook_Wide_timesPlus_19 (by decide) ?_
  refine lv_lushr (v := lushr_ wl (32:Int32)) hx hb d_PatternBook_Wide_timesPlus_21 rfl ?_
  refine lv_iload_n hx hb d_PatternBook_Wide_timesPlus_22 rfl (lv_at hl 2 rfl) ?_
  refine lv_i2l hx hb d_PatternBook_Wide_timesPlus_23 rfl ?_
  refine lv_lmul hx hb d_PatternBook_Wide_timesPlus_24 ?_
  refine lv_lload_n hx hb d_PatternBook_Wide_timesPlus_25 rfl (lv_at hl 0 rfl) ?_
  refine lv_bipush (v := 32) hx hb d_PatternBook_Wide_timesPlus_26 (by decide) ?_
  refine lv_lushr (v := lushr_ z1 (32:Int32)) hx hb d_PatternBook_Wide_timesPlus_28 rfl ?_
  refine lv_ladd hx hb d_PatternBook_Wide_timesPlus_29 ?_
  refine lv_topl (fun z2 hz2 => ?_)
  refine lv_lstore (lv' := [(5, .long z2), (3, .long z1), (0, .ref w), (1, .int x), (2, .int y)]) hx hb d_PatternBook_Wide_timesPlus_30 hl (by decide) rfl (fun ls hl => ?_)
  refine lv_aload_n hx hb d_PatternBook_Wide_timesPlus_32 rfl (lv_at hl 2 rfl) ?_
  refine va_get (D := D) (ci := 0) (v := .long wh) (C := R_PatternBook_Wide) (T := F_PatternBook_Wide) (N := 2) hx hb hts i_PatternBook_Wide hown hK hP 0 rfl rfl 0 (by decide) (hts _ k_9) (fun _ h9 => h9) rfl d_PatternBook_Wide_timesPlus_33 ?_
  refine lv_ldc2 (v := 4294967295) hx hb hown (hts _ k_22) d_PatternBook_Wide_timesPlus_36 ?_
  refine lv_land hx hb d_PatternBook_Wide_timesPlus_39 ?_
  refine lv_iload_n hx hb d_PatternBook_Wide_timesPlus_40 rfl (lv_at hl 3 rfl) ?_
  refine lv_i2l hx hb d_PatternBook_Wide_timesPlus_41 rfl ?_
  refine lv_lmul hx hb d_PatternBook_Wide_timesPlus_42 ?_
  refine lv_lload hx hb d_PatternBook_Wide_timesPlus_43 (lv_at hl 0 rfl) ?_
  refine lv_bipush (v := 32) hx hb d_PatternBook_Wide_timesPlus_45 (by decide) ?_
  refine lv_lushr (v := lushr_ z2 (32:Int32)) hx hb d_PatternBook_Wide_timesPlus_47 rfl ?_
  refine lv_ladd hx hb d_PatternBook_Wide_timesPlus_48 ?_
  refine lv_topl (fun z3 hz3 => ?_)
  refine lv_lstore (lv' := [(7, .long z3), (5, .long z2), (3, .long z1), (0, .ref w), (1, .int x), (2, .int y)]) hx hb d_PatternBook_Wide_timesPlus_49 hl (by decide) rfl (fun ls hl => ?_)
  refine lv_aload_n hx hb d_PatternBook_Wide_timesPlus_51 rfl (lv_at hl 3 rfl) ?_
  refine va_get (D := D) (ci := 0) (v := .long wh) (C := R_PatternBook_Wide) (T := F_PatternBook_Wide) (N := 2) hx hb hts i_PatternBook_Wide hown hK hP 0 rfl rfl 0 (by decide) (hts _ k_9) (fun _ h9 => h9) rfl d_PatternBook_Wide_timesPlus_52 ?_
  refine lv_bipush (v := 32) hx hb d_PatternBook_Wide_timesPlus_55 (by decide) ?_
  refine lv_lushr (v := lushr_ wh (32:Int32)) hx hb d_PatternBook_Wide_timesPlus_57 rfl ?_
  refine lv_iload_n hx hb d_PatternBook_Wide_timesPlus_58 rfl (lv_at hl 4 rfl) ?_
  refine lv_i2l hx hb d_PatternBook_Wide_timesPlus_59 rfl ?_
  refine lv_lmul hx hb d_PatternBook_Wide_timesPlus_60 ?_
  refine lv_lload hx hb d_PatternBook_Wide_timesPlus_61 (lv_at hl 0 rfl) ?_
  refine lv_bipush (v := 32) hx hb d_PatternBook_Wide_timesPlus_63 (by decide) ?_
  refine lv_lushr (v := lushr_ z3 (32:Int32)) hx hb d_PatternBook_Wide_timesPlus_65 rfl ?_
  refine lv_ladd hx hb d_PatternBook_Wide_timesPlus_66 ?_
  refine lv_topl (fun z4 hz4 => ?_)
  refine lv_lstore (lv' := [(9, .long z4), (7, .long z3), (5, .long z2), (3, .long z1), (0, .ref w), (1, .int x), (2, .int y)]) hx hb d_PatternBook_Wide_timesPlus_67 hl (by decide) rfl (fun ls hl => ?_)
  refine lv_aload_n hx hb d_PatternBook_Wide_timesPlus_69 rfl (lv_at hl 4 rfl) ?_
  refine lv_lload hx hb d_PatternBook_Wide_timesPlus_70 (lv_at hl 2 rfl) ?_
  refine lv_bipush (v := 32) hx hb d_PatternBook_Wide_timesPlus_72 (by decide) ?_
  refine lv_lshl (v := lshl_ z2 (32:Int32)) hx hb d_PatternBook_Wide_timesPlus_74 rfl ?_
  refine lv_lload_n hx hb d_PatternBook_Wide_timesPlus_75 rfl (lv_at hl 3 rfl) ?_
  refine lv_ldc2 (v := 4294967295) hx hb hown (hts _ k_22) d_PatternBook_Wide_timesPlus_76 ?_
  refine lv_land hx hb d_PatternBook_Wide_timesPlus_79 ?_
  refine lv_lor hx hb d_PatternBook_Wide_timesPlus_80 ?_
  refine va_put (D := D) (ci := 0) (v := .long ((lshl_ z2 (32:Int32)) ||| (z1 &&& (4294967295:Int64)))) (ty := .long) (C := R_PatternBook_Wide) (T := F_PatternBook_Wide) (N := 2) hx hb hts i_PatternBook_Wide t_PatternBook_Wide t_PatternBook_Wide_ok n_PatternBook_Wide hown hK hP hD hS 0 rfl rfl 1 (by decide) (hts _ k_10) (fun _ h9 => h9) rfl (by decide +kernel) rfl rfl (Nat.le_of_ble_eq_true rfl) d_PatternBook_Wide_timesPlus_81 (fun H locs hP hD hS => ?_)
  have hP : va_P D classes [(w, .inr (0, [.long wh, .long ((lshl_ z2 (32:Int32)) ||| (z1 &&& (4294967295:Int64)))]))] H := hP
  have hD : va_D A [(w, .inr (0, [.long wh, .long ((lshl_ z2 (32:Int32)) ||| (z1 &&& (4294967295:Int64)))]))] := hD
  refine lv_aload_n hx hb d_PatternBook_Wide_timesPlus_84 rfl (lv_at hl 4 rfl) ?_
  refine lv_lload hx hb d_PatternBook_Wide_timesPlus_85 (lv_at hl 0 rfl) ?_
  refine lv_bipush (v := 32) hx hb d_PatternBook_Wide_timesPlus_87 (by decide) ?_
  refine lv_lshl (v := lshl_ z4 (32:Int32)) hx hb d_PatternBook_Wide_timesPlus_89 rfl ?_
  refine lv_lload hx hb d_PatternBook_Wide_timesPlus_90 (lv_at hl 1 rfl) ?_
  refine lv_ldc2 (v := 4294967295) hx hb hown (hts _ k_22) d_PatternBook_Wide_timesPlus_92 ?_
  refine lv_land hx hb d_PatternBook_Wide_timesPlus_95 ?_
  refine lv_lor hx hb d_PatternBook_Wide_timesPlus_96 ?_
  refine va_put (D := D) (ci := 0) (v := .long ((lshl_ z4 (32:Int32)) ||| (z3 &&& (4294967295:Int64)))) (ty := .long) (C := R_PatternBook_Wide) (T := F_PatternBook_Wide) (N := 2) hx hb hts i_PatternBook_Wide t_PatternBook_Wide t_PatternBook_Wide_ok n_PatternBook_Wide hown hK hP hD hS 0 rfl rfl 0 (by decide) (hts _ k_9) (fun _ h9 => h9) rfl (by decide +kernel) rfl rfl (Nat.le_of_ble_eq_true rfl) d_PatternBook_Wide_timesPlus_97 (fun H locs hP hD hS => ?_)
  have hP : va_P D classes [(w, .inr (0, [.long ((lshl_ z4 (32:Int32)) ||| (z3 &&& (4294967295:Int64))), .long ((lshl_ z2 (32:Int32)) ||| (z1 &&& (4294967295:Int64)))]))] H := hP
  have hD : va_D A [(w, .inr (0, [.long ((lshl_ z4 (32:Int32)) ||| (z3 &&& (4294967295:Int64))), .long ((lshl_ z2 (32:Int32)) ||| (z1 &&& (4294967295:Int64)))]))] := hD
  refine W.vret hx hb hr ?_ hS.2.2 d_PatternBook_Wide_timesPlus_100
  exact uEnd (((lshl_ z4 (32:Int32)) ||| (z3 &&& (4294967295:Int64))), ((lshl_ z2 (32:Int32)) ||| (z1 &&& (4294967295:Int64)))) (hP.sub [0] rfl) (hK.sub [] rfl) (hD.sub [0] (by decide) rfl) hS (by have ez1 := hz1.symm; subst ez1; have ez2 := hz2.symm; subst ez2; have ez3 := hz3.symm; subst ez3; have ez4 := hz4.symm; subst ez4; exact (rfl).symm) rfl
set_option maxHeartbeats 4000000 in
set_option maxRecDepth 100000 in
/-- PatternBook$Wide.takeThreeDigits()I -/
theorem c_W_take (l : Launch) (D : va_G) (w : Nat) (sz : Nat) (wh : Int64) (wl : Int64) : Met l y_PatternBook_Wide_takeThreeDigits (wsOf y_PatternBook_Wide_takeThreeDigits b_PatternBook_Wide_takeThreeDigits 9 (some .int)) ({ frames := 0, cells := 0, slots := 0, locals := 0 }) (uP D classes [(w, .inr (0, [.long wh, .long wl]))] [] sz [.ref w]) (uQ D classes (fun u : Int32 × Int64 × Int64 => some (.int u.1)) (fun u => u = (sl m_W_take) wh wl) (va_A [(w, .inr (0, [.long wh, .long wl]))] sz) (fun _ => []) (fun u => [(w, .inr (0, [.long u.2.1, .long u.2.2]))])) 0 0 (va_A [(w, .inr (0, [.long wh, .long wl]))] sz) := by
  rw [sl_eq m_W_take]
  refine uBegin (by decide +kernel) (Nat.le_of_ble_eq_true rfl) ?_
  intro p e s m below meth c A ls H locs hx hb hr hts hown hlocks hml hin hA hP hK hD hN hS hl
  have hl : lv_has ls 9 [(0, .ref w)] := hl
  refine lv_aload_n hx hb d_PatternBook_Wide_takeThreeDigits_0 rfl (lv_at hl 0 rfl) ?_
  refine va_get (D := D) (ci := 0) (v := .long wh) (C := R_PatternBook_Wide) (T := F_PatternBook_Wide) (N := 2) hx hb hts i_PatternBook_Wide hown hK hP 0 rfl rfl 0 (by decide) (hts _ k_9) (fun _ h9 => h9) rfl d_PatternBook_Wide_takeThreeDigits_1 ?_
  refine lv_bipush (v := 32) hx hb d_PatternBook_Wide_takeThreeDigits_4 (by decide) ?_
  refine lv_lushr (v := lushr_ wh (32:Int32)) hx hb d_PatternBook_Wide_takeThreeDigits_6 rfl ?_
  refine lv_lstore_n (lv' := [(1, .long (lushr_ wh (32:Int32))), (0, .ref w)]) hx hb d_PatternBook_Wide_takeThreeDigits_7 rfl hl (by decide) rfl (fun ls hl => ?_)
  refine lv_lload_n hx hb d_PatternBook_Wide_takeThreeDigits_8 rfl (lv_at hl 0 rfl) ?_
  refine lv_ldc2 (v := 1000) hx hb hown (hts _ k_23) d_PatternBook_Wide_takeThreeDigits_9 ?_
  refine lv_lrem hx hb d_PatternBook_Wide_takeThreeDigits_12 (by decide) ?_
  refine lv_bipush (v := 32) hx hb d_PatternBook_Wide_takeThreeDigits_13 (by decide) ?_
  refine lv_lshl (v := lshl_ ((lushr_ wh (32:Int32)) - (lushr_ wh (32:Int32)) / (1000:Int64) * (1000:Int64)) (32:Int32)) hx hb d_PatternBook_Wide_takeThreeDigits_15 rfl ?_
  refine lv_aload_n hx hb d_PatternBook_Wide_takeThreeDigits_16 rfl (lv_at hl 1 rfl) ?_
  refine va_get (D := D) (ci := 0) (v := .long wh) (C := R_PatternBook_Wide) (T := F_PatternBook_Wide) (N := 2) hx hb hts i_PatternBook_Wide hown hK hP 0 rfl rfl 0 (by decide) (hts _ k_9) (fun _ h9 => h9) rfl d_PatternBook_Wide_takeThreeDigits_17 ?_
  refine lv_ldc2 (v := 4294967295) hx hb hown (hts _ k_22) d_PatternBook_Wide_takeThreeDigits_20 ?_
  refine lv_land hx hb d_PatternBook_Wide_takeThreeDigits_23 ?_
  refine lv_lor hx hb d_PatternBook_Wide_takeThreeDigits_24 ?_
  refine lv_topl (fun z1 hz1 => ?_)
  refine lv_lstore_n (lv' := [(3, .long z1), (1, .long (lushr_ wh (32:Int32))), (0, .ref w)]) hx hb d_PatternBook_Wide_takeThreeDigits_25 rfl hl (by decide) rfl (fun ls hl => ?_)
  refine lv_lload_n hx hb d_PatternBook_Wide_takeThreeDigits_26 rfl (lv_at hl 0 rfl) ?_
  refine lv_ldc2 (v := 1000) hx hb hown (hts _ k_23) d_PatternBook_Wide_takeThreeDigits_27 ?_
  refine lv_lrem hx hb d_PatternBook_Wide_takeThreeDigits_30 (by decide) ?_
  refine lv_bipush (v := 32) hx hb d_PatternBook_Wide_takeThreeDigits_31 (by decide) ?_
  refine lv_lshl (v := lshl_ (z1 - z1 / (1000:Int64) * (1000:Int64)) (32:Int32)) hx hb d_PatternBook_Wide_takeThreeDigits_33 rfl ?_
  refine lv_aload_n hx hb d_PatternBook_Wide_takeThreeDigits_34 rfl (lv_at hl 2 rfl) ?_
  refine va_get (D := D) (ci := 0) (v := .long wl) (C := R_PatternBook_Wide) (T := F_PatternBook_Wide) (N := 2) hx hb hts i_PatternBook_Wide hown hK hP 0 rfl rfl 1 (by decide) (hts _ k_10) (fun _ h9 => h9) rfl d_PatternBook_Wide_takeThreeDigits_35 ?_
  refine lv_bipush (v := 32) hx hb d_PatternBook_Wide_takeThreeDigits_38 (by decide) ?_
  refine lv_lushr (v := lushr_ wl (32:Int32)) hx hb d_PatternBook_Wide_takeThreeDigits_40 rfl ?_
  refine lv_lor hx hb d_PatternBook_Wide_takeThreeDigits_41 ?_
  refine lv_topl (fun z2 hz2 => ?_)
  refine lv_lstore (lv' := [(5, .long z2), (3, .long z1), (1, .long (lushr_ wh (32:Int32))), (0, .ref w)]) hx hb d_PatternBook_Wide_takeThreeDigits_42 hl (by decide) rfl (fun ls hl => ?_)
  refine lv_lload hx hb d_PatternBook_Wide_takeThreeDigits_44 (lv_at hl 0 rfl) ?_
  refine lv_ldc2 (v := 1000) hx hb hown (hts _ k_23) d_PatternBook_Wide_takeThreeDigits_46 ?_
  refine lv_lrem hx hb d_PatternBook_Wide_takeThreeDigits_49 (by decide) ?_
  refine lv_bipush (v := 32) hx hb d_PatternBook_Wide_takeThreeDigits_50 (by decide) ?_
  refine lv_lshl (v := lshl_ (z2 - z2 / (1000:Int64) * (1000:Int64)) (32:Int32)) hx hb d_PatternBook_Wide_takeThreeDigits_52 rfl ?_
  refine lv_aload_n hx hb d_PatternBook_Wide_takeThreeDigits_53 rfl (lv_at hl 3 rfl) ?_
  refine va_get (D := D) (ci := 0) (v := .long wl) (C := R_PatternBook_Wide) (T := F_PatternBook_Wide) (N := 2) hx hb hts i_PatternBook_Wide hown hK hP 0 rfl rfl 1 (by decide) (hts _ k_10) (fun _ h9 => h9) rfl d_PatternBook_Wide_takeThreeDigits_54 ?_
  refine lv_ldc2 (v := 4294967295) hx hb hown (hts _ k_22) d_PatternBook_Wide_takeThreeDigits_57 ?_
  refine lv_land hx hb d_PatternBook_Wide_takeThreeDigits_60 ?_
  refine lv_lor hx hb d_PatternBook_Wide_takeThreeDigits_61 ?_
  refine lv_topl (fun z3 hz3 => ?_)
  refine lv_lstore (lv' := [(7, .long z3), (5, .long z2), (3, .long z1), (1, .long (lushr_ wh (32:Int32))), (0, .ref w)]) hx hb d_PatternBook_Wide_takeThreeDigits_62 hl (by decide) rfl (fun ls hl => ?_)
  refine lv_aload_n hx hb d_PatternBook_Wide_takeThreeDigits_64 rfl (lv_at hl 4 rfl) ?_
  refine lv_lload_n hx hb d_PatternBook_Wide_takeThreeDigits_65 rfl (lv_at hl 3 rfl) ?_
  refine lv_ldc2 (v := 1000) hx hb hown (hts _ k_23) d_PatternBook_Wide_takeThreeDigits_66 ?_
  refine lv_ldiv hx hb d_PatternBook_Wide_takeThreeDigits_69 (by decide) ?_
  refine lv_bipush (v := 32) hx hb d_PatternBook_Wide_takeThreeDigits_70 (by decide) ?_
  refine lv_lshl (v := lshl_ ((lushr_ wh (32:Int32)) / (1000:Int64)) (32:Int32)) hx hb d_PatternBook_Wide_takeThreeDigits_72 rfl ?_
  refine lv_lload_n hx hb d_PatternBook_Wide_takeThreeDigits_73 rfl (lv_at hl 2 rfl) ?_
  refine lv_ldc2 (v := 1000) hx hb hown (hts _ k_23) d_PatternBook_Wide_takeThreeDigits_74 ?_
  refine lv_ldiv hx hb d_PatternBook_Wide_takeThreeDigits_77 (by decide) ?_
  refine lv_lor hx hb d_PatternBook_Wide_takeThreeDigits_78 ?_
  refine va_put (D := D) (ci := 0) (v := .long ((lshl_ ((lushr_ wh (32:Int32)) / (1000:Int64)) (32:Int32)) ||| (z1 / (1000:Int64)))) (ty := .long) (C := R_PatternBook_Wide) (T := F_PatternBook_Wide) (N := 2) hx hb hts i_PatternBook_Wide t_PatternBook_Wide t_PatternBook_Wide_ok n_PatternBook_Wide hown hK hP hD hS 0 rfl rfl 0 (by decide) (hts _ k_9) (fun _ h9 => h9) rfl (by decide +kernel) rfl rfl (Nat.le_of_ble_eq_true rfl) d_PatternBook_Wide_takeThreeDigits_79 (fun H locs hP hD hS => ?_)
  have hP : va_P D classes [(w, .inr (0, [.long ((lshl_ ((lushr_ wh (32:Int32)) / (1000:Int64)) (32:Int32)) ||| (z1 / (1000:Int64))), .long wl]))] H := hP
  have hD : va_D A [(w, .inr (0, [.long ((lshl_ ((lushr_ wh (32:Int32)) / (1000:Int64)) (32:Int32)) ||| (z1 / (1000:Int64))), .long wl]))] := hD
  refine lv_aload_n hx hb d_PatternBook_Wide_takeThreeDigits_82 rfl (lv_at hl 4 rfl) ?_
  refine lv_lload hx hb d_PatternBook_Wide_takeThreeDigits_83 (lv_at hl 1 rfl) ?_
  refine lv_ldc2 (v := 1000) hx hb hown (hts _ k_23) d_PatternBook_Wide_takeThreeDigits_85 ?_
  refine lv_ldiv hx hb d_PatternBook_Wide_takeThreeDigits_88 (by decide) ?_
  refine lv_bipush (v := 32) hx hb d_PatternBook_Wide_takeThreeDigits_89 (by decide) ?_
  refine lv_lshl (v := lshl_ (z2 / (1000:Int64)) (32:Int32)) hx hb d_PatternBook_Wide_takeThreeDigits_91 rfl ?_
  refine lv_lload hx hb d_PatternBook_Wide_takeThreeDigits_92 (lv_at hl 0 rfl) ?_
  refine lv_ldc2 (v := 1000) hx hb hown (hts _ k_23) d_PatternBook_Wide_takeThreeDigits_94 ?_
  refine lv_ldiv hx hb d_PatternBook_Wide_takeThreeDigits_97 (by decide) ?_
  refine lv_lor hx hb d_PatternBook_Wide_takeThreeDigits_98 ?_
  refine va_put (D := D) (ci := 0) (v := .long ((lshl_ (z2 / (1000:Int64)) (32:Int32)) ||| (z3 / (1000:Int64)))) (ty := .long) (C := R_PatternBook_Wide) (T := F_PatternBook_Wide) (N := 2) hx hb hts i_PatternBook_Wide t_PatternBook_Wide t_PatternBook_Wide_ok n_PatternBook_Wide hown hK hP hD hS 0 rfl rfl 1 (by decide) (hts _ k_10) (fun _ h9 => h9) rfl (by decide +kernel) rfl rfl (Nat.le_of_ble_eq_true rfl) d_PatternBook_Wide_takeThreeDigits_99 (fun H locs hP hD hS => ?_)
  have hP : va_P D classes [(w, .inr (0, [.long ((lshl_ ((lushr_ wh (32:Int32)) / (1000:Int64)) (32:Int32)) ||| (z1 / (1000:Int64))), .long ((lshl_ (z2 / (1000:Int64)) (32:Int32)) ||| (z3 / (1000:Int64)))]))] H := hP
  have hD : va_D A [(w, .inr (0, [.long ((lshl_ ((lushr_ wh (32:Int32)) / (1000:Int64)) (32:Int32)) ||| (z1 / (1000:Int64))), .long ((lshl_ (z2 / (1000:Int64)) (32:Int32)) ||| (z3 / (1000:Int64)))]))] := hD
  refine lv_lload hx hb d_PatternBook_Wide_takeThreeDigits_102 (lv_at hl 0 rfl) ?_
  refine lv_ldc2 (v := 1000) hx hb hown (hts _ k_23) d_PatternBook_Wide_takeThreeDigits_104 ?_
  refine lv_lrem hx hb d_PatternBook_Wide_takeThreeDigits_107 (by decide) ?_
  refine lv_l2i hx hb d_PatternBook_Wide_takeThreeDigits_108 rfl ?_
  refine W.iret hx hb hr ?_ hS.2.2 d_PatternBook_Wide_takeThreeDigits_109
  exact uEnd ((Int64.toInt32 (z3 - z3 / (1000:Int64) * (1000:Int64))), ((lshl_ ((lushr_ wh (32:Int32)) / (1000:Int64)) (32:Int32)) ||| (z1 / (1000:Int64))), ((lshl_ (z2 / (1000:Int64)) (32:Int32)) ||| (z3 / (1000:Int64)))) (hP.sub [0] rfl) (hK.sub [] rfl) (hD.sub [0] (by decide) rfl) hS (by have ez1 := hz1.symm; subst ez1; have ez2 := hz2.symm; subst ez2; have ez3 := hz3.symm; subst ez3; exact (rfl).symm) rfl
