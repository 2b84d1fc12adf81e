set_option maxHeartbeats 4000000 in
set_option maxRecDepth 100000 in
/-- PatternBook$Format.<init>(III)V -/
theorem c_C_B_format (l : Launch) (D : va_G) (f : Nat) (sz : Nat) (x : Int32) (y : Int32) (z : Int32) (a0 : Int32) (a1 : Int32) (a2 : Int32) (a3 : Int32) (a4 : Int32) (a5 : Int32) (a6 : Int64) : Met l y_PatternBook_Format_init (wsOf y_PatternBook_Format_init b_PatternBook_Format_init 4 none) ({ frames := 1, cells := 0, slots := 0, locals := 12 }) (uP D classes [(f, .inr (2, [.int a0, .int a1, .int a2, .int a3, .int a4, .int a5, .long a6]))] [] sz [.ref f, .int x, .int y, .int z]) (uQ D classes (fun _ : Int32 × Int32 × Int32 × Int32 => none) (fun u => u = (sl m_C_B_format) x y z) (va_A [(f, .inr (2, [.int a0, .int a1, .int a2, .int a3, .int a4, .int a5, .long a6]))] sz) (fun _ => []) (fun u => [(f, .inr (2, [.int u.1, .int u.2.1, .int u.2.2.1, .int u.2.2.2, .int a4, .int a5, .long a6]))])) 0 0 (va_A [(f, .inr (2, [.int a0, .int a1, .int a2, .int a3, .int a4, .int a5, .long a6]))] sz) := by
  rw [sl_eq m_C_B_format]
  refine uBegin (by decide +kernel) (Nat.le_of_ble_eq_true rfl) ?_
  intro p e s m below meth c A ls H locs hx hb hr hts hown hlocks hml hin hA hP hK hD hN hS hl
  have hl : lv_has ls 4 [(0, .ref f), (1, .int x), (2, .int y), (3, .int z)] := hl
  refine lv_aload_n hx hb d_PatternBook_Format_init_0 rfl (lv_at hl 0 rfl) ?_
  refine W.objInit hx hb hown (hts _ k_427) (hts _ k_7) (hts _ k_8) rfl (by rw [hml]; exact hl.1) rfl d_PatternBook_Format_init_1 (Nat.le_of_ble_eq_true rfl) (Nat.le_of_ble_eq_true rfl) ?_
  refine W.eq (g2 := F0 m 4 ls []) rfl ?_
  refine lv_aload_n hx hb d_PatternBook_Format_init_4 rfl (lv_at hl 0 rfl) ?_
  refine lv_iload_n hx hb d_PatternBook_Format_init_5 rfl (lv_at hl 1 rfl) ?_
  refine va_putF (D := D) (ci := 2) (v := .int x) (ty := .int) (C := R_PatternBook_Binary) (T := F_PatternBook_Binary) (N := 7) hx hb hts i_PatternBook_Binary t_PatternBook_Binary t_PatternBook_Binary_ok n_PatternBook_Binary hown hK hP hD hS 0 rfl rfl 0 (by decide) (hts _ k_102) (fun _ h9 => h9) rfl hin rfl (by decide +kernel) rfl rfl (Nat.le_of_ble_eq_true rfl) d_PatternBook_Format_init_6 (fun H locs hP hD hS => ?_)
  have hP : va_P D classes [(f, .inr (2, [.int x, .int a1, .int a2, .int a3, .int a4, .int a5, .long a6]))] H := hP
  have hD : va_D A [(f, .inr (2, [.int x, .int a1, .int a2, .int a3, .int a4, .int a5, .long a6]))] := hD
  refine lv_aload_n hx hb d_PatternBook_Format_init_9 rfl (lv_at hl 0 rfl) ?_
  refine lv_iload_n hx hb d_PatternBook_Format_init_10 rfl (lv_at hl 2 rfl) ?_
  refine va_putF (D := D) (ci := 2) (v := .int y) (ty := .int) (C := R_PatternBook_Binary) (T := F_PatternBook_Binary) (N := 7) hx hb hts i_PatternBook_Binary t_PatternBook_Binary t_PatternBook_Binary_ok n_PatternBook_Binary hown hK hP hD hS 0 rfl rfl 1 (by decide) (hts _ k_428) (fun _ h9 => h9) rfl hin rfl (by decide +kernel) rfl rfl (Nat.le_of_ble_eq_true rfl) d_PatternBook_Format_init_11 (fun H locs hP hD hS => ?_)
  have hP : va_P D classes [(f, .inr (2, [.int x, .int y, .int a2, .int a3, .int a4, .int a5, .long a6]))] H := hP
  have hD : va_D A [(f, .inr (2, [.int x, .int y, .int a2, .int a3, .int a4, .int a5, .long a6]))] := hD
  refine lv_aload_n hx hb d_PatternBook_Format_init_14 rfl (lv_at hl 0 rfl) ?_
  refine lv_iconst (v := 2) hx hb d_PatternBook_Format_init_15 (by decide) ?_
  refine lv_iload_n hx hb d_PatternBook_Format_init_16 rfl (lv_at hl 3 rfl) ?_
  refine lv_isub hx hb d_PatternBook_Format_init_17 ?_
  refine lv_iload_n hx hb d_PatternBook_Format_init_18 rfl (lv_at hl 2 rfl) ?_
  refine lv_isub hx hb d_PatternBook_Format_init_19 ?_
  refine va_putF (D := D) (ci := 2) (v := .int (((2:Int32) - z) - y)) (ty := .int) (C := R_PatternBook_Binary) (T := F_PatternBook_Binary) (N := 7) hx hb hts i_PatternBook_Binary t_PatternBook_Binary t_PatternBook_Binary_ok n_PatternBook_Binary hown hK hP hD hS 0 rfl rfl 2 (by decide) (hts _ k_89) (fun _ h9 => h9) rfl hin rfl (by decide +kernel) rfl rfl (Nat.le_of_ble_eq_true rfl) d_PatternBook_Format_init_20 (fun H locs hP hD hS => ?_)
  have hP : va_P D classes [(f, .inr (2, [.int x, .int y, .int (((2:Int32) - z) - y), .int a3, .int a4, .int a5, .long a6]))] H := hP
  have hD : va_D A [(f, .inr (2, [.int x, .int y, .int (((2:Int32) - z) - y), .int a3, .int a4, .int a5, .long a6]))] := hD
  refine lv_aload_n hx hb d_PatternBook_Format_init_23 rfl (lv_at hl 0 rfl) ?_
  refine lv_iload_n hx hb d_PatternBook_Format_init_24 rfl (lv_at hl 3 rfl) ?_
  refine lv_iconst (v := 1) hx hb d_PatternBook_Format_init_25 (by decide) ?_
  refine lv_iadd hx hb d_PatternBook_Format_init_26 ?_
  refine lv_iload_n hx hb d_PatternBook_Format_init_27 rfl (lv_at hl 2 rfl) ?_
  refine lv_isub hx hb d_PatternBook_Format_init_28 ?_
  refine va_putF (D := D) (ci := 2) (v := .int ((z + (1:Int32)) - y)) (ty := .int) (C := R_PatternBook_Binary) (T := F_PatternBook_Binary) (N := 7) hx hb hts i_PatternBook_Binary t_PatternBook_Binary t_PatternBook_Binary_ok n_PatternBook_Binary hown hK hP hD hS 0 rfl rfl 3 (by decide) (hts _ k_90) (fun _ h9 => h9) rfl hin rfl (by decide +kernel) rfl rfl (Nat.le_of_ble_eq_true rfl) d_PatternBook_Format_init_29 (fun H locs hP hD hS => ?_)
  have hP : va_P D classes [(f, .inr (2, [.int x, .int y, .int (((2:Int32) - z) - y), .int ((z + (1:Int32)) - y), .int a4, .int a5, .long a6]))] H := hP
  have hD : va_D A [(f, .inr (2, [.int x, .int y, .int (((2:Int32) - z) - y), .int ((z + (1:Int32)) - y), .int a4, .int a5, .long a6]))] := hD
  refine W.vret hx hb hr ?_ hS.2.2 d_PatternBook_Format_init_32
  exact uEnd (x, y, (((2:Int32) - z) - y), ((z + (1:Int32)) - y)) (hP.sub [0] rfl) (hK.sub [] rfl) (hD.sub [0] (by decide) rfl) hS rfl rfl
set_option maxHeartbeats 4000000 in
set_option maxRecDepth 100000 in
/-- PatternBook$Format.<init>(III)V -/
theorem c_C_P_format (l : Launch) (D : va_G) (f : Nat) (sz : Nat) (x : Int32) (y : Int32) (z : Int32) (a0 : Int32) (a1 : Int32) (a2 : Int32) (a3 : Int32) (a4 : Int32) (a5 : Int32) (a6 : Int32) : Met l y_PatternBook_Format_init (wsOf y_PatternBook_Format_init b_PatternBook_Format_init 4 none) ({ frames := 1, cells := 0, slots := 0, locals := 12 }) (uP D classes [(f, .inr (3, [.int a0, .int a1, .int a2, .int a3, .int a4, .int a5, .int a6, .null, .null]))] [] sz [.ref f, .int x, .int y, .int z]) (uQ D classes (fun _ : Int32 × Int32 × Int32 × Int32 => none) (fun u => u = (sl m_C_P_format) x y z) (va_A [(f, .inr (3, [.int a0, .int a1, .int a2, .int a3, .int a4, .int a5, .int a6, .null, .null]))] sz) (fun _ => []) (fun u => [(f, .inr (3, [.int u.1, .int u.2.1, .int u.2.2.1, .int u.2.2.2, .int a4, .int a5, .int a6, .null, .null]))])) 0 0 (va_A [(f, .inr (3, [.int a0, .int a1, .int a2, .int a3, .int a4, .int a5, .int a6, .null, .null]))] sz) := by
  rw [sl_eq m_C_P_format]
  refine uBegin (by decide +kernel) (Nat.le_of_ble_eq_true rfl) ?_
  intro p e s m below meth c A ls H locs hx hb hr hts hown hlocks hml hin hA hP hK hD hN hS hl
  have hl : lv_has ls 4 [(0, .ref f), (1, .int x), (2, .int y), (3, .int z)] := hl
  refine lv_aload_n hx hb d_PatternBook_Format_init_0 rfl (lv_at hl 0 rfl) ?_
  refine W.objInit hx hb hown (hts _ k_427) (hts _ k_7) (hts _ k_8) rfl (by rw [hml]; exact hl.1) rfl d_PatternBook_Format_init_1 (Nat.le_of_ble_eq_true rfl) (Nat.le_of_ble_eq_true rfl) ?_
  refine W.eq (g2 := F0 m 4 ls []) rfl ?_
  refine lv_aload_n hx hb d_PatternBook_Format_init_4 rfl (lv_at hl 0 rfl) ?_
  refine lv_iload_n hx hb d_PatternBook_Format_init_5 rfl (lv_at hl 1 rfl) ?_
  refine va_putF (D := D) (ci := 3) (v := .int x) (ty := .int) (C := R_PatternBook_PlainDecimal) (T := F_PatternBook_PlainDecimal) (N := 9) hx hb hts i_PatternBook_PlainDecimal t_PatternBook_PlainDecimal t_PatternBook_PlainDecimal_ok n_PatternBook_PlainDecimal hown hK hP hD hS 0 rfl rfl 0 (by decide) (hts _ k_102) (fun _ h9 => h9) rfl hin rfl (by decide +kernel) rfl rfl (Nat.le_of_ble_eq_true rfl) d_PatternBook_Format_init_6 (fun H locs hP hD hS => ?_)
  have hP : va_P D classes [(f, .inr (3, [.int x, .int a1, .int a2, .int a3, .int a4, .int a5, .int a6, .null, .null]))] H := hP
  have hD : va_D A [(f, .inr (3, [.int x, .int a1, .int a2, .int a3, .int a4, .int a5, .int a6, .null, .null]))] := hD
  refine lv_aload_n hx hb d_PatternBook_Format_init_9 rfl (lv_at hl 0 rfl) ?_
  refine lv_iload_n hx hb d_PatternBook_Format_init_10 rfl (lv_at hl 2 rfl) ?_
  refine va_putF (D := D) (ci := 3) (v := .int y) (ty := .int) (C := R_PatternBook_PlainDecimal) (T := F_PatternBook_PlainDecimal) (N := 9) hx hb hts i_PatternBook_PlainDecimal t_PatternBook_PlainDecimal t_PatternBook_PlainDecimal_ok n_PatternBook_PlainDecimal hown hK hP hD hS 0 rfl rfl 1 (by decide) (hts _ k_428) (fun _ h9 => h9) rfl hin rfl (by decide +kernel) rfl rfl (Nat.le_of_ble_eq_true rfl) d_PatternBook_Format_init_11 (fun H locs hP hD hS => ?_)
  have hP : va_P D classes [(f, .inr (3, [.int x, .int y, .int a2, .int a3, .int a4, .int a5, .int a6, .null, .null]))] H := hP
  have hD : va_D A [(f, .inr (3, [.int x, .int y, .int a2, .int a3, .int a4, .int a5, .int a6, .null, .null]))] := hD
  refine lv_aload_n hx hb d_PatternBook_Format_init_14 rfl (lv_at hl 0 rfl) ?_
  refine lv_iconst (v := 2) hx hb d_PatternBook_Format_init_15 (by decide) ?_
  refine lv_iload_n hx hb d_PatternBook_Format_init_16 rfl (lv_at hl 3 rfl) ?_
  refine lv_isub hx hb d_PatternBook_Format_init_17 ?_
  refine lv_iload_n hx hb d_PatternBook_Format_init_18 rfl (lv_at hl 2 rfl) ?_
  refine lv_isub hx hb d_PatternBook_Format_init_19 ?_
  refine va_putF (D := D) (ci := 3) (v := .int (((2:Int32) - z) - y)) (ty := .int) (C := R_PatternBook_PlainDecimal) (T := F_PatternBook_PlainDecimal) (N := 9) hx hb hts i_PatternBook_PlainDecimal t_PatternBook_PlainDecimal t_PatternBook_PlainDecimal_ok n_PatternBook_PlainDecimal hown hK hP hD hS 0 rfl rfl 2 (by decide) (hts _ k_89) (fun _ h9 => h9) rfl hin rfl (by decide +kernel) rfl rfl (Nat.le_of_ble_eq_true rfl) d_PatternBook_Format_init_20 (fun H locs hP hD hS => ?_)
  have hP : va_P D classes [(f, .inr (3, [.int x, .int y, .int (((2:Int32) - z) - y), .int a3, .int a4, .int a5, .int a6, .null, .null]))] H := hP
  have hD : va_D A [(f, .inr (3, [.int x, .int y, .int (((2:Int32) - z) - y), .int a3, .int a4, .int a5, .int a6, .null, .null]))] := hD
  refine lv_aload_n hx hb d_PatternBook_Format_init_23 rfl (lv_at hl 0 rfl) ?_
  refine lv_iload_n hx hb d_PatternBook_Format_init_24 rfl (lv_at hl 3 rfl) ?_
  refine lv_iconst (v := 1) hx hb d_PatternBook_Format_init_25 (by decide) ?_
  refine lv_iadd hx hb d_PatternBook_Format_init_26 ?_
  refine lv_iload_n hx hb d_PatternBook_Format_init_27 rfl (lv_at hl 2 rfl) ?_
  refine lv_isub hx hb d_PatternBook_Format_init_28 ?_
  refine va_putF (D := D) (ci := 3) (v := .int ((z + (1:Int32)) - y)) (ty := .int) (C := R_PatternBook_PlainDecimal) (T := F_PatternBook_PlainDecimal) (N := 9) hx hb hts i_PatternBook_PlainDecimal t_PatternBook_PlainDecimal t_PatternBook_PlainDecimal_ok n_PatternBook_PlainDecimal hown hK hP hD hS 0 rfl rfl 3 (by decide) (hts _ k_90) (fun _ h9 => h9) rfl hin rfl (by decide +kernel) rfl rfl (Nat.le_of_ble_eq_true rfl) d_PatternBook_Format_init_29 (fun H locs hP hD hS => ?_)
  have hP : va_P D classes [(f, .inr (3, [.int x, .int y, .int (((2:Int32) - z) - y), .int ((z + (1:Int32)) - y), .int a4, .int a5, .int a6, .null, .null]))] H := hP
  have hD : va_D A [(f, .inr (3, [.int x, .int y, .int (((2:Int32) - z) - y), .int ((z + (1:Int32)) - y), .int a4, .int a5, .int a6, .null, .null]))] := hD
  refine W.vret hx hb hr ?_ hS.2.2 d_PatternBook_Format_init_32
  exact uEnd (x, y, (((2:Int32) - z) - y), ((z + (1:Int32)) - y)) (hP.sub [0] rfl) (hK.sub [] rfl) (hD.sub [0] (by decide) rfl) hS rfl rfl
set_option maxHeartbeats 4000000 in
set_option maxRecDepth 100000 in
/-- PatternBook$Format.<init>(III)V -/
theorem c_C_T_format (l : Launch) (D : va_G) (f : Nat) (sz : Nat) (x : Int32) (y : Int32) (z : Int32) (a0 : Int32) (a1 : Int32) (a2 : Int32) (a3 : Int32) (a4 : Int32) (a5 : Int32) (a6 : Int32) (a7 : Int32) : Met l y_PatternBook_Format_init (wsOf y_PatternBook_Format_init b_PatternBook_Format_init 4 none) ({ frames := 1, cells := 0, slots := 0, locals := 12 }) (uP D classes [(f, .inr (4, [.int a0, .int a1, .int a2, .int a3, .int a4, .int a5, .int a6, .null, .null, .int a7, .null]))] [] sz [.ref f, .int x, .int y, .int z]) (uQ D classes (fun _ : Int32 × Int32 × Int32 × Int32 => none) (fun u => u = (sl m_C_T_format) x y z) (va_A [(f, .inr (4, [.int a0, .int a1, .int a2, .int a3, .int a4, .int a5, .int a6, .null, .null, .int a7, .null]))] sz) (fun _ => []) (fun u => [(f, .inr (4, [.int u.1, .int u.2.1, .int u.2.2.1, .int u.2.2.2, .int a4, .int a5, .int a6, .null, .null, .int a7, .null]))])) 0 0 (va_A [(f, .inr (4, [.int a0, .int a1, .int a2, .int a3, .int a4, .int a5, .int a6, .null, .null, .int a7, .null]))] sz) := by
  rw [sl_eq m_C_T_format]
  refine uBegin (by decide +kernel) (Nat.le_of_ble_eq_true rfl) ?_
  intro p e s m below meth c A ls H locs hx hb hr hts hown hlocks hml hin hA hP hK hD hN hS hl
  have hl : lv_has ls 4 [(0, .ref f), (1, .int x), (2, .int y), (3, .int z)] := hl
  refine lv_aload_n hx hb d_PatternBook_Format_init_0 rfl (lv_at hl 0 rfl) ?_
  refine W.objInit hx hb hown (hts _ k_427) (hts _ k_7) (hts _ k_8) rfl (by rw [hml]; exact hl.1) rfl d_PatternBook_Format_init_1 (Nat.le_of_ble_eq_true rfl) (Nat.le_of_ble_eq_true rfl) ?_
  refine W.eq (g2 := F0 m 4 ls []) rfl ?_
  refine lv_aload_n hx hb d_PatternBook_Format_init_4 rfl (lv_at hl 0 rfl) ?_
  refine lv_iload_n hx hb d_PatternBook_Format_init_5 rfl (lv_at hl 1 rfl) ?_
  refine va_putF (D := D) (ci := 4) (v := .int x) (ty := .int) (C := R_PatternBook_DecletDecimal) (T := F_PatternBook_DecletDecimal) (N := 11) hx hb hts i_PatternBook_DecletDecimal t_PatternBook_DecletDecimal t_PatternBook_DecletDecimal_ok n_PatternBook_DecletDecimal hown hK hP hD hS 0 rfl rfl 0 (by decide) (hts _ k_102) (fun _ h9 => h9) rfl hin rfl (by decide +kernel) rfl rfl (Nat.le_of_ble_eq_true rfl) d_PatternBook_Format_init_6 (fun H locs hP hD hS => ?_)
  have hP : va_P D classes [(f, .inr (4, [.int x, .int a1, .int a2, .int a3, .int a4, .int a5, .int a6, .null, .null, .int a7, .null]))] H := hP
  have hD : va_D A [(f, .inr (4, [.int x, .int a1, .int a2, .int a3, .int a4, .int a5, .int a6, .null, .null, .int a7, .null]))] := hD
  refine lv_aload_n hx hb d_PatternBook_Format_init_9 rfl (lv_at hl 0 rfl) ?_
  refine lv_iload_n hx hb d_PatternBook_Format_init_10 rfl (lv_at hl 2 rfl) ?_
  refine va_putF (D := D) (ci := 4) (v := .int y) (ty := .int) (C := R_PatternBook_DecletDecimal) (T := F_PatternBook_DecletDecimal) (N := 11) hx hb hts i_PatternBook_DecletDecimal t_PatternBook_DecletDecimal t_PatternBook_DecletDecimal_ok n_PatternBook_DecletDecimal hown hK hP hD hS 0 rfl rfl 1 (by decide) (hts _ k_428) (fun _ h9 => h9) rfl hin rfl (by decide +kernel) rfl rfl (Nat.le_of_ble_eq_true rfl) d_PatternBook_Format_init_11 (fun H locs hP hD hS => ?_)
  have hP : va_P D classes [(f, .inr (4, [.int x, .int y, .int a2, .int a3, .int a4, .int a5, .int a6, .null, .null, .int a7, .null]))] H := hP
  have hD : va_D A [(f, .inr (4, [.int x, .int y, .int a2, .int a3, .int a4, .int a5, .int a6, .null, .null, .int a7, .null]))] := hD
  refine lv_aload_n hx hb d_PatternBook_Format_init_14 rfl (lv_at hl 0 rfl) ?_
  refine lv_iconst (v := 2) hx hb d_PatternBook_Format_init_15 (by decide) ?_
  refine lv_iload_n hx hb d_PatternBook_Format_init_16 rfl (lv_at hl 3 rfl) ?_
  refine lv_isub hx hb d_PatternBook_Format_init_17 ?_
  refine lv_iload_n hx hb d_PatternBook_Format_init_18 rfl (lv_at hl 2 rfl) ?_
  refine lv_isub hx hb d_PatternBook_Format_init_19 ?_
  refine va_putF (D := D) (ci := 4) (v := .int (((2:Int32) - z) - y)) (ty := .int) (C := R_PatternBook_DecletDecimal) (T := F_PatternBook_DecletDecimal) (N := 11) hx hb hts i_PatternBook_DecletDecimal t_PatternBook_DecletDecimal t_PatternBook_DecletDecimal_ok n_PatternBook_DecletDecimal hown hK hP hD hS 0 rfl rfl 2 (by decide) (hts _ k_89) (fun _ h9 => h9) rfl hin rfl (by decide +kernel) rfl rfl (Nat.le_of_ble_eq_true rfl) d_PatternBook_Format_init_20 (fun H locs hP hD hS => ?_)
  have hP : va_P D classes [(f, .inr (4, [.int x, .int y, .int (((2:Int32) - z) - y), .int a3, .int a4, .int a5, .int a6, .null, .null, .int a7, .null]))] H := hP
  have hD : va_D A [(f, .inr (4, [.int x, .int y, .int (((2:Int32) - z) - y), .int a3, .int a4, .int a5, .int a6, .null, .null, .int a7, .null]))] := hD
  refine lv_aload_n hx hb d_PatternBook_Format_init_23 rfl (lv_at hl 0 rfl) ?_
  refine lv_iload_n hx hb d_PatternBook_Format_init_24 rfl (lv_at hl 3 rfl) ?_
  refine lv_iconst (v := 1) hx hb d_PatternBook_Format_init_25 (by decide) ?_
  refine lv_iadd hx hb d_PatternBook_Format_init_26 ?_
  refine lv_iload_n hx hb d_PatternBook_Format_init_27 rfl (lv_at hl 2 rfl) ?_
  refine lv_isub hx hb d_PatternBook_Format_init_28 ?_
  refine va_putF (D := D) (ci := 4) (v := .int ((z + (1:Int32)) - y)) (ty := .int) (C := R_PatternBook_DecletDecimal) (T := F_PatternBook_DecletDecimal) (N := 11) hx hb hts i_PatternBook_DecletDecimal t_PatternBook_DecletDecimal t_PatternBook_DecletDecimal_ok n_PatternBook_DecletDecimal hown hK hP hD hS 0 rfl rfl 3 (by decide) (hts _ k_90) (fun _ h9 => h9) rfl hin rfl (by decide +kernel) rfl rfl (Nat.le_of_ble_eq_true rfl) d_PatternBook_Format_init_29 (fun H locs hP hD hS => ?_)
  have hP : va_P D classes [(f, .inr (4, [.int x, .int y, .int (((2:Int32) - z) - y), .int ((z + (1:Int32)) - y), .int a4, .int a5, .int a6, .null, .null, .int a7, .null]))] H := hP
  have hD : va_D A [(f, .inr (4, [.int x, .int y, .int (((2:Int32) - z) - y), .int ((z + (1:Int32)) - y), .int a4, .int a5, .int a6, .null, .null, .int a7, .null]))] := hD
  refine W.vret hx hb hr ?_ hS.2.2 d_PatternBook_Format_init_32
  exact uEnd (x, y, (((2:Int32) - z) - y), ((z + (1:Int32)) - y)) (hP.sub [0] rfl) (hK.sub [] rfl) (hD.sub [0] (by decide) rfl) hS rfl rfl
set_option maxHeartbeats 4000000 in
set_option maxRecDepth 100000 in
/-- PatternBook$Binary.<init>(III)V -/
theorem c_C_B_init (l : Launch) (D : va_G) (f : Nat) (sz : Nat) (x : Int32) (y : Int32) (z : Int32) (a0 : Int32) (a1 : Int32) (a2 : Int32) (a3 : Int32) (a4 : Int32) (a5 : Int32) (a6 : Int64) : Met l y_PatternBook_Binary_init (wsOf y_PatternBook_Binary_init b_PatternBook_Binary_init 4 none) ({ frames := 2, cells := 0, slots := 0, locals := 35 }) (uP D classes [(f, .inr (2, [.int a0, .int a1, .int a2, .int a3, .int a4, .int a5, .long a6]))] [] sz [.ref f, .int x, .int y, .int z]) (uQ D classes (fun _ : Int32 × Int32 × Int32 × Int32 × Int32 × Int32 × Int64 => none) (fun u => u = (sl m_C_B_init) x y z) (va_A [(f, .inr (2, [.int a0, .int a1, .int a2, .int a3, .int a4, .int a5, .long a6]))] sz) (fun _ => []) (fun u => [(f, .inr (2, [.int u.1, .int u.2.1, .int u.2.2.1, .int u.2.2.2.1, .int u.2.2.2.2.1, .int u.2.2.2.2.2.1, .long u.2.2.2.2.2.2]))])) 0 0 (va_A [(f, .inr (2, [.int a0, .int a1, .int a2, .int a3, .int a4, .int a5, .long a6]))] sz) := by
  rw [sl_eq m_C_B_init]
  refine uBegin (by decide +kernel) (Nat.le_of_ble_eq_true rfl) ?_
  intro p e s m below meth c A ls H locs hx hb hr hts hown hlocks hml hin hA hP hK hD hN hS hl
  have hl : lv_has ls 4 [(0, .ref f), (1, .int x), (2, .int y), (3, .int z)] := hl
  refine lv_aload_n hx hb d_PatternBook_Binary_init_0 rfl (lv_at hl 0 rfl) ?_
  refine lv_iload_n hx hb d_PatternBook_Binary_init_1 rfl (lv_at hl 1 rfl) ?_
  refine lv_iload_n hx hb d_PatternBook_Binary_init_2 rfl (lv_at hl 2 rfl) ?_
  refine lv_iload_n hx hb d_PatternBook_Binary_init_3 rfl (lv_at hl 3 rfl) ?_
  refine uCall (WR := []) (RT := []) (va_runI (As := [.int x, .int y, .int z]) (rest := []) ⟨hx, hb, hml, hown, hts⟩ (c_C_B_format l D f H.size x y z a0 a1 a2 a3 a4 a5 a6) ⟨uCB 3 hts k_429 k_111 k_430 (by decide +kernel) rfl rfl ⟨Nat.le_of_ble_eq_true rfl, Nat.le_of_ble_eq_true rfl⟩, rfl, hts _ k_431⟩ (uPreS hK hP hD hN [0] rfl (by decide) [] rfl) rfl rfl hl.1 rfl (lv_room (Nat.le_of_ble_eq_true rfl)) d_PatternBook_Binary_init_4 ⟨(Nat.le_of_ble_eq_true rfl), (Nat.le_of_ble_eq_true rfl)⟩) hK hP hD hS hA [0] [] rfl rfl (by decide) (by decide) [] rfl (fun u1 H locs hu1 hP hD hK hS => ?_)
  have hP : va_P D classes [(f, .inr (2, [.int u1.1, .int u1.2.1, .int u1.2.2.1, .int u1.2.2.2, .int a4, .int a5, .long a6]))] H := hP
  have hD : va_D A [(f, .inr (2, [.int u1.1, .int u1.2.1, .int u1.2.2.1, .int u1.2.2.2, .int a4, .int a5, .long a6]))] := hD
  have hK : va_K D classes [] s := hK
  refine W.eq (g2 := F0 m 7 ls []) rfl ?_
  refine lv_aload_n hx hb d_PatternBook_Binary_init_7 rfl (lv_at hl 0 rfl) ?_
  refine lv_iload_n hx hb d_PatternBook_Binary_init_8 rfl (lv_at hl 2 rfl) ?_
  refine lv_iconst (v := 1) hx hb d_PatternBook_Binary_init_9 (by decide) ?_
  refine lv_isub hx hb d_PatternBook_Binary_init_10 ?_
  refine va_putF (D := D) (ci := 2) (v := .int (y - (1:Int32))) (ty := .int) (C := R_PatternBook_Binary) (T := F_PatternBook_Binary) (N := 7) hx hb hts i_PatternBook_Binary t_PatternBook_Binary t_PatternBook_Binary_ok n_PatternBook_Binary hown hK hP hD hS 0 rfl rfl 4 (by decide) (hts _ k_44) (fun _ h9 => h9) rfl hin rfl (by decide +kernel) rfl rfl (Nat.le_of_ble_eq_true rfl) d_PatternBook_Binary_init_11 (fun H locs hP hD hS => ?_)
  have hP : va_P D classes [(f, .inr (2, [.int u1.1, .int u1.2.1, .int u1.2.2.1, .int u1.2.2.2, .int (y - (1:Int32)), .int a5, .long a6]))] H := hP
  have hD : va_D A [(f, .inr (2, [.int u1.1, .int u1.2.1, .int u1.2.2.1, .int u1.2.2.2, .int (y - (1:Int32)), .int a5, .long a6]))] := hD
  refine lv_aload_n hx hb d_PatternBook_Binary_init_14 rfl (lv_at hl 0 rfl) ?_
  refine lv_iload_n hx hb d_PatternBook_Binary_init_15 rfl (lv_at hl 1 rfl) ?_
  refine lv_iload_n hx hb d_PatternBook_Binary_init_16 rfl (lv_at hl 2 rfl) ?_
  refine lv_isub hx hb d_PatternBook_Binary_init_17 ?_
  refine va_putF (D := D) (ci := 2) (v := .int (x - y)) (ty := .int) (C := R_PatternBook_Binary) (T := F_PatternBook_Binary) (N := 7) hx hb hts i_PatternBook_Binary t_PatternBook_Binary t_PatternBook_Binary_ok n_PatternBook_Binary hown hK hP hD hS 0 rfl rfl 5 (by decide) (hts _ k_70) (fun _ h9 => h9) rfl hin rfl (by decide +kernel) rfl rfl (Nat.le_of_ble_eq_true rfl) d_PatternBook_Binary_init_18 (fun H locs hP hD hS => ?_)
  have hP : va_P D classes [(f, .inr (2, [.int u1.1, .int u1.2.1, .int u1.2.2.1, .int u1.2.2.2, .int (y - (1:Int32)), .int (x - y), .long a6]))] H := hP
  have hD : va_D A [(f, .inr (2, [.int u1.1, .int u1.2.1, .int u1.2.2.1, .int u1.2.2.2, .int (y - (1:Int32)), .int (x - y), .long a6]))] := hD
  refine lv_aload_n hx hb d_PatternBook_Binary_init_21 rfl (lv_at hl 0 rfl) ?_
  refine lv_aload_n hx hb d_PatternBook_Binary_init_22 rfl (lv_at hl 0 rfl) ?_
  refine va_get (D := D) (ci := 2) (v := .int (x - y)) (C := R_PatternBook_Binary) (T := F_PatternBook_Binary) (N := 7) hx hb hts i_PatternBook_Binary hown hK hP 0 rfl rfl 5 (by decide) (hts _ k_70) (fun _ h9 => h9) rfl d_PatternBook_Binary_init_23 ?_
  refine uCall (WR := [(f, .inr (2, [.int u1.1, .int u1.2.1, .int u1.2.2.1, .int u1.2.2.2, .int (y - (1:Int32)), .int (x - y), .long a6]))]) (RT := []) (va_runS (As := [.int (x - y)]) (rest := [.ref f]) ⟨hx, hb, hml, hown, hts⟩ (c_W_ones l D H.size (x - y)) ⟨uCB 1 hts k_19 k_12 k_432 (by decide +kernel) rfl rfl ⟨Nat.le_of_ble_eq_true rfl, Nat.le_of_ble_eq_true rfl⟩, hts _ k_21⟩ (uPreS hK hP hD hN [] rfl (by decide) [] rfl) rfl rfl hl.1 rfl (lv_room (Nat.le_of_ble_eq_true rfl)) d_PatternBook_Binary_init_26 ⟨(Nat.le_of_ble_eq_true rfl), (Nat.le_of_ble_eq_true rfl)⟩) hK hP hD hS hA [] [0] rfl rfl (by decide) (by decide) [] rfl (fun u2 H locs hu2 hP hD hK hS => ?_)
  have hP : va_P D classes [(f, .inr (2, [.int u1.1, .int u1.2.1, .int u1.2.2.1, .int u1.2.2.2, .int (y - (1:Int32)), .int (x - y), .long a6]))] H := hP
  have hD : va_D A [(f, .inr (2, [.int u1.1, .int u1.2.1, .int u1.2.2.1, .int u1.2.2.2, .int (y - (1:Int32)), .int (x - y), .long a6]))] := hD
  have hK : va_K D classes [] s := hK
  refine W.eq (g2 := F0 m 29 ls [.long u2, .ref f]) rfl ?_
  refine va_putF (D := D) (ci := 2) (v := .long u2) (ty := .long) (C := R_PatternBook_Binary) (T := F_PatternBook_Binary) (N := 7) hx hb hts i_PatternBook_Binary t_PatternBook_Binary t_PatternBook_Binary_ok n_PatternBook_Binary hown hK hP hD hS 0 rfl rfl 6 (by decide) (hts _ k_75) (fun _ h9 => h9) rfl hin rfl (by decide +kernel) rfl rfl (Nat.le_of_ble_eq_true rfl) d_PatternBook_Binary_init_29 (fun H locs hP hD hS => ?_)
  have hP : va_P D classes [(f, .inr (2, [.int u1.1, .int u1.2.1, .int u1.2.2.1, .int u1.2.2.2, .int (y - (1:Int32)), .int (x - y), .long u2]))] H := hP
  have hD : va_D A [(f, .inr (2, [.int u1.1, .int u1.2.1, .int u1.2.2.1, .int u1.2.2.2, .int (y - (1:Int32)), .int (x - y), .long u2]))] := hD
  refine W.vret hx hb hr ?_ hS.2.2 d_PatternBook_Binary_init_32
  exact uEnd (u1.1, u1.2.1, u1.2.2.1, u1.2.2.2, (y - (1:Int32)), (x - y), u2) (hP.sub [0] rfl) (hK.sub [] rfl) (hD.sub [0] (by decide) rfl) hS (by have eu1 := hu1.symm; subst eu1; have eu2 := hu2.symm; subst eu2; exact (rfl).symm) rfl
set_option maxHeartbeats 4000000 in
set_option maxRecDepth 100000 in
/-- the loop of PatternBook$Decimal.nines -/
theorem lp_C_nines (l : Launch) (D : va_G)  (q_1 : Nat) (x : Int32) {p : Program} {e : Env} {s : State} {m : MethodId} {below : List Frame} {meth : Method} {c : Code} {A : Nat → Prop} {args : Array Value} {F : Int64 × Int64} (hx : p.tables.exec = Jvm.exec) (hb : c.code = b_PatternBook_Decimal_nines) (hr : meth.sig.returnType = (some (.object "PatternBook$Wide"))) (hts : ∀ w ∈ wt, w.before args s = true) (hown : s.vm.findClass R_PatternBook_Decimal = some m.cls) (hlocks : meth.locks = false) (hml : c.maxLocals = 3) (hA : ∀ q : Nat, s.heap.size ≤ q → A q) (hN : uN s) : ∀ (n : Nat) (x2 : Int32) (y0_0 : Int64) (y0_1 : Int64) (H : Heap) (locs : List Loc) (ls : Array Slot), mlk_C_nines n x x2 → mlf_C_nines n x x2 y0_0 y0_1 = F → va_K D classes [] s → va_P D classes [(q_1, .inr (0, [.long y0_0, .long y0_1]))] H → va_D A [(q_1, .inr (0, [.long y0_0, .long y0_1]))] → va_S A s.heap H locs → lv_has ls 3 [(2, .int x2), (1, .ref q_1), (0, .int x)] → W p l e (headSpec (wsOf y_PatternBook_Decimal_nines b_PatternBook_Decimal_nines 3 (some (.object "PatternBook$Wide"))) ({ frames := 2, cells := 1, slots := 2, locals := 32 })).room s m args below meth c H locs (1) (2) (MQ below (uQ D classes (fun u : (Int64 × Int64) × Nat => some (.ref u.2)) (fun u => u.1 = F) A (fun _ => []) (fun u => [(u.2, .inr (0, [.long u.1.1, .long u.1.2]))])) args s 1 2 A) (F0 m 10 ls []) := by
  intro n
  induction n with
  | zero => intro x2 y0_0 y0_1 H locs ls hk; exact (show False from hk).elim
  | succ n ih =>
    intro x2 y0_0 y0_1 H locs ls hk hF hK hP hD hS hl
    unfold mlk_C_nines at hk
    refine lv_iload_n hx hb d_PatternBook_Decimal_nines_10 rfl (lv_at hl 0 rfl) ?_
    refine lv_iload_n hx hb d_PatternBook_Decimal_nines_11 rfl (lv_at hl 2 rfl) ?_
    refine lv_icmp_ge (tgt := 29) hx hb d_PatternBook_Decimal_nines_12 (by decide) (fun c_3 => ?_) (fun c_3 => ?_)
    · refine lv_aload_n hx hb d_PatternBook_Decimal_nines_29 rfl (lv_at hl 1 rfl) ?_
      refine W.aret hx hb hr (Or.inl ⟨_, rfl⟩) (Or.inr ⟨_, rfl⟩) ?_ hS.2.2 d_PatternBook_Decimal_nines_30
      exact uEnd ((y0_0, y0_1), q_1) (hP.sub [0] rfl) (hK.sub [] rfl) (hD.sub [0] (by decide) rfl) hS (by  exact (show mlf_C_nines (n + 1) x x2 y0_0 y0_1 = _ from (if_pos c_3).trans (rfl)).symm.trans hF) rfl
    · have hk := hk.2 c_3
      refine lv_aload_n hx hb d_PatternBook_Decimal_nines_15 rfl (lv_at hl 1 rfl) ?_
      refine lv_bipush (v := 10) hx hb d_PatternBook_Decimal_nines_16 (by decide) ?_
      refine lv_bipush (v := 9) hx hb d_PatternBook_Decimal_nines_18 (by decide) ?_
      refine uCall (WR := []) (RT := []) (va_runV (As := [.int (10:Int32), .int (9:Int32)]) (rest := []) ⟨hx, hb, hml, hown, hts⟩ (c_W_times l D q_1 H.size (10:Int32) (9:Int32) y0_0 y0_1) ⟨uCB 2 hts k_219 k_12 k_434 (by decide +kernel) rfl rfl ⟨Nat.le_of_ble_eq_true rfl, Nat.le_of_ble_eq_true rfl⟩, hts _ k_221, hts _ k_222⟩ (uPreV (ci := 0) (q0 := 0) hK hP hD hN [0] rfl (by decide) [] rfl rfl rfl) rfl rfl hl.1 rfl (lv_room (Nat.le_of_ble_eq_true rfl)) d_PatternBook_Decimal_nines_20 ⟨(Nat.le_of_ble_eq_true rfl), (Nat.le_of_ble_eq_true rfl)⟩) hK hP hD hS hA [0] [] rfl rfl (by decide) (by decide) [] rfl (fun u4 H locs hu4 hP hD hK hS => ?_)
      have hP : va_P D classes [(q_1, .inr (0, [.long u4.1, .long u4.2]))] H := hP
      have hD : va_D A [(q_1, .inr (0, [.long u4.1, .long u4.2]))] := hD
      have hK : va_K D classes [] s := hK
      refine W.eq (g2 := F0 m 23 ls []) rfl ?_
      refine lv_iinc (v := (x2 + (1:Int32))) (lv' := [(2, .int (x2 + (1:Int32))), (1, .ref q_1), (0, .int x)]) hx hb d_PatternBook_Decimal_nines_23 hl (k := 0) rfl rfl (by decide) rfl (fun ls hl => ?_)
      refine lv_goto (tgt := 10) hx hb d_PatternBook_Decimal_nines_26 (by decide) ?_
      exact ih (x2 + (1:Int32)) u4.1 u4.2 _ _ _ hk (by have eu4 := hu4.symm; subst eu4; exact (show mlf_C_nines (n + 1) x x2 y0_0 y0_1 = _ from (if_neg c_3).trans (rfl)).symm.trans hF) (hK.sub [] rfl) (hP.sub [0] rfl) (hD.sub [0] (by decide) rfl) hS (lv_sub hl [0, 1, 2] rfl)
set_option maxHeartbeats 4000000 in
set_option maxRecDepth 100000 in
/-- PatternBook$Decimal.nines(I)LPatternBook$Wide; -/
theorem c_C_nines (l : Launch) (D : va_G)  (sz : Nat) (x : Int32) (hk : mok_C_nines x) : Met l y_PatternBook_Decimal_nines (wsOf y_PatternBook_Decimal_nines b_PatternBook_Decimal_nines 3 (some (.object "PatternBook$Wide"))) ({ frames := 2, cells := 1, slots := 2, locals := 32 }) (uP D classes [] [] sz [.int x]) (uQ D classes (fun u : (Int64 × Int64) × Nat => some (.ref u.2)) (fun u => u.1 = (sl m_C_nines) x) (va_A [] sz) (fun _ => []) (fun u => [(u.2, .inr (0, [.long u.1.1, .long u.1.2]))])) 1 2 (va_A [] sz) := by
  rw [sl_eq m_C_nines]
  refine uBegin (by decide +kernel) (Nat.le_of_ble_eq_true rfl) ?_
  intro p e s m below meth c A ls H locs hx hb hr hts hown hlocks hml hin hA hP hK hD hN hS hl
  have hl : lv_has ls 3 [(0, .int x)] := hl
  unfold mok_C_nines at hk
  refine va_new (ci := 0) (fs := [.long 0, .long 0]) (C := R_PatternBook_Wide) (T := F_PatternBook_Wide) (N := 2) hx hb hts i_PatternBook_Wide t_PatternBook_Wide t_PatternBook_Wide_ok hown (hts _ k_433) (hts _ k_29) (hts _ k_12) hK hP hD hS hA rfl (fun j hj => by rcases (show j = 0 ∨ j = 1 by omega) with rfl | rfl <;> rfl) (Nat.le_of_ble_eq_true rfl) (Nat.le_of_ble_eq_true rfl) d_PatternBook_Decimal_nines_0 (fun q_1 H hP hD hS => ?_)
  have hP : va_P D classes [(q_1, .inr (0, [.long 0, .long 0]))] H := hP
  have hD : va_D A [(q_1, .inr (0, [.long 0, .long 0]))] := hD
  refine W.widen (k := 1) (n := 2) (Nat.le_of_ble_eq_true rfl) (Nat.le_of_ble_eq_true rfl) ?_
  refine lv_dup hx hb d_PatternBook_Decimal_nines_3 rfl ?_
  refine uCall (WR := []) (RT := []) (va_runIN (As := []) (rest := [.ref q_1]) ⟨hx, hb, hml, hown, hts⟩ (c_W_init l D q_1 H.size 0 0) ⟨uCN 0 hts hN k_30 k_12 kn_24 (by decide +kernel) rfl rfl ⟨Nat.le_of_ble_eq_true rfl, Nat.le_of_ble_eq_true rfl⟩, rfl, hts _ k_31⟩ (uPreS hK hP hD hN [0] rfl (by decide) [] rfl) rfl rfl hl.1 rfl (lv_room (Nat.le_of_ble_eq_true rfl)) d_PatternBook_Decimal_nines_4 ⟨(Nat.le_of_ble_eq_true rfl), (Nat.le_of_ble_eq_true rfl)⟩) hK hP hD hS hA [0] [] rfl rfl (by decide) (by decide) [] rfl (fun u2 H locs hu2 hP hD hK hS => ?_)
  have hP : va_P D classes [(q_1, .inr (0, [.long 0, .long 0]))] H := hP
  have hD : va_D A [(q_1, .inr (0, [.long 0, .long 0]))] := hD
  have hK : va_K D classes [] s := hK
  refine W.eq (g2 := F0 m 7 ls [.ref q_1]) rfl ?_
  refine lv_astore_n (lv' := [(1, .ref q_1), (0, .int x)]) hx hb d_PatternBook_Decimal_nines_7 rfl hl (by decide) rfl (fun ls hl => ?_)
  refine lv_iconst (v := 0) hx hb d_PatternBook_Decimal_nines_8 (by decide) ?_
  refine lv_istore_n (lv' := [(2, .int (0:Int32)), (1, .ref q_1), (0, .int x)]) hx hb d_PatternBook_Decimal_nines_9 rfl hl (by decide) rfl (fun ls hl => ?_)
  exact lp_C_nines l D q_1 x hx hb hr hts hown hlocks hml hA hN 200 (0:Int32) 0 0 _ _ _ hk (by  exact (rfl).symm) hK hP hD hS hl
set_option maxHeartbeats 4000000 in
set_option maxRecDepth 100000 in
/-- PatternBook$Decimal.<init>(III)V -/
theorem c_C_P_decimal (l : Launch) (D : va_G) (f : Nat) (sz : Nat) (x : Int32) (y : Int32) (z : Int32) (a0 : Int32) (a1 : Int32) (a2 : Int32) (a3 : Int32) (a4 : Int32) (a5 : Int32) (a6 : Int32) (hk : mok_C_P_decimal y) : Met l y_PatternBook_Decimal_init (wsOf y_PatternBook_Decimal_init b_PatternBook_Decimal_init 4 none) ({ frames := 3, cells := 2, slots := 4, locals := 54 }) (uP D classes [(f, .inr (3, [.int a0, .int a1, .int a2, .int a3, .int a4, .int a5, .int a6, .null, .null]))] [] sz [.ref f, .int x, .int y, .int z]) (uQ D classes (fun _ : (Int32 × Int32 × Int32 × Int32 × Int32 × Int32 × Int32 × Int64 × Int64 × Int64 × Int64) × Nat × Nat => none) (fun u => u.1 = (sl m_C_P_decimal) x y z) (va_A [(f, .inr (3, [.int a0, .int a1, .int a2, .int a3, .int a4, .int a5, .int a6, .null, .null]))] sz) (fun _ => []) (fun u => [(f, .inr (3, [.int u.1.1, .int u.1.2.1, .int u.1.2.2.1, .int u.1.2.2.2.1, .int u.1.2.2.2.2.1, .int u.1.2.2.2.2.2.1, .int u.1.2.2.2.2.2.2.1, .ref u.2.1, .ref u.2.2])), (u.2.1, .inr (0, [.long u.1.2.2.2.2.2.2.2.1, .long u.1.2.2.2.2.2.2.2.2.1])), (u.2.2, .inr (0, [.long u.1.2.2.2.2.2.2.2.2.2.1, .long u.1.2.2.2.2.2.2.2.2.2.2]))])) 2 4 (va_A [(f, .inr (3, [.int a0, .int a1, .int a2, .int a3, .int a4, .int a5, .int a6, .null, .null]))] sz) := by
  rw [sl_eq m_C_P_decimal]
  refine uBegin (by decide +kernel) (Nat.le_of_ble_eq_true rfl) ?_
  intro p e s m below meth c A ls H locs hx hb hr hts hown hlocks hml hin hA hP hK hD hN hS hl
  have hl : lv_has ls 4 [(0, .ref f), (1, .int x), (2, .int y), (3, .int z)] := hl
  unfold mok_C_P_decimal at hk
  refine lv_aload_n hx hb d_PatternBook_Decimal_init_0 rfl (lv_at hl 0 rfl) ?_
  refine lv_iload_n hx hb d_PatternBook_Decimal_init_1 rfl (lv_at hl 1 rfl) ?_
  refine lv_iload_n hx hb d_PatternBook_Decimal_init_2 rfl (lv_at hl 2 rfl) ?_
  refine lv_iload_n hx hb d_PatternBook_Decimal_init_3 rfl (lv_at hl 3 rfl) ?_
  refine uCall (WR := []) (RT := []) (va_runI (As := [.int x, .int y, .int z]) (rest := []) ⟨hx, hb, hml, hown, hts⟩ (c_C_P_format l D f H.size x y z a0 a1 a2 a3 a4 a5 a6) ⟨uCB 3 hts k_429 k_111 k_435 (by decide +kernel) rfl rfl ⟨Nat.le_of_ble_eq_true rfl, Nat.le_of_ble_eq_true rfl⟩, rfl, hts _ k_431⟩ (uPreS hK hP hD hN [0] rfl (by decide) [] rfl) rfl rfl hl.1 rfl (lv_room (Nat.le_of_ble_eq_true rfl)) d_PatternBook_Decimal_init_4 ⟨(Nat.le_of_ble_eq_true rfl), (Nat.le_of_ble_eq_true rfl)⟩) hK hP hD hS hA [0] [] rfl rfl (by decide) (by decide) [] rfl (fun u1 H locs hu1 hP hD hK hS => ?_)
  have hP : va_P D classes [(f, .inr (3, [.int u1.1, .int u1.2.1, .int u1.2.2.1, .int u1.2.2.2, .int a4, .int a5, .int a6, .null, .null]))] H := hP
  have hD : va_D A [(f, .inr (3, [.int u1.1, .int u1.2.1, .int u1.2.2.1, .int u1.2.2.2, .int a4, .int a5, .int a6, .null, .null]))] := hD
  have hK : va_K D classes [] s := hK
  refine W.eq (g2 := F0 m 7 ls []) rfl ?_
  refine lv_aload_n hx hb d_PatternBook_Decimal_init_7 rfl (lv_at hl 0 rfl) ?_
  refine lv_iload_n hx hb d_PatternBook_Decimal_init_8 rfl (lv_at hl 2 rfl) ?_
  refine lv_iconst (v := 1) hx hb d_PatternBook_Decimal_init_9 (by decide) ?_
  refine lv_isub hx hb d_PatternBook_Decimal_init_10 ?_
  refine lv_iconst (v := 3) hx hb d_PatternBook_Decimal_init_11 (by decide) ?_
  refine lv_idiv hx hb d_PatternBook_Decimal_init_12 (by decide) ?_
  refine va_putF (D := D) (ci := 3) (v := .int ((y - (1:Int32)) / (3:Int32))) (ty := .int) (C := R_PatternBook_PlainDecimal) (T := F_PatternBook_PlainDecimal) (N := 9) hx hb hts i_PatternBook_PlainDecimal t_PatternBook_PlainDecimal t_PatternBook_PlainDecimal_ok n_PatternBook_PlainDecimal hown hK hP hD hS 0 rfl rfl 4 (by decide) (hts _ k_436) (fun _ h9 => h9) rfl hin rfl (by decide +kernel) rfl rfl (Nat.le_of_ble_eq_true rfl) d_PatternBook_Decimal_init_13 (fun H locs hP hD hS => ?_)
  have hP : va_P D classes [(f, .inr (3, [.int u1.1, .int u1.2.1, .int u1.2.2.1, .int u1.2.2.2, .int ((y - (1:Int32)) / (3:Int32)), .int a5, .int a6, .null, .null]))] H := hP
  have hD : va_D A [(f, .inr (3, [.int u1.1, .int u1.2.1, .int u1.2.2.1, .int u1.2.2.2, .int ((y - (1:Int32)) / (3:Int32)), .int a5, .int a6, .null, .null]))] := hD
  refine lv_aload_n hx hb d_PatternBook_Decimal_init_16 rfl (lv_at hl 0 rfl) ?_
  refine lv_bipush (v := 10) hx hb d_PatternBook_Decimal_init_17 (by decide) ?_
  refine lv_aload_n hx hb d_PatternBook_Decimal_init_19 rfl (lv_at hl 0 rfl) ?_
  refine va_get (D := D) (ci := 3) (v := .int ((y - (1:Int32)) / (3:Int32))) (C := R_PatternBook_PlainDecimal) (T := F_PatternBook_PlainDecimal) (N := 9) hx hb hts i_PatternBook_PlainDecimal hown hK hP 0 rfl rfl 4 (by decide) (hts _ k_436) (fun _ h9 => h9) rfl d_PatternBook_Decimal_init_20 ?_
  refine lv_imul hx hb d_PatternBook_Decimal_init_23 ?_
  refine va_putF (D := D) (ci := 3) (v := .int ((10:Int32) * ((y - (1:Int32)) / (3:Int32)))) (ty := .int) (C := R_PatternBook_PlainDecimal) (T := F_PatternBook_PlainDecimal) (N := 9) hx hb hts i_PatternBook_PlainDecimal t_PatternBook_PlainDecimal t_PatternBook_PlainDecimal_ok n_PatternBook_PlainDecimal hown hK hP hD hS 0 rfl rfl 5 (by decide) (hts _ k_159) (fun _ h9 => h9) rfl hin rfl (by decide +kernel) rfl rfl (Nat.le_of_ble_eq_true rfl) d_PatternBook_Decimal_init_24 (fun H locs hP hD hS => ?_)
  have hP : va_P D classes [(f, .inr (3, [.int u1.1, .int u1.2.1, .int u1.2.2.1, .int u1.2.2.2, .int ((y - (1:Int32)) / (3:Int32)), .int ((10:Int32) * ((y - (1:Int32)) / (3:Int32))), .int a6, .null, .null]))] H := hP
  have hD : va_D A [(f, .inr (3, [.int u1.1, .int u1.2.1, .int u1.2.2.1, .int u1.2.2.2, .int ((y - (1:Int32)) / (3:Int32)), .int ((10:Int32) * ((y - (1:Int32)) / (3:Int32))), .int a6, .null, .null]))] := hD
  refine lv_aload_n hx hb d_PatternBook_Decimal_init_27 rfl (lv_at hl 0 rfl) ?_
  refine lv_iload_n hx hb d_PatternBook_Decimal_init_28 rfl (lv_at hl 1 rfl) ?_
  refine lv_bipush (v := 16) hx hb d_PatternBook_Decimal_init_29 (by decide) ?_
  refine lv_idiv hx hb d_PatternBook_Decimal_init_31 (by decide) ?_
  refine lv_bipush (v := 9) hx hb d_PatternBook_Decimal_init_32 (by decide) ?_
  refine lv_iadd hx hb d_PatternBook_Decimal_init_34 ?_
  refine va_putF (D := D) (ci := 3) (v := .int ((x / (16:Int32)) + (9:Int32))) (ty := .int) (C := R_PatternBook_PlainDecimal) (T := F_PatternBook_PlainDecimal) (N := 9) hx hb hts i_PatternBook_PlainDecimal t_PatternBook_PlainDecimal t_PatternBook_PlainDecimal_ok n_PatternBook_PlainDecimal hown hK hP hD hS 0 rfl rfl 6 (by decide) (hts _ k_121) (fun _ h9 => h9) rfl hin rfl (by decide +kernel) rfl rfl (Nat.le_of_ble_eq_true rfl) d_PatternBook_Decimal_init_35 (fun H locs hP hD hS => ?_)
  have hP : va_P D classes [(f, .inr (3, [.int u1.1, .int u1.2.1, .int u1.2.2.1, .int u1.2.2.2, .int ((y - (1:Int32)) / (3:Int32)), .int ((10:Int32) * ((y - (1:Int32)) / (3:Int32))), .int ((x / (16:Int32)) + (9:Int32)), .null, .null]))] H := hP
  have hD : va_D A [(f, .inr (3, [.int u1.1, .int u1.2.1, .int u1.2.2.1, .int u1.2.2.2, .int ((y - (1:Int32)) / (3:Int32)), .int ((10:Int32) * ((y - (1:Int32)) / (3:Int32))), .int ((x / (16:Int32)) + (9:Int32)), .null, .null]))] := hD
  refine lv_aload_n hx hb d_PatternBook_Decimal_init_38 rfl (lv_at hl 0 rfl) ?_
  refine lv_iload_n hx hb d_PatternBook_Decimal_init_39 rfl (lv_at hl 2 rfl) ?_
  have ho2 := hk.1
  have hk := hk.2
  refine uCall (WR := [(f, .inr (3, [.int u1.1, .int u1.2.1, .int u1.2.2.1, .int u1.2.2.2, .int ((y - (1:Int32)) / (3:Int32)), .int ((10:Int32) * ((y - (1:Int32)) / (3:Int32))), .int ((x / (16:Int32)) + (9:Int32)), .null, .null]))]) (RT := []) (va_runS (As := [.int y]) (rest := [.ref f]) ⟨hx, hb, hml, hown, hts⟩ (c_C_nines l D H.size y ho2) ⟨uCB 1 hts k_437 k_124 k_438 (by decide +kernel) rfl rfl ⟨Nat.le_of_ble_eq_true rfl, Nat.le_of_ble_eq_true rfl⟩, hts _ k_439⟩ (uPreS hK hP hD hN [] rfl (by decide) [] rfl) rfl rfl hl.1 rfl (lv_room (Nat.le_of_ble_eq_true rfl)) d_PatternBook_Decimal_init_40 ⟨(Nat.le_of_ble_eq_true rfl), (Nat.le_of_ble_eq_true rfl)⟩) hK hP hD hS hA [] [0] rfl rfl (by decide) (by decide) [] rfl (fun u2 H locs hu2 hP hD hK hS => ?_)
  obtain ⟨v3, q_4⟩ := u2
  have hv3 : v3 = ((sl m_C_nines) y) := hu2
  have hP : va_P D classes [(f, .inr (3, [.int u1.1, .int u1.2.1, .int u1.2.2.1, .int u1.2.2.2, .int ((y - (1:Int32)) / (3:Int32)), .int ((10:Int32) * ((y - (1:Int32)) / (3:Int32))), .int ((x / (16:Int32)) + (9:Int32)), .null, .null])), (q_4, .inr (0, [.long v3.1, .long v3.2]))] H := hP
  have hD : va_D A [(f, .inr (3, [.int u1.1, .int u1.2.1, .int u1.2.2.1, .int u1.2.2.2, .int ((y - (1:Int32)) / (3:Int32)), .int ((10:Int32) * ((y - (1:Int32)) / (3:Int32))), .int ((x / (16:Int32)) + (9:Int32)), .null, .null])), (q_4, .inr (0, [.long v3.1, .long v3.2]))] := hD
  have hK : va_K D classes [] s := hK
  refine W.eq (g2 := F0 m 43 ls [.ref q_4, .ref f]) rfl ?_
  refine W.widen (k := 1) (n := 2) (Nat.le_of_ble_eq_true rfl) (Nat.le_of_ble_eq_true rfl) ?_
  refine va_putF (D := D) (ci := 3) (v := .ref q_4) (ty := .object "PatternBook$Wide") (C := R_PatternBook_PlainDecimal) (T := F_PatternBook_PlainDecimal) (N := 9) hx hb hts i_PatternBook_PlainDecimal t_PatternBook_PlainDecimal t_PatternBook_PlainDecimal_ok n_PatternBook_PlainDecimal hown hK hP hD hS 0 rfl rfl 7 (by decide) (hts _ k_134) (fun _ h9 => h9) rfl hin rfl (by decide +kernel) rfl rfl (Nat.le_of_ble_eq_true rfl) d_PatternBook_Decimal_init_43 (fun H locs hP hD hS => ?_)
  have hP : va_P D classes [(f, .inr (3, [.int u1.1, .int u1.2.1, .int u1.2.2.1, .int u1.2.2.2, .int ((y - (1:Int32)) / (3:Int32)), .int ((10:Int32) * ((y - (1:Int32)) / (3:Int32))), .int ((x / (16:Int32)) + (9:Int32)), .ref q_4, .null])), (q_4, .inr (0, [.long v3.1, .long v3.2]))] H := hP
  have hD : va_D A [(f, .inr (3, [.int u1.1, .int u1.2.1, .int u1.2.2.1, .int u1.2.2.2, .int ((y - (1:Int32)) / (3:Int32)), .int ((10:Int32) * ((y - (1:Int32)) / (3:Int32))), .int ((x / (16:Int32)) + (9:Int32)), .ref q_4, .null])), (q_4, .inr (0, [.long v3.1, .long v3.2]))] := hD
  refine lv_aload_n hx hb d_PatternBook_Decimal_init_46 rfl (lv_at hl 0 rfl) ?_
  refine lv_iload_n hx hb d_PatternBook_Decimal_init_47 rfl (lv_at hl 2 rfl) ?_
  refine lv_iconst (v := 1) hx hb d_PatternBook_Decimal_init_48 (by decide) ?_
  refine lv_isub hx hb d_PatternBook_Decimal_init_49 ?_
  have ho3 := hk
  refine uCall (WR := [(f, .inr (3, [.int u1.1, .int u1.2.1, .int u1.2.2.1, .int u1.2.2.2, .int ((y - (1:Int32)) / (3:Int32)), .int ((10:Int32) * ((y - (1:Int32)) / (3:Int32))), .int ((x / (16:Int32)) + (9:Int32)), .ref q_4, .null])), (q_4, .inr (0, [.long v3.1, .long v3.2]))]) (RT := []) (va_runS (As := [.int (y - (1:Int32))]) (rest := [.ref f]) ⟨hx, hb, hml, hown, hts⟩ (c_C_nines l D H.size (y - (1:Int32)) ho3) ⟨uCB 1 hts k_437 k_124 k_438 (by decide +kernel) rfl rfl ⟨Nat.le_of_ble_eq_true rfl, Nat.le_of_ble_eq_true rfl⟩, hts _ k_439⟩ (uPreS hK hP hD hN [] rfl (by decide) [] rfl) rfl rfl hl.1 rfl (lv_room (Nat.le_of_ble_eq_true rfl)) d_PatternBook_Decimal_init_50 ⟨(Nat.le_of_ble_eq_true rfl), (Nat.le_of_ble_eq_true rfl)⟩) hK hP hD hS hA [] [0, 1] rfl rfl (by decide) (by decide) [] rfl (fun u5 H locs hu5 hP hD hK hS => ?_)
  obtain ⟨v6, q_7⟩ := u5
  have hv6 : v6 = ((sl m_C_nines) (y - (1:Int32))) := hu5
  have hP : va_P D classes [(f, .inr (3, [.int u1.1, .int u1.2.1, .int u1.2.2.1, .int u1.2.2.2, .int ((y - (1:Int32)) / (3:Int32)), .int ((10:Int32) * ((y - (1:Int32)) / (3:Int32))), .int ((x / (16:Int32)) + (9:Int32)), .ref q_4, .null])), (q_4, .inr (0, [.long v3.1, .long v3.2])), (q_7, .inr (0, [.long v6.1, .long v6.2]))] H := hP
  have hD : va_D A [(f, .inr (3, [.int u1.1, .int u1.2.1, .int u1.2.2.1, .int u1.2.2.2, .int ((y - (1:Int32)) / (3:Int32)), .int ((10:Int32) * ((y - (1:Int32)) / (3:Int32))), .int ((x / (16:Int32)) + (9:Int32)), .ref q_4, .null])), (q_4, .inr (0, [.long v3.1, .long v3.2])), (q_7, .inr (0, [.long v6.1, .long v6.2]))] := hD
  have hK : va_K D classes [] s := hK
  refine W.eq (g2 := F0 m 53 ls [.ref q_7, .ref f]) rfl ?_
  refine W.widen (k := 2) (n := 4) (Nat.le_of_ble_eq_true rfl) (Nat.le_of_ble_eq_true rfl) ?_
  refine va_putF (D := D) (ci := 3) (v := .ref q_7) (ty := .object "PatternBook$Wide") (C := R_PatternBook_PlainDecimal) (T := F_PatternBook_PlainDecimal) (N := 9) hx hb hts i_PatternBook_PlainDecimal t_PatternBook_PlainDecimal t_PatternBook_PlainDecimal_ok n_PatternBook_PlainDecimal hown hK hP hD hS 0 rfl rfl 8 (by decide) (hts _ k_139) (fun _ h9 => h9) rfl hin rfl (by decide +kernel) rfl rfl (Nat.le_of_ble_eq_true rfl) d_PatternBook_Decimal_init_53 (fun H locs hP hD hS => ?_)
  have hP : va_P D classes [(f, .inr (3, [.int u1.1, .int u1.2.1, .int u1.2.2.1, .int u1.2.2.2, .int ((y - (1:Int32)) / (3:Int32)), .int ((10:Int32) * ((y - (1:Int32)) / (3:Int32))), .int ((x / (16:Int32)) + (9:Int32)), .ref q_4, .ref q_7])), (q_4, .inr (0, [.long v3.1, .long v3.2])), (q_7, .inr (0, [.long v6.1, .long v6.2]))] H := hP
  have hD : va_D A [(f, .inr (3, [.int u1.1, .int u1.2.1, .int u1.2.2.1, .int u1.2.2.2, .int ((y - (1:Int32)) / (3:Int32)), .int ((10:Int32) * ((y - (1:Int32)) / (3:Int32))), .int ((x / (16:Int32)) + (9:Int32)), .ref q_4, .ref q_7])), (q_4, .inr (0, [.long v3.1, .long v3.2])), (q_7, .inr (0, [.long v6.1, .long v6.2]))] := hD
  refine W.vret hx hb hr ?_ hS.2.2 d_PatternBook_Decimal_init_56
  exact uEnd ((u1.1, u1.2.1, u1.2.2.1, u1.2.2.2, ((y - (1:Int32)) / (3:Int32)), ((10:Int32) * ((y - (1:Int32)) / (3:Int32))), ((x / (16:Int32)) + (9:Int32)), v3.1, v3.2, v6.1, v6.2), q_4, q_7) (hP.sub [0, 1, 2] rfl) (hK.sub [] rfl) (hD.sub [0, 1, 2] (by decide) rfl) hS (by have eu1 := hu1.symm; subst eu1; have ev3 := hv3.symm; subst ev3; have ev6 := hv6.symm; subst ev6; exact (rfl).symm) rfl
set_option maxHeartbeats 4000000 in
set_option maxRecDepth 100000 in
/-- PatternBook$PlainDecimal.<init>(III)V -/
theorem c_C_P_init (l : Launch) (D : va_G) (f : Nat) (sz : Nat) (x : Int32) (y : Int32) (z : Int32) (a0 : Int32) (a1 : Int32) (a2 : Int32) (a3 : Int32) (a4 : Int32) (a5 : Int32) (a6 : Int32) (hk : mok_C_P_init y) : Met l y_PatternBook_PlainDecimal_init (wsOf y_PatternBook_PlainDecimal_init b_PatternBook_PlainDecimal_init 4 none) ({ frames := 4, cells := 2, slots := 4, locals := 77 }) (uP D classes [(f, .inr (3, [.int a0, .int a1, .int a2, .int a3, .int a4, .int a5, .int a6, .null, .null]))] [] sz [.ref f, .int x, .int y, .int z]) (uQ D classes (fun _ : (Int32 × Int32 × Int32 × Int32 × Int32 × Int32 × Int32 × Int64 × Int64 × Int64 × Int64) × Nat × Nat => none) (fun u => u.1 = (sl m_C_P_init) x y z) (va_A [(f, .inr (3, [.int a0, .int a1, .int a2, .int a3, .int a4, .int a5, .int a6, .null, .null]))] sz) (fun _ => []) (fun u => [(f, .inr (3, [.int u.1.1, .int u.1.2.1, .int u.1.2.2.1, .int u.1.2.2.2.1, .int u.1.2.2.2.2.1, .int u.1.2.2.2.2.2.1, .int u.1.2.2.2.2.2.2.1, .ref u.2.1, .ref u.2.2])), (u.2.1, .inr (0, [.long u.1.2.2.2.2.2.2.2.1, .long u.1.2.2.2.2.2.2.2.2.1])), (u.2.2, .inr (0, [.long u.1.2.2.2.2.2.2.2.2.2.1, .long u.1.2.2.2.2.2.2.2.2.2.2]))])) 2 4 (va_A [(f, .inr (3, [.int a0, .int a1, .int a2, .int a3, .int a4, .int a5, .int a6, .null, .null]))] sz) := by
  rw [sl_eq m_C_P_init]
  refine uBegin (by decide +kernel) (Nat.le_of_ble_eq_true rfl) ?_
  intro p e s m below meth c A ls H locs hx hb hr hts hown hlocks hml hin hA hP hK hD hN hS hl
  have hl : lv_has ls 4 [(0, .ref f), (1, .int x), (2, .int y), (3, .int z)] := hl
  unfold mok_C_P_init at hk
  refine lv_aload_n hx hb d_PatternBook_PlainDecimal_init_0 rfl (lv_at hl 0 rfl) ?_
  refine lv_iload_n hx hb d_PatternBook_PlainDecimal_init_1 rfl (lv_at hl 1 rfl) ?_
  refine lv_iload_n hx hb d_PatternBook_PlainDecimal_init_2 rfl (lv_at hl 2 rfl) ?_
  refine lv_iload_n hx hb d_PatternBook_PlainDecimal_init_3 rfl (lv_at hl 3 rfl) ?_
  have ho1 := hk
  refine uCall (WR := []) (RT := []) (va_runI (As := [.int x, .int y, .int z]) (rest := []) ⟨hx, hb, hml, hown, hts⟩ (c_C_P_decimal l D f H.size x y z a0 a1 a2 a3 a4 a5 a6 ho1) ⟨uCB 3 hts k_440 k_124 k_441 (by decide +kernel) rfl rfl ⟨Nat.le_of_ble_eq_true rfl, Nat.le_of_ble_eq_true rfl⟩, rfl, hts _ k_442⟩ (uPreS hK hP hD hN [0] rfl (by decide) [] rfl) rfl rfl hl.1 rfl (lv_room (Nat.le_of_ble_eq_true rfl)) d_PatternBook_PlainDecimal_init_4 ⟨(Nat.le_of_ble_eq_true rfl), (Nat.le_of_ble_eq_true rfl)⟩) hK hP hD hS hA [0] [] rfl rfl (by decide) (by decide) [] rfl (fun u1 H locs hu1 hP hD hK hS => ?_)
  obtain ⟨v2, q_3, q_4⟩ := u1
  have hv2 : v2 = ((sl m_C_P_decimal) x y z) := hu1
  have hP : va_P D classes [(f, .inr (3, [.int v2.1, .int v2.2.1, .int v2.2.2.1, .int v2.2.2.2.1, .int v2.2.2.2.2.1, .int v2.2.2.2.2.2.1, .int v2.2.2.2.2.2.2.1, .ref q_3, .ref q_4])), (q_3, .inr (0, [.long v2.2.2.2.2.2.2.2.1, .long v2.2.2.2.2.2.2.2.2.1])), (q_4, .inr (0, [.long v2.2.2.2.2.2.2.2.2.2.1, .long v2.2.2.2.2.2.2.2.2.2.2]))] H := hP
  have hD : va_D A [(f, .inr (3, [.int v2.1, .int v2.2.1, .int v2.2.2.1, .int v2.2.2.2.1, .int v2.2.2.2.2.1, .int v2.2.2.2.2.2.1, .int v2.2.2.2.2.2.2.1, .ref q_3, .ref q_4])), (q_3, .inr (0, [.long v2.2.2.2.2.2.2.2.1, .long v2.2.2.2.2.2.2.2.2.1])), (q_4, .inr (0, [.long v2.2.2.2.2.2.2.2.2.2.1, .long v2.2.2.2.2.2.2.2.2.2.2]))] := hD
  have hK : va_K D classes [] s := hK
  refine W.eq (g2 := F0 m 7 ls []) rfl ?_
  refine W.widen (k := 2) (n := 4) (Nat.le_of_ble_eq_true rfl) (Nat.le_of_ble_eq_true rfl) ?_
  refine W.vret hx hb hr ?_ hS.2.2 d_PatternBook_PlainDecimal_init_7
  exact uEnd ((v2.1, v2.2.1, v2.2.2.1, v2.2.2.2.1, v2.2.2.2.2.1, v2.2.2.2.2.2.1, v2.2.2.2.2.2.2.1, v2.2.2.2.2.2.2.2.1, v2.2.2.2.2.2.2.2.2.1, v2.2.2.2.2.2.2.2.2.2.1, v2.2.2.2.2.2.2.2.2.2.2), q_3, q_4) (hP.sub [0, 1, 2] rfl) (hK.sub [] rfl) (hD.sub [0, 1, 2] (by decide) rfl) hS (by have ev2 := hv2.symm; subst ev2; exact (rfl).symm) rfl
set_option maxHeartbeats 4000000 in
set_option maxRecDepth 100000 in
/-- PatternBook$Decimal.<init>(III)V -/
theorem c_C_T_decimal (l : Launch) (D : va_G) (f : Nat) (sz : Nat) (x : Int32) (y : Int32) (z : Int32) (a0 : Int32) (a1 : Int32) (a2 : Int32) (a3 : Int32) (a4 : Int32) (a5 : Int32) (a6 : Int32) (a7 : Int32) (hk : mok_C_T_decimal y) : Met l y_PatternBook_Decimal_init (wsOf y_PatternBook_Decimal_init b_PatternBook_Decimal_init 4 none) ({ frames := 3, cells := 2, slots := 4, locals := 54 }) (uP D classes [(f, .inr (4, [.int a0, .int a1, .int a2, .int a3, .int a4, .int a5, .int a6, .null, .null, .int a7, .null]))] [] sz [.ref f, .int x, .int y, .int z]) (uQ D classes (fun _ : (Int32 × Int32 × Int32 × Int32 × Int32 × Int32 × Int32 × Int64 × Int64 × Int64 × Int64) × Nat × Nat => none) (fun u => u.1 = (sl m_C_T_decimal) x y z) (va_A [(f, .inr (4, [.int a0, .int a1, .int a2, .int a3, .int a4, .int a5, .int a6, .null, .null, .int a7, .null]))] sz) (fun _ => []) (fun u => [(f, .inr (4, [.int u.1.1, .int u.1.2.1, .int u.1.2.2.1, .int u.1.2.2.2.1, .int u.1.2.2.2.2.1, .int u.1.2.2.2.2.2.1, .int u.1.2.2.2.2.2.2.1, .ref u.2.1, .ref u.2.2, .int a7, .null])), (u.2.1, .inr (0, [.long u.1.2.2.2.2.2.2.2.1, .long u.1.2.2.2.2.2.2.2.2.1])), (u.2.2, .inr (0, [.long u.1.2.2.2.2.2.2.2.2.2.1, .long u.1.2.2.2.2.2.2.2.2.2.2]))])) 2 4 (va_A [(f, .inr (4, [.int a0, .int a1, .int a2, .int a3, .int a4, .int a5, .int a6, .null, .null, .int a7, .null]))] sz) := by
  rw [sl_eq m_C_T_decimal]
  refine uBegin (by decide +kernel) (Nat.le_of_ble_eq_true rfl) ?_
  intro p e s m below meth c A ls H locs hx hb hr hts hown hlocks hml hin hA hP hK hD hN hS hl
  have hl : lv_has ls 4 [(0, .ref f), (1, .int x), (2, .int y), (3, .int z)] := hl
  unfold mok_C_T_decimal at hk
  refine lv_aload_n hx hb d_PatternBook_Decimal_init_0 rfl (lv_at hl 0 rfl) ?_
  refine lv_iload_n hx hb d_PatternBook_Decimal_init_1 rfl (lv_at hl 1 rfl) ?_
  refine lv_iload_n hx hb d_PatternBook_Decimal_init_2 rfl (lv_at hl 2 rfl) ?_
  refine lv_iload_n hx hb d_PatternBook_Decimal_init_3 rfl (lv_at hl 3 rfl) ?_
  refine uCall (WR := []) (RT := []) (va_runI (As := [.int x, .int y, .int z]) (rest := []) ⟨hx, hb, hml, hown, hts⟩ (c_C_T_format l D f H.size x y z a0 a1 a2 a3 a4 a5 a6 a7) ⟨uCB 3 hts k_429 k_111 k_435 (by decide +kernel) rfl rfl ⟨Nat.le_of_ble_eq_true rfl, Nat.le_of_ble_eq_true rfl⟩, rfl, hts _ k_431⟩ (uPreS hK hP hD hN [0] rfl (by decide) [] rfl) rfl rfl hl.1 rfl (lv_room (Nat.le_of_ble_eq_true rfl)) d_PatternBook_Decimal_init_4 ⟨(Nat.le_of_ble_eq_true rfl), (Nat.le_of_ble_eq_true rfl)⟩) hK hP hD hS hA [0] [] rfl rfl (by decide) (by decide) [] rfl (fun u1 H locs hu1 hP hD hK hS => ?_)
  have hP : va_P D classes [(f, .inr (4, [.int u1.1, .int u1.2.1, .int u1.2.2.1, .int u1.2.2.2, .int a4, .int a5, .int a6, .null, .null, .int a7, .null]))] H := hP
  have hD : va_D A [(f, .inr (4, [.int u1.1, .int u1.2.1, .int u1.2.2.1, .int u1.2.2.2, .int a4, .int a5, .int a6, .null, .null, .int a7, .null]))] := hD
  have hK : va_K D classes [] s := hK
  refine W.eq (g2 := F0 m 7 ls []) rfl ?_
  refine lv_aload_n hx hb d_PatternBook_Decimal_init_7 rfl (lv_at hl 0 rfl) ?_
  refine lv_iload_n hx hb d_PatternBook_Decimal_init_8 rfl (lv_at hl 2 rfl) ?_
  refine lv_iconst (v := 1) hx hb d_PatternBook_Decimal_init_9 (by decide) ?_
  refine lv_isub hx hb d_PatternBook_Decimal_init_10 ?_
  refine lv_iconst (v := 3) hx hb d_PatternBook_Decimal_init_11 (by decide) ?_
  refine lv_idiv hx hb d_PatternBook_Decimal_init_12 (by decide) ?_
  refine va_putF (D := D) (ci := 4) (v := .int ((y - (1:Int32)) / (3:Int32))) (ty := .int) (C := R_PatternBook_DecletDecimal) (T := F_PatternBook_DecletDecimal) (N := 11) hx hb hts i_PatternBook_DecletDecimal t_PatternBook_DecletDecimal t_PatternBook_DecletDecimal_ok n_PatternBook_DecletDecimal hown hK hP hD hS 0 rfl rfl 4 (by decide) (hts _ k_436) (fun _ h9 => h9) rfl hin rfl (by decide +kernel) rfl rfl (Nat.le_of_ble_eq_true rfl) d_PatternBook_Decimal_init_13 (fun H locs hP hD hS => ?_)
  have hP : va_P D classes [(f, .inr (4, [.int u1.1, .int u1.2.1, .int u1.2.2.1, .int u1.2.2.2, .int ((y - (1:Int32)) / (3:Int32)), .int a5, .int a6, .null, .null, .int a7, .null]))] H := hP
  have hD : va_D A [(f, .inr (4, [.int u1.1, .int u1.2.1, .int u1.2.2.1, .int u1.2.2.2, .int ((y - (1:Int32)) / (3:Int32)), .int a5, .int a6, .null, .null, .int a7, .null]))] := hD
  refine lv_aload_n hx hb d_PatternBook_Decimal_init_16 rfl (lv_at hl 0 rfl) ?_
  refine lv_bipush (v := 10) hx hb d_PatternBook_Decimal_init_17 (by decide) ?_
  refine lv_aload_n hx hb d_PatternBook_Decimal_init_19 rfl (lv_at hl 0 rfl) ?_
  refine va_get (D := D) (ci := 4) (v := .int ((y - (1:Int32)) / (3:Int32))) (C := R_PatternBook_DecletDecimal) (T := F_PatternBook_DecletDecimal) (N := 11) hx hb hts i_PatternBook_DecletDecimal hown hK hP 0 rfl rfl 4 (by decide) (hts _ k_436) (fun _ h9 => h9) rfl d_PatternBook_Decimal_init_20 ?_
  refine lv_imul hx hb d_PatternBook_Decimal_init_23 ?_
  refine va_putF (D := D) (ci := 4) (v := .int ((10:Int32) * ((y - (1:Int32)) / (3:Int32)))) (ty := .int) (C := R_PatternBook_DecletDecimal) (T := F_PatternBook_DecletDecimal) (N := 11) hx hb hts i_PatternBook_DecletDecimal t_PatternBook_DecletDecimal t_PatternBook_DecletDecimal_ok n_PatternBook_DecletDecimal hown hK hP hD hS 0 rfl rfl 5 (by decide) (hts _ k_159) (fun _ h9 => h9) rfl hin rfl (by decide +kernel) rfl rfl (Nat.le_of_ble_eq_true rfl) d_PatternBook_Decimal_init_24 (fun H locs hP hD hS => ?_)
  have hP : va_P D classes [(f, .inr (4, [.int u1.1, .int u1.2.1, .int u1.2.2.1, .int u1.2.2.2, .int ((y - (1:Int32)) / (3:Int32)), .int ((10:Int32) * ((y - (1:Int32)) / (3:Int32))), .int a6, .null, .null, .int a7, .null]))] H := hP
  have hD : va_D A [(f, .inr (4, [.int u1.1, .int u1.2.1, .int u1.2.2.1, .int u1.2.2.2, .int ((y - (1:Int32)) / (3:Int32)), .int ((10:Int32) * ((y - (1:Int32)) / (3:Int32))), .int a6, .null, .null, .int a7, .null]))] := hD
  refine lv_aload_n hx hb d_PatternBook_Decimal_init_27 rfl (lv_at hl 0 rfl) ?_
  refine lv_iload_n hx hb d_PatternBook_Decimal_init_28 rfl (lv_at hl 1 rfl) ?_
  refine lv_bipush (v := 16) hx hb d_PatternBook_Decimal_init_29 (by decide) ?_
  refine lv_idiv hx hb d_PatternBook_Decimal_init_31 (by decide) ?_
  refine lv_bipush (v := 9) hx hb d_PatternBook_Decimal_init_32 (by decide) ?_
  refine lv_iadd hx hb d_PatternBook_Decimal_init_34 ?_
  refine va_putF (D := D) (ci := 4) (v := .int ((x / (16:Int32)) + (9:Int32))) (ty := .int) (C := R_PatternBook_DecletDecimal) (T := F_PatternBook_DecletDecimal) (N := 11) hx hb hts i_PatternBook_DecletDecimal t_PatternBook_DecletDecimal t_PatternBook_DecletDecimal_ok n_PatternBook_DecletDecimal hown hK hP hD hS 0 rfl rfl 6 (by decide) (hts _ k_121) (fun _ h9 => h9) rfl hin rfl (by decide +kernel) rfl rfl (Nat.le_of_ble_eq_true rfl) d_PatternBook_Decimal_init_35 (fun H locs hP hD hS => ?_)
  have hP : va_P D classes [(f, .inr (4, [.int u1.1, .int u1.2.1, .int u1.2.2.1, .int u1.2.2.2, .int ((y - (1:Int32)) / (3:Int32)), .int ((10:Int32) * ((y - (1:Int32)) / (3:Int32))), .int ((x / (16:Int32)) + (9:Int32)), .null, .null, .int a7, .null]))] H := hP
  have hD : va_D A [(f, .inr (4, [.int u1.1, .int u1.2.1, .int u1.2.2.1, .int u1.2.2.2, .int ((y - (1:Int32)) / (3:Int32)), .int ((10:Int32) * ((y - (1:Int32)) / (3:Int32))), .int ((x / (16:Int32)) + (9:Int32)), .null, .null, .int a7, .null]))] := hD
  refine lv_aload_n hx hb d_PatternBook_Decimal_init_38 rfl (lv_at hl 0 rfl) ?_
  refine lv_iload_n hx hb d_PatternBook_Decimal_init_39 rfl (lv_at hl 2 rfl) ?_
  have ho2 := hk.1
  have hk := hk.2
  refine uCall (WR := [(f, .inr (4, [.int u1.1, .int u1.2.1, .int u1.2.2.1, .int u1.2.2.2, .int ((y - (1:Int32)) / (3:Int32)), .int ((10:Int32) * ((y - (1:Int32)) / (3:Int32))), .int ((x / (16:Int32)) + (9:Int32)), .null, .null, .int a7, .null]))]) (RT := []) (va_runS (As := [.int y]) (rest := [.ref f]) ⟨hx, hb, hml, hown, hts⟩ (c_C_nines l D H.size y ho2) ⟨uCB 1 hts k_437 k_124 k_438 (by decide +kernel) rfl rfl ⟨Nat.le_of_ble_eq_true rfl, Nat.le_of_ble_eq_true rfl⟩, hts _ k_439⟩ (uPreS hK hP hD hN [] rfl (by decide) [] rfl) rfl rfl hl.1 rfl (lv_room (Nat.le_of_ble_eq_true rfl)) d_PatternBook_Decimal_init_40 ⟨(Nat.le_of_ble_eq_true rfl), (Nat.le_of_ble_eq_true rfl)⟩) hK hP hD hS hA [] [0] rfl rfl (by decide) (by decide) [] rfl (fun u2 H locs hu2 hP hD hK hS => ?_)
  obtain ⟨v3, q_4⟩ := u2
  have hv3 : v3 = ((sl m_C_nines) y) := hu2
  have hP : va_P D classes [(f, .inr (4, [.int u1.1, .int u1.2.1, .int u1.2.2.1, .int u1.2.2.2, .int ((y - (1:Int32)) / (3:Int32)), .int ((10:Int32) * ((y - (1:Int32)) / (3:Int32))), .int ((x / (16:Int32)) + (9:Int32)), .null, .null, .int a7, .null])), (q_4, .inr (0, [.long v3.1, .long v3.2]))] H := hP
  have hD : va_D A [(f, .inr (4, [.int u1.1, .int u1.2.1, .int u1.2.2.1, .int u1.2.2.2, .int ((y - (1:Int32)) / (3:Int32)), .int ((10:Int32) * ((y - (1:Int32)) / (3:Int32))), .int ((x / (16:Int32)) + (9:Int32)), .null, .null, .int a7, .null])), (q_4, .inr (0, [.long v3.1, .long v3.2]))] := hD
  have hK : va_K D classes [] s := hK
  refine W.eq (g2 := F0 m 43 ls [.ref q_4, .ref f]) rfl ?_
  refine W.widen (k := 1) (n := 2) (Nat.le_of_ble_eq_true rfl) (Nat.le_of_ble_eq_true rfl) ?_
  refine va_putF (D := D) (ci := 4) (v := .ref q_4) (ty := .object "PatternBook$Wide") (C := R_PatternBook_DecletDecimal) (T := F_PatternBook_DecletDecimal) (N := 11) hx hb hts i_PatternBook_DecletDecimal t_PatternBook_DecletDecimal t_PatternBook_DecletDecimal_ok n_PatternBook_DecletDecimal hown hK hP hD hS 0 rfl rfl 7 (by decide) (hts _ k_134) (fun _ h9 => h9) rfl hin rfl (by decide +kernel) rfl rfl (Nat.le_of_ble_eq_true rfl) d_PatternBook_Decimal_init_43 (fun H locs hP hD hS => ?_)
  have hP : va_P D classes [(f, .inr (4, [.int u1.1, .int u1.2.1, .int u1.2.2.1, .int u1.2.2.2, .int ((y - (1:Int32)) / (3:Int32)), .int ((10:Int32) * ((y - (1:Int32)) / (3:Int32))), .int ((x / (16:Int32)) + (9:Int32)), .ref q_4, .null, .int a7, .null])), (q_4, .inr (0, [.long v3.1, .long v3.2]))] H := hP
  have hD : va_D A [(f, .inr (4, [.int u1.1, .int u1.2.1, .int u1.2.2.1, .int u1.2.2.2, .int ((y - (1:Int32)) / (3:Int32)), .int ((10:Int32) * ((y - (1:Int32)) / (3:Int32))), .int ((x / (16:Int32)) + (9:Int32)), .ref q_4, .null, .int a7, .null])), (q_4, .inr (0, [.long v3.1, .long v3.2]))] := hD
  refine lv_aload_n hx hb d_PatternBook_Decimal_init_46 rfl (lv_at hl 0 rfl) ?_
  refine lv_iload_n hx hb d_PatternBook_Decimal_init_47 rfl (lv_at hl 2 rfl) ?_
  refine lv_iconst (v := 1) hx hb d_PatternBook_Decimal_init_48 (by decide) ?_
  refine lv_isub hx hb d_PatternBook_Decimal_init_49 ?_
  have ho3 := hk
  refine uCall (WR := [(f, .inr (4, [.int u1.1, .int u1.2.1, .int u1.2.2.1, .int u1.2.2.2, .int ((y - (1:Int32)) / (3:Int32)), .int ((10:Int32) * ((y - (1:Int32)) / (3:Int32))), .int ((x / (16:Int32)) + (9:Int32)), .ref q_4, .null, .int a7, .null])), (q_4, .inr (0, [.long v3.1, .long v3.2]))]) (RT := []) (va_runS (As := [.int (y - (1:Int32))]) (rest := [.ref f]) ⟨hx, hb, hml, hown, hts⟩ (c_C_nines l D H.size (y - (1:Int32)) ho3) ⟨uCB 1 hts k_437 k_124 k_438 (by decide +kernel) rfl rfl ⟨Nat.le_of_ble_eq_true rfl, Nat.le_of_ble_eq_true rfl⟩, hts _ k_439⟩ (uPreS hK hP hD hN [] rfl (by decide) [] rfl) rfl rfl hl.1 rfl (lv_room (Nat.le_of_ble_eq_true rfl)) d_PatternBook_Decimal_init_50 ⟨(Nat.le_of_ble_eq_true rfl), (Nat.le_of_ble_eq_true rfl)⟩) hK hP hD hS hA [] [0, 1] rfl rfl (by decide) (by decide) [] rfl (fun u5 H locs hu5 hP hD hK hS => ?_)
  obtain ⟨v6, q_7⟩ := u5
  have hv6 : v6 = ((sl m_C_nines) (y - (1:Int32))) := hu5
  have hP : va_P D classes [(f, .inr (4, [.int u1.1, .int u1.2.1, .int u1.2.2.1, .int u1.2.2.2, .int ((y - (1:Int32)) / (3:Int32)), .int ((10:Int32) * ((y - (1:Int32)) / (3:Int32))), .int ((x / (16:Int32)) + (9:Int32)), .ref q_4, .null, .int a7, .null])), (q_4, .inr (0, [.long v3.1, .long v3.2])), (q_7, .inr (0, [.long v6.1, .long v6.2]))] H := hP
  have hD : va_D A [(f, .inr (4, [.int u1.1, .int u1.2.1, .int u1.2.2.1, .int u1.2.2.2, .int ((y - (1:Int32)) / (3:Int32)), .int ((10:Int32) * ((y - (1:Int32)) / (3:Int32))), .int ((x / (16:Int32)) + (9:Int32)), .ref q_4, .null, .int a7, .null])), (q_4, .inr (0, [.long v3.1, .long v3.2])), (q_7, .inr (0, [.long v6.1, .long v6.2]))] := hD
  have hK : va_K D classes [] s := hK
  refine W.eq (g2 := F0 m 53 ls [.ref q_7, .ref f]) rfl ?_
  refine W.widen (k := 2) (n := 4) (Nat.le_of_ble_eq_true rfl) (Nat.le_of_ble_eq_true rfl) ?_
  refine va_putF (D := D) (ci := 4) (v := .ref q_7) (ty := .object "PatternBook$Wide") (C := R_PatternBook_DecletDecimal) (T := F_PatternBook_DecletDecimal) (N := 11) hx hb hts i_PatternBook_DecletDecimal t_PatternBook_DecletDecimal t_PatternBook_DecletDecimal_ok n_PatternBook_DecletDecimal hown hK hP hD hS 0 rfl rfl 8 (by decide) (hts _ k_139) (fun _ h9 => h9) rfl hin rfl (by decide +kernel) rfl rfl (Nat.le_of_ble_eq_true rfl) d_PatternBook_Decimal_init_53 (fun H locs hP hD hS => ?_)
  have hP : va_P D classes [(f, .inr (4, [.int u1.1, .int u1.2.1, .int u1.2.2.1, .int u1.2.2.2, .int ((y - (1:Int32)) / (3:Int32)), .int ((10:Int32) * ((y - (1:Int32)) / (3:Int32))), .int ((x / (16:Int32)) + (9:Int32)), .ref q_4, .ref q_7, .int a7, .null])), (q_4, .inr (0, [.long v3.1, .long v3.2])), (q_7, .inr (0, [.long v6.1, .long v6.2]))] H := hP
  have hD : va_D A [(f, .inr (4, [.int u1.1, .int u1.2.1, .int u1.2.2.1, .int u1.2.2.2, .int ((y - (1:Int32)) / (3:Int32)), .int ((10:Int32) * ((y - (1:Int32)) / (3:Int32))), .int ((x / (16:Int32)) + (9:Int32)), .ref q_4, .ref q_7, .int a7, .null])), (q_4, .inr (0, [.long v3.1, .long v3.2])), (q_7, .inr (0, [.long v6.1, .long v6.2]))] := hD
  refine W.vret hx hb hr ?_ hS.2.2 d_PatternBook_Decimal_init_56
  exact uEnd ((u1.1, u1.2.1, u1.2.2.1, u1.2.2.2, ((y - (1:Int32)) / (3:Int32)), ((10:Int32) * ((y - (1:Int32)) / (3:Int32))), ((x / (16:Int32)) + (9:Int32)), v3.1, v3.2, v6.1, v6.2), q_4, q_7) (hP.sub [0, 1, 2] rfl) (hK.sub [] rfl) (hD.sub [0, 1, 2] (by decide) rfl) hS (by have eu1 := hu1.symm; subst eu1; have ev3 := hv3.symm; subst ev3; have ev6 := hv6.symm; subst ev6; exact (rfl).symm) rfl
set_option maxHeartbeats 4000000 in
set_option maxRecDepth 100000 in
/-- PatternBook$DecletDecimal.<init>(III)V -/
theorem c_C_T_init (l : Launch) (D : va_G) (f : Nat) (sz : Nat) (x : Int32) (y : Int32) (z : Int32) (a0 : Int32) (a1 : Int32) (a2 : Int32) (a3 : Int32) (a4 : Int32) (a5 : Int32) (a6 : Int32) (a7 : Int32) (hk : mok_C_T_init y) : Met l y_PatternBook_DecletDecimal_init (wsOf y_PatternBook_DecletDecimal_init b_PatternBook_DecletDecimal_init 4 none) ({ frames := 4, cells := 3, slots := 6, locals := 77 }) (uP D classes [(f, .inr (4, [.int a0, .int a1, .int a2, .int a3, .int a4, .int a5, .int a6, .null, .null, .int a7, .null]))] [] sz [.ref f, .int x, .int y, .int z]) (uQ D classes (fun _ : (Int32 × Int32 × Int32 × Int32 × Int32 × Int32 × Int32 × Int32 × Int64 × Int64 × Int64 × Int64 × Int64 × Int64) × Nat × Nat × Nat => none) (fun u => u.1 = (sl m_C_T_init) x y z) (va_A [(f, .inr (4, [.int a0, .int a1, .int a2, .int a3, .int a4, .int a5, .int a6, .null, .null, .int a7, .null]))] sz) (fun _ => []) (fun u => [(f, .inr (4, [.int u.1.1, .int u.1.2.1, .int u.1.2.2.1, .int u.1.2.2.2.1, .int u.1.2.2.2.2.1, .int u.1.2.2.2.2.2.1, .int u.1.2.2.2.2.2.2.1, .ref u.2.1, .ref u.2.2.1, .int u.1.2.2.2.2.2.2.2.1, .ref u.2.2.2])), (u.2.1, .inr (0, [.long u.1.2.2.2.2.2.2.2.2.1, .long u.1.2.2.2.2.2.2.2.2.2.1])), (u.2.2.1, .inr (0, [.long u.1.2.2.2.2.2.2.2.2.2.2.1, .long u.1.2.2.2.2.2.2.2.2.2.2.2.1])), (u.2.2.2, .inr (0, [.long u.1.2.2.2.2.2.2.2.2.2.2.2.2.1, .long u.1.2.2.2.2.2.2.2.2.2.2.2.2.2]))])) 3 6 (va_A [(f, .inr (4, [.int a0, .int a1, .int a2, .int a3, .int a4, .int a5, .int a6, .null, .null, .int a7, .null]))] sz) := by
  rw [sl_eq m_C_T_init]
  refine uBegin (by decide +kernel) (Nat.le_of_ble_eq_true rfl) ?_
  intro p e s m below meth c A ls H locs hx hb hr hts hown hlocks hml hin hA hP hK hD hN hS hl
  have hl : lv_has ls 4 [(0, .ref f), (1, .int x), (2, .int y), (3, .int z)] := hl
  unfold mok_C_T_init at hk
  refine lv_aload_n hx hb d_PatternBook_DecletDecimal_init_0 rfl (lv_at hl 0 rfl) ?_
  refine lv_iload_n hx hb d_PatternBook_DecletDecimal_init_1 rfl (lv_at hl 1 rfl) ?_
  refine lv_iload_n hx hb d_PatternBook_DecletDecimal_init_2 rfl (lv_at hl 2 rfl) ?_
  refine lv_iload_n hx hb d_PatternBook_DecletDecimal_init_3 rfl (lv_at hl 3 rfl) ?_
  have ho1 := hk
  refine uCall (WR := []) (RT := []) (va_runI (As := [.int x, .int y, .int z]) (rest := []) ⟨hx, hb, hml, hown, hts⟩ (c_C_T_decimal l D f H.size x y z a0 a1 a2 a3 a4 a5 a6 a7 ho1) ⟨uCB 3 hts k_440 k_124 k_443 (by decide +kernel) rfl rfl ⟨Nat.le_of_ble_eq_true rfl, Nat.le_of_ble_eq_true rfl⟩, rfl, hts _ k_442⟩ (uPreS hK hP hD hN [0] rfl (by decide) [] rfl) rfl rfl hl.1 rfl (lv_room (Nat.le_of_ble_eq_true rfl)) d_PatternBook_DecletDecimal_init_4 ⟨(Nat.le_of_ble_eq_true rfl), (Nat.le_of_ble_eq_true rfl)⟩) hK hP hD hS hA [0] [] rfl rfl (by decide) (by decide) [] rfl (fun u1 H locs hu1 hP hD hK hS => ?_)
  obtain ⟨v2, q_3, q_4⟩ := u1
  have hv2 : v2 = ((sl m_C_T_decimal) x y z) := hu1
  have hP : va_P D classes [(f, .inr (4, [.int v2.1, .int v2.2.1, .int v2.2.2.1, .int v2.2.2.2.1, .int v2.2.2.2.2.1, .int v2.2.2.2.2.2.1, .int v2.2.2.2.2.2.2.1, .ref q_3, .ref q_4, .int a7, .null])), (q_3, .inr (0, [.long v2.2.2.2.2.2.2.2.1, .long v2.2.2.2.2.2.2.2.2.1])), (q_4, .inr (0, [.long v2.2.2.2.2.2.2.2.2.2.1, .long v2.2.2.2.2.2.2.2.2.2.2]))] H := hP
  have hD : va_D A [(f, .inr (4, [.int v2.1, .int v2.2.1, .int v2.2.2.1, .int v2.2.2.2.1, .int v2.2.2.2.2.1, .int v2.2.2.2.2.2.1, .int v2.2.2.2.2.2.2.1, .ref q_3, .ref q_4, .int a7, .null])), (q_3, .inr (0, [.long v2.2.2.2.2.2.2.2.1, .long v2.2.2.2.2.2.2.2.2.1])), (q_4, .inr (0, [.long v2.2.2.2.2.2.2.2.2.2.1, .long v2.2.2.2.2.2.2.2.2.2.2]))] := hD
  have hK : va_K D classes [] s := hK
  refine W.eq (g2 := F0 m 7 ls []) rfl ?_
  refine W.widen (k := 2) (n := 4) (Nat.le_of_ble_eq_true rfl) (Nat.le_of_ble_eq_true rfl) ?_
  refine lv_aload_n hx hb d_PatternBook_DecletDecimal_init_7 rfl (lv_at hl 0 rfl) ?_
  refine lv_aload_n hx hb d_PatternBook_DecletDecimal_init_8 rfl (lv_at hl 0 rfl) ?_
  refine va_get (D := D) (ci := 4) (v := .int v2.2.2.2.2.2.2.1) (C := R_PatternBook_DecletDecimal) (T := F_PatternBook_DecletDecimal) (N := 11) hx hb hts i_PatternBook_DecletDecimal hown hK hP 0 rfl rfl 6 (by decide) (hts _ k_445) (fun x9 h9 => u_same (hts _ k_444) x9 h9) rfl d_PatternBook_DecletDecimal_init_9 ?_
  refine lv_iconst (v := 5) hx hb d_PatternBook_DecletDecimal_init_12 (by decide) ?_
  refine lv_isub hx hb d_PatternBook_DecletDecimal_init_13 ?_
  refine va_putF (D := D) (ci := 4) (v := .int (v2.2.2.2.2.2.2.1 - (5:Int32))) (ty := .int) (C := R_PatternBook_DecletDecimal) (T := F_PatternBook_DecletDecimal) (N := 11) hx hb hts i_PatternBook_DecletDecimal t_PatternBook_DecletDecimal t_PatternBook_DecletDecimal_ok n_PatternBook_DecletDecimal hown hK hP hD hS 0 rfl rfl 9 (by decide) (hts _ k_203) (fun _ h9 => h9) rfl hin rfl (by decide +kernel) rfl rfl (Nat.le_of_ble_eq_true rfl) d_PatternBook_DecletDecimal_init_14 (fun H locs hP hD hS => ?_)
  have hP : va_P D classes [(f, .inr (4, [.int v2.1, .int v2.2.1, .int v2.2.2.1, .int v2.2.2.2.1, .int v2.2.2.2.2.1, .int v2.2.2.2.2.2.1, .int v2.2.2.2.2.2.2.1, .ref q_3, .ref q_4, .int (v2.2.2.2.2.2.2.1 - (5:Int32)), .null])), (q_3, .inr (0, [.long v2.2.2.2.2.2.2.2.1, .long v2.2.2.2.2.2.2.2.2.1])), (q_4, .inr (0, [.long v2.2.2.2.2.2.2.2.2.2.1, .long v2.2.2.2.2.2.2.2.2.2.2]))] H := hP
  have hD : va_D A [(f, .inr (4, [.int v2.1, .int v2.2.1, .int v2.2.2.1, .int v2.2.2.2.1, .int v2.2.2.2.2.1, .int v2.2.2.2.2.2.1, .int v2.2.2.2.2.2.2.1, .ref q_3, .ref q_4, .int (v2.2.2.2.2.2.2.1 - (5:Int32)), .null])), (q_3, .inr (0, [.long v2.2.2.2.2.2.2.2.1, .long v2.2.2.2.2.2.2.2.2.1])), (q_4, .inr (0, [.long v2.2.2.2.2.2.2.2.2.2.1, .long v2.2.2.2.2.2.2.2.2.2.2]))] := hD
  refine lv_aload_n hx hb d_PatternBook_DecletDecimal_init_17 rfl (lv_at hl 0 rfl) ?_
  refine va_new (ci := 0) (fs := [.long 0, .long 0]) (C := R_PatternBook_Wide) (T := F_PatternBook_Wide) (N := 2) hx hb hts i_PatternBook_Wide t_PatternBook_Wide t_PatternBook_Wide_ok hown (hts _ k_446) (hts _ k_29) (hts _ k_12) hK hP hD hS hA rfl (fun j hj => by rcases (show j = 0 ∨ j = 1 by omega) with rfl | rfl <;> rfl) (Nat.le_of_ble_eq_true rfl) (Nat.le_of_ble_eq_true rfl) d_PatternBook_DecletDecimal_init_18 (fun q_5 H hP hD hS => ?_)
  have hP : va_P D classes [(f, .inr (4, [.int v2.1, .int v2.2.1, .int v2.2.2.1, .int v2.2.2.2.1, .int v2.2.2.2.2.1, .int v2.2.2.2.2.2.1, .int v2.2.2.2.2.2.2.1, .ref q_3, .ref q_4, .int (v2.2.2.2.2.2.2.1 - (5:Int32)), .null])), (q_3, .inr (0, [.long v2.2.2.2.2.2.2.2.1, .long v2.2.2.2.2.2.2.2.2.1])), (q_4, .inr (0, [.long v2.2.2.2.2.2.2.2.2.2.1, .long v2.2.2.2.2.2.2.2.2.2.2])), (q_5, .inr (0, [.long 0, .long 0]))] H := hP
  have hD : va_D A [(f, .inr (4, [.int v2.1, .int v2.2.1, .int v2.2.2.1, .int v2.2.2.2.1, .int v2.2.2.2.2.1, .int v2.2.2.2.2.2.1, .int v2.2.2.2.2.2.2.1, .ref q_3, .ref q_4, .int (v2.2.2.2.2.2.2.1 - (5:Int32)), .null])), (q_3, .inr (0, [.long v2.2.2.2.2.2.2.2.1, .long v2.2.2.2.2.2.2.2.2.1])), (q_4, .inr (0, [.long v2.2.2.2.2.2.2.2.2.2.1, .long v2.2.2.2.2.2.2.2.2.2.2])), (q_5, .inr (0, [.long 0, .long 0]))] := hD
  refine W.widen (k := 3) (n := 6) (Nat.le_of_ble_eq_true rfl) (Nat.le_of_ble_eq_true rfl) ?_
  refine lv_dup hx hb d_PatternBook_DecletDecimal_init_21 rfl ?_
  refine uCall (WR := [(f, .inr (4, [.int v2.1, .int v2.2.1, .int v2.2.2.1, .int v2.2.2.2.1, .int v2.2.2.2.2.1, .int v2.2.2.2.2.2.1, .int v2.2.2.2.2.2.2.1, .ref q_3, .ref q_4, .int (v2.2.2.2.2.2.2.1 - (5:Int32)), .null])), (q_3, .inr (0, [.long v2.2.2.2.2.2.2.2.1, .long v2.2.2.2.2.2.2.2.2.1])), (q_4, .inr (0, [.long v2.2.2.2.2.2.2.2.2.2.1, .long v2.2.2.2.2.2.2.2.2.2.2]))]) (RT := []) (va_runIN (As := []) (rest := [.ref q_5, .ref f]) ⟨hx, hb, hml, hown, hts⟩ (c_W_init l D q_5 H.size 0 0) ⟨uCN 0 hts hN k_30 k_12 kn_25 (by decide +kernel) rfl rfl ⟨Nat.le_of_ble_eq_true rfl, Nat.le_of_ble_eq_true rfl⟩, rfl, hts _ k_31⟩ (uPreS hK hP hD hN [3] rfl (by decide) [] rfl) rfl rfl hl.1 rfl (lv_room (Nat.le_of_ble_eq_true rfl)) d_PatternBook_DecletDecimal_init_22 ⟨(Nat.le_of_ble_eq_true rfl), (Nat.le_of_ble_eq_true rfl)⟩) hK hP hD hS hA [3] [0, 1, 2] rfl rfl (by decide) (by decide) [] rfl (fun u6 H locs hu6 hP hD hK hS => ?_)
  have hP : va_P D classes [(f, .inr (4, [.int v2.1, .int v2.2.1, .int v2.2.2.1, .int v2.2.2.2.1, .int v2.2.2.2.2.1, .int v2.2.2.2.2.2.1, .int v2.2.2.2.2.2.2.1, .ref q_3, .ref q_4, .int (v2.2.2.2.2.2.2.1 - (5:Int32)), .null])), (q_3, .inr (0, [.long v2.2.2.2.2.2.2.2.1, .long v2.2.2.2.2.2.2.2.2.1])), (q_4, .inr (0, [.long v2.2.2.2.2.2.2.2.2.2.1, .long v2.2.2.2.2.2.2.2.2.2.2])), (q_5, .inr (0, [.long 0, .long 0]))] H := hP
  have hD : va_D A [(f, .inr (4, [.int v2.1, .int v2.2.1, .int v2.2.2.1, .int v2.2.2.2.1, .int v2.2.2.2.2.1, .int v2.2.2.2.2.2.1, .int v2.2.2.2.2.2.2.1, .ref q_3, .ref q_4, .int (v2.2.2.2.2.2.2.1 - (5:Int32)), .null])), (q_3, .inr (0, [.long v2.2.2.2.2.2.2.2.1, .long v2.2.2.2.2.2.2.2.2.1])), (q_4, .inr (0, [.long v2.2.2.2.2.2.2.2.2.2.1, .long v2.2.2.2.2.2.2.2.2.2.2])), (q_5, .inr (0, [.long 0, .long 0]))] := hD
  have hK : va_K D classes [] s := hK
  refine W.eq (g2 := F0 m 25 ls [.ref q_5, .ref f]) rfl ?_
  refine va_putF (D := D) (ci := 4) (v := .ref q_5) (ty := .object "PatternBook$Wide") (C := R_PatternBook_DecletDecimal) (T := F_PatternBook_DecletDecimal) (N := 11) hx hb hts i_PatternBook_DecletDecimal t_PatternBook_DecletDecimal t_PatternBook_DecletDecimal_ok n_PatternBook_DecletDecimal hown hK hP hD hS 0 rfl rfl 10 (by decide) (hts _ k_223) (fun _ h9 => h9) rfl hin rfl (by decide +kernel) rfl rfl (Nat.le_of_ble_eq_true rfl) d_PatternBook_DecletDecimal_init_25 (fun H locs hP hD hS => ?_)
  have hP : va_P D classes [(f, .inr (4, [.int v2.1, .int v2.2.1, .int v2.2.2.1, .int v2.2.2.2.1, .int v2.2.2.2.2.1, .int v2.2.2.2.2.2.1, .int v2.2.2.2.2.2.2.1, .ref q_3, .ref q_4, .int (v2.2.2.2.2.2.2.1 - (5:Int32)), .ref q_5])), (q_3, .inr (0, [.long v2.2.2.2.2.2.2.2.1, .long v2.2.2.2.2.2.2.2.2.1])), (q_4, .inr (0, [.long v2.2.2.2.2.2.2.2.2.2.1, .long v2.2.2.2.2.2.2.2.2.2.2])), (q_5, .inr (0, [.long 0, .long 0]))] H := hP
  have hD : va_D A [(f, .inr (4, [.int v2.1, .int v2.2.1, .int v2.2.2.1, .int v2.2.2.2.1, .int v2.2.2.2.2.1, .int v2.2.2.2.2.2.1, .int v2.2.2.2.2.2.2.1, .ref q_3, .ref q_4, .int (v2.2.2.2.2.2.2.1 - (5:Int32)), .ref q_5])), (q_3, .inr (0, [.long v2.2.2.2.2.2.2.2.1, .long v2.2.2.2.2.2.2.2.2.1])), (q_4, .inr (0, [.long v2.2.2.2.2.2.2.2.2.2.1, .long v2.2.2.2.2.2.2.2.2.2.2])), (q_5, .inr (0, [.long 0, .long 0]))] := hD
  refine W.vret hx hb hr ?_ hS.2.2 d_PatternBook_DecletDecimal_init_28
  exact uEnd ((v2.1, v2.2.1, v2.2.2.1, v2.2.2.2.1, v2.2.2.2.2.1, v2.2.2.2.2.2.1, v2.2.2.2.2.2.2.1, (v2.2.2.2.2.2.2.1 - (5:Int32)), v2.2.2.2.2.2.2.2.1, v2.2.2.2.2.2.2.2.2.1, v2.2.2.2.2.2.2.2.2.2.1, v2.2.2.2.2.2.2.2.2.2.2, 0, 0), q_3, q_4, q_5) (hP.sub [0, 1, 2, 3] rfl) (hK.sub [] rfl) (hD.sub [0, 1, 2, 3] (by decide) rfl) hS (by have ev2 := hv2.symm; subst ev2; exact (rfl).symm) rfl
