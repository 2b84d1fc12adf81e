set_option maxHeartbeats 4000000 in
set_option maxRecDepth 100000 in
/-- PatternBook$Datum.<init>()V -/
theorem c_D_init (l : Launch) (D : va_G) (d : Nat) (sz : Nat) (kd : Int32) (ng : Bool) (ex : Int32) : Met l y_PatternBook_Datum_init (wsOf y_PatternBook_Datum_init b_PatternBook_Datum_init 1 none) ({ frames := 2, cells := 1, slots := 2, locals := 32 }) (uP D classes [(d, .inr (1, [.int kd, .int (bI ng), .int ex, .null]))] [] sz [.ref d]) (uQ D classes (fun _ : (Int32 × Bool × Int32 × Int64 × Int64) × Nat => none) (fun u => u.1 = (sl m_D_init)) (va_A [(d, .inr (1, [.int kd, .int (bI ng), .int ex, .null]))] sz) (fun _ => []) (fun u => [(d, .inr (1, [.int u.1.1, .int (bI u.1.2.1), .int u.1.2.2.1, .ref u.2])), (u.2, .inr (0, [.long u.1.2.2.2.1, .long u.1.2.2.2.2]))])) 1 2 (va_A [(d, .inr (1, [.int kd, .int (bI ng), .int ex, .null]))] sz) := by
  rw [sl_eq m_D_init]
  refine uBegin (by decide +kernel) (Nat.le_of_ble_eq_true rfl) ?_
  intro p e s m below meth c A ls H locs hx hb hr hts hown hlocks hml hin hA hP hK hD hN hS hl
  have hl : lv_has ls 1 [(0, .ref d)] := hl
  refine lv_aload_n hx hb d_PatternBook_Datum_init_0 rfl (lv_at hl 0 rfl) ?_
  refine W.objInit hx hb hown (hts _ k_24) (hts _ k_7) (hts _ k_8) rfl (by rw [hml]; exact hl.1) rfl d_PatternBook_Datum_init_1 (Nat.le_of_ble_eq_true rfl) (Nat.le_of_ble_eq_true rfl) ?_
  refine W.eq (g2 := F0 m 4 ls []) rfl ?_
  refine lv_aload_n hx hb d_PatternBook_Datum_init_4 rfl (lv_at hl 0 rfl) ?_
  refine lv_iconst (v := 0) hx hb d_PatternBook_Datum_init_5 (by decide) ?_
  refine va_put (D := D) (ci := 1) (v := .int (0:Int32)) (ty := .int) (C := R_PatternBook_Datum) (T := F_PatternBook_Datum) (N := 4) hx hb hts i_PatternBook_Datum t_PatternBook_Datum t_PatternBook_Datum_ok n_PatternBook_Datum hown hK hP hD hS 0 rfl rfl 0 (by decide) (hts _ k_25) (fun _ h9 => h9) rfl (by decide +kernel) rfl rfl (Nat.le_of_ble_eq_true rfl) d_PatternBook_Datum_init_6 (fun H locs hP hD hS => ?_)
  have hP : va_P D classes [(d, .inr (1, [.int (0:Int32), .int (bI ng), .int ex, .null]))] H := hP
  have hD : va_D A [(d, .inr (1, [.int (0:Int32), .int (bI ng), .int ex, .null]))] := hD
  refine lv_aload_n hx hb d_PatternBook_Datum_init_9 rfl (lv_at hl 0 rfl) ?_
  refine lv_iconst (v := 0) hx hb d_PatternBook_Datum_init_10 (by decide) ?_
  refine va_put (D := D) (ci := 1) (v := .int (0:Int32)) (ty := .boolean) (C := R_PatternBook_Datum) (T := F_PatternBook_Datum) (N := 4) hx hb hts i_PatternBook_Datum t_PatternBook_Datum t_PatternBook_Datum_ok n_PatternBook_Datum hown hK hP hD hS 0 rfl rfl 1 (by decide) (hts _ k_26) (fun _ h9 => h9) rfl (by decide +kernel) rfl rfl (Nat.le_of_ble_eq_true rfl) d_PatternBook_Datum_init_11 (fun H locs hP hD hS => ?_)
  have hP : va_P D classes [(d, .inr (1, [.int (0:Int32), .int (bI false), .int ex, .null]))] H := hP
  have hD : va_D A [(d, .inr (1, [.int (0:Int32), .int (bI false), .int ex, .null]))] := hD
  refine lv_aload_n hx hb d_PatternBook_Datum_init_14 rfl (lv_at hl 0 rfl) ?_
  refine lv_iconst (v := 0) hx hb d_PatternBook_Datum_init_15 (by decide) ?_
  refine va_put (D := D) (ci := 1) (v := .int (0:Int32)) (ty := .int) (C := R_PatternBook_Datum) (T := F_PatternBook_Datum) (N := 4) hx hb hts i_PatternBook_Datum t_PatternBook_Datum t_PatternBook_Datum_ok n_PatternBook_Datum hown hK hP hD hS 0 rfl rfl 2 (by decide) (hts _ k_27) (fun _ h9 => h9) rfl (by decide +kernel) rfl rfl (Nat.le_of_ble_eq_true rfl) d_PatternBook_Datum_init_16 (fun H locs hP hD hS => ?_)
  have hP : va_P D classes [(d, .inr (1, [.int (0:Int32), .int (bI false), .int (0:Int32), .null]))] H := hP
  have hD : va_D A [(d, .inr (1, [.int (0:Int32), .int (bI false), .int (0:Int32), .null]))] := hD
  refine lv_aload_n hx hb d_PatternBook_Datum_init_19 rfl (lv_at hl 0 rfl) ?_
  refine va_new (ci := 0) (fs := [.long 0, .long 0]) (C := R_PatternBook_Wide) (T := F_PatternBook_Wide) (N := 2) hx hb hts i_PatternBook_Wide t_PatternBook_Wide t_PatternBook_Wide_ok hown (hts _ k_28) (hts _ k_29) (hts _ k_12) hK hP hD hS hA rfl (fun j hj => by rcases (show j = 0 ∨ j = 1 by omega) with rfl | rfl <;> rfl) (Nat.le_of_ble_eq_true rfl) (Nat.le_of_ble_eq_true rfl) d_PatternBook_Datum_init_20 (fun q_1 H hP hD hS => ?_)
  have hP : va_P D classes [(d, .inr (1, [.int (0:Int32), .int (bI false), .int (0:Int32), .null])), (q_1, .inr (0, [.long 0, .long 0]))] H := hP
  have hD : va_D A [(d, .inr (1, [.int (0:Int32), .int (bI false), .int (0:Int32), .null])), (q_1, .inr (0, [.long 0, .long 0]))] := hD
  refine W.widen (k := 1) (n := 2) (Nat.le_of_ble_eq_true rfl) (Nat.le_of_ble_eq_true rfl) ?_
  refine lv_dup hx hb d_PatternBook_Datum_init_23 rfl ?_
  refine uCall (WR := [(d, .inr (1, [.int (0:Int32), .int (bI false), .int (0:Int32), .null]))]) (RT := []) (va_runIN (As := []) (rest := [.ref q_1, .ref d]) ⟨hx, hb, hml, hown, hts⟩ (c_W_init l D q_1 H.size 0 0) ⟨uCN 0 hts hN k_30 k_12 kn_1 (by decide +kernel) rfl rfl ⟨Nat.le_of_ble_eq_true rfl, Nat.le_of_ble_eq_true rfl⟩, rfl, hts _ k_31⟩ (uPreS hK hP hD hN [1] rfl (by decide) [] rfl) rfl rfl hl.1 rfl (lv_room (Nat.le_of_ble_eq_true rfl)) d_PatternBook_Datum_init_24 ⟨(Nat.le_of_ble_eq_true rfl), (Nat.le_of_ble_eq_true rfl)⟩) hK hP hD hS hA [1] [0] rfl rfl (by decide) (by decide) [] rfl (fun u2 H locs hu2 hP hD hK hS => ?_)
  have hP : va_P D classes [(d, .inr (1, [.int (0:Int32), .int (bI false), .int (0:Int32), .null])), (q_1, .inr (0, [.long 0, .long 0]))] H := hP
  have hD : va_D A [(d, .inr (1, [.int (0:Int32), .int (bI false), .int (0:Int32), .null])), (q_1, .inr (0, [.long 0, .long 0]))] := hD
  have hK : va_K D classes [] s := hK
  refine W.eq (g2 := F0 m 27 ls [.ref q_1, .ref d]) rfl ?_
  refine va_putF (D := D) (ci := 1) (v := .ref q_1) (ty := .object "PatternBook$Wide") (C := R_PatternBook_Datum) (T := F_PatternBook_Datum) (N := 4) hx hb hts i_PatternBook_Datum t_PatternBook_Datum t_PatternBook_Datum_ok n_PatternBook_Datum hown hK hP hD hS 0 rfl rfl 3 (by decide) (hts _ k_32) (fun _ h9 => h9) rfl hin rfl (by decide +kernel) rfl rfl (Nat.le_of_ble_eq_true rfl) d_PatternBook_Datum_init_27 (fun H locs hP hD hS => ?_)
  have hP : va_P D classes [(d, .inr (1, [.int (0:Int32), .int (bI false), .int (0:Int32), .ref q_1])), (q_1, .inr (0, [.long 0, .long 0]))] H := hP
  have hD : va_D A [(d, .inr (1, [.int (0:Int32), .int (bI false), .int (0:Int32), .ref q_1])), (q_1, .inr (0, [.long 0, .long 0]))] := hD
  refine W.vret hx hb hr ?_ hS.2.2 d_PatternBook_Datum_init_30
  exact uEnd (((0:Int32), false, (0:Int32), 0, 0), q_1) (hP.sub [0, 1] rfl) (hK.sub [] rfl) (hD.sub [0, 1] (by decide) rfl) hS rfl rfl
set_option maxHeartbeats 4000000 in
set_option maxRecDepth 100000 in
/-- PatternBook$Datum.become(II)V -/
theorem c_D_become (l : Launch) (D : va_G) (d : Nat) (b : Nat) (sz : Nat) (x : Int32) (y : Int32) (kd : Int32) (ng : Bool) (ex : Int32) (bh : Int64) (bl : Int64) : Met l y_PatternBook_Datum_become (wsOf y_PatternBook_Datum_become b_PatternBook_Datum_become 3 none) ({ frames := 1, cells := 0, slots := 0, locals := 24 }) (uP D classes [(d, .inr (1, [.int kd, .int (bI ng), .int ex, .ref b])), (b, .inr (0, [.long bh, .long bl]))] [] sz [.ref d, .int x, .int y]) (uQ D classes (fun _ : Int32 × Int32 × Int64 × Int64 => none) (fun u => u = (sl m_D_become) x y bh bl) (va_A [(d, .inr (1, [.int kd, .int (bI ng), .int ex, .ref b])), (b, .inr (0, [.long bh, .long bl]))] sz) (fun _ => []) (fun u => [(d, .inr (1, [.int u.1, .int (bI ng), .int u.2.1, .ref b])), (b, .inr (0, [.long u.2.2.1, .long u.2.2.2]))])) 0 0 (va_A [(d, .inr (1, [.int kd, .int (bI ng), .int ex, .ref b])), (b, .inr (0, [.long bh, .long bl]))] sz) := by
  rw [sl_eq m_D_become]
  refine uBegin (by decide +kernel) (Nat.le_of_ble_eq_true rfl) ?_
  intro p e s m below meth c A ls H locs hx hb hr hts hown hlocks hml hin hA hP hK hD hN hS hl
  have hl : lv_has ls 3 [(0, .ref d), (1, .int x), (2, .int y)] := hl
  refine lv_aload_n hx hb d_PatternBook_Datum_become_0 rfl (lv_at hl 0 rfl) ?_
  refine lv_iload_n hx hb d_PatternBook_Datum_become_1 rfl (lv_at hl 1 rfl) ?_
  refine va_put (D := D) (ci := 1) (v := .int x) (ty := .int) (C := R_PatternBook_Datum) (T := F_PatternBook_Datum) (N := 4) hx hb hts i_PatternBook_Datum t_PatternBook_Datum t_PatternBook_Datum_ok n_PatternBook_Datum hown hK hP hD hS 0 rfl rfl 0 (by decide) (hts _ k_25) (fun _ h9 => h9) rfl (by decide +kernel) rfl rfl (Nat.le_of_ble_eq_true rfl) d_PatternBook_Datum_become_2 (fun H locs hP hD hS => ?_)
  have hP : va_P D classes [(d, .inr (1, [.int x, .int (bI ng), .int ex, .ref b])), (b, .inr (0, [.long bh, .long bl]))] H := hP
  have hD : va_D A [(d, .inr (1, [.int x, .int (bI ng), .int ex, .ref b])), (b, .inr (0, [.long bh, .long bl]))] := hD
  refine lv_aload_n hx hb d_PatternBook_Datum_become_5 rfl (lv_at hl 0 rfl) ?_
  refine lv_iload_n hx hb d_PatternBook_Datum_become_6 rfl (lv_at hl 1 rfl) ?_
  refine lv_if_ne (tgt := 14) hx hb d_PatternBook_Datum_become_7 (by decide) (fun c_1 => ?_) (fun c_1 => ?_)
  · refine lv_iconst (v := 0) hx hb d_PatternBook_Datum_become_14 (by decide) ?_
    refine va_put (D := D) (ci := 1) (v := .int (0:Int32)) (ty := .int) (C := R_PatternBook_Datum) (T := F_PatternBook_Datum) (N := 4) hx hb hts i_PatternBook_Datum t_PatternBook_Datum t_PatternBook_Datum_ok n_PatternBook_Datum hown hK hP hD hS 0 rfl rfl 2 (by decide) (hts _ k_27) (fun _ h9 => h9) rfl (by decide +kernel) rfl rfl (Nat.le_of_ble_eq_true rfl) d_PatternBook_Datum_become_15 (fun H locs hP hD hS => ?_)
    have hP : va_P D classes [(d, .inr (1, [.int x, .int (bI ng), .int (0:Int32), .ref b])), (b, .inr (0, [.long bh, .long bl]))] H := hP
    have hD : va_D A [(d, .inr (1, [.int x, .int (bI ng), .int (0:Int32), .ref b])), (b, .inr (0, [.long bh, .long bl]))] := hD
    refine lv_iload_n hx hb d_PatternBook_Datum_become_18 rfl (lv_at hl 1 rfl) ?_
    refine lv_iconst (v := 1) hx hb d_PatternBook_Datum_become_19 (by decide) ?_
    refine lv_icmp_ne (tgt := 32) hx hb d_PatternBook_Datum_become_20 (by decide) (fun c_2 => ?_) (fun c_2 => ?_)
    · refine W.vret hx hb hr ?_ hS.2.2 d_PatternBook_Datum_become_32
      exact uEnd (x, (0:Int32), bh, bl) (hP.sub [0, 1] rfl) (hK.sub [] rfl) (hD.sub [0, 1] (by decide) rfl) hS (by  exact ((if_neg c_1).trans ((if_neg c_2).trans (rfl))).symm) rfl
    · refine lv_aload_n hx hb d_PatternBook_Datum_become_23 rfl (lv_at hl 0 rfl) ?_
      refine va_get (D := D) (ci := 1) (v := .ref b) (C := R_PatternBook_Datum) (T := F_PatternBook_Datum) (N := 4) hx hb hts i_PatternBook_Datum hown hK hP 0 rfl rfl 3 (by decide) (hts _ k_32) (fun _ h9 => h9) rfl d_PatternBook_Datum_become_24 ?_
      refine lv_lconst (v := 0) hx hb d_PatternBook_Datum_become_27 (by decide) ?_
      refine lv_lconst (v := 0) hx hb d_PatternBook_Datum_become_28 (by decide) ?_
      refine uCall (WR := [(d, .inr (1, [.int x, .int (bI ng), .int (0:Int32), .ref b]))]) (RT := []) (va_runV (As := [.long (0:Int64), .long (0:Int64)]) (rest := []) ⟨hx, hb, hml, hown, hts⟩ (c_W_set l D b H.size (0:Int64) (0:Int64) bh bl) ⟨uCB 2 hts k_11 k_12 k_33 (by decide +kernel) rfl rfl ⟨Nat.le_of_ble_eq_true rfl, Nat.le_of_ble_eq_true rfl⟩, hts _ k_14, hts _ k_15⟩ (uPreV (ci := 0) (q0 := 1) hK hP hD hN [1] rfl (by decide) [] rfl rfl rfl) rfl rfl hl.1 rfl (lv_room (Nat.le_of_ble_eq_true rfl)) d_PatternBook_Datum_become_29 ⟨(Nat.le_of_ble_eq_true rfl), (Nat.le_of_ble_eq_true rfl)⟩) hK hP hD hS hA [1] [0] rfl rfl (by decide) (by decide) [] rfl (fun u3 H locs hu3 hP hD hK hS => ?_)
      have hP : va_P D classes [(d, .inr (1, [.int x, .int (bI ng), .int (0:Int32), .ref b])), (b, .inr (0, [.long u3.1, .long u3.2]))] H := hP
      have hD : va_D A [(d, .inr (1, [.int x, .int (bI ng), .int (0:Int32), .ref b])), (b, .inr (0, [.long u3.1, .long u3.2]))] := hD
      have hK : va_K D classes [] s := hK
      refine W.eq (g2 := F0 m 32 ls []) rfl ?_
      refine W.vret hx hb hr ?_ hS.2.2 d_PatternBook_Datum_become_32
      exact uEnd (x, (0:Int32), u3.1, u3.2) (hP.sub [0, 1] rfl) (hK.sub [] rfl) (hD.sub [0, 1] (by decide) rfl) hS (by have eu3 := hu3.symm; subst eu3; exact ((if_neg c_1).trans ((if_pos c_2).trans (rfl))).symm) rfl
  · refine lv_iload_n hx hb d_PatternBook_Datum_become_10 rfl (lv_at hl 2 rfl) ?_
    refine lv_goto (tgt := 15) hx hb d_PatternBook_Datum_become_11 (by decide) ?_
    refine va_put (D := D) (ci := 1) (v := .int y) (ty := .int) (C := R_PatternBook_Datum) (T := F_PatternBook_Datum) (N := 4) hx hb hts i_PatternBook_Datum t_PatternBook_Datum t_PatternBook_Datum_ok n_PatternBook_Datum hown hK hP hD hS 0 rfl rfl 2 (by decide) (hts _ k_27) (fun _ h9 => h9) rfl (by decide +kernel) rfl rfl (Nat.le_of_ble_eq_true rfl) d_PatternBook_Datum_become_15 (fun H locs hP hD hS => ?_)
    have hP : va_P D classes [(d, .inr (1, [.int x, .int (bI ng), .int y, .ref b])), (b, .inr (0, [.long bh, .long bl]))] H := hP
    have hD : va_D A [(d, .inr (1, [.int x, .int (bI ng), .int y, .ref b])), (b, .inr (0, [.long bh, .long bl]))] := hD
    refine lv_iload_n hx hb d_PatternBook_Datum_become_18 rfl (lv_at hl 1 rfl) ?_
    refine lv_iconst (v := 1) hx hb d_PatternBook_Datum_become_19 (by decide) ?_
    refine lv_icmp_ne (tgt := 32) hx hb d_PatternBook_Datum_become_20 (by decide) (fun c_4 => ?_) (fun c_4 => ?_)
    · refine W.vret hx hb hr ?_ hS.2.2 d_PatternBook_Datum_become_32
      exact uEnd (x, y, bh, bl) (hP.sub [0, 1] rfl) (hK.sub [] rfl) (hD.sub [0, 1] (by decide) rfl) hS (by  exact ((if_pos c_1).trans ((if_neg c_4).trans (rfl))).symm) rfl
    · refine lv_aload_n hx hb d_PatternBook_Datum_become_23 rfl (lv_at hl 0 rfl) ?_
      refine va_get (D := D) (ci := 1) (v := .ref b) (C := R_PatternBook_Datum) (T := F_PatternBook_Datum) (N := 4) hx hb hts i_PatternBook_Datum hown hK hP 0 rfl rfl 3 (by decide) (hts _ k_32) (fun _ h9 => h9) rfl d_PatternBook_Datum_become_24 ?_
      refine lv_lconst (v := 0) hx hb d_PatternBook_Datum_become_27 (by decide) ?_
      refine lv_lconst (v := 0) hx hb d_PatternBook_Datum_become_28 (by decide) ?_
      refine uCall (WR := [(d, .inr (1, [.int x, .int (bI ng), .int y, .ref b]))]) (RT := []) (va_runV (As := [.long (0:Int64), .long (0:Int64)]) (rest := []) ⟨hx, hb, hml, hown, hts⟩ (c_W_set l D b H.size (0:Int64) (0:Int64) bh bl) ⟨uCB 2 hts k_11 k_12 k_33 (by decide +kernel) rfl rfl ⟨Nat.le_of_ble_eq_true rfl, Nat.le_of_ble_eq_true rfl⟩, hts _ k_14, hts _ k_15⟩ (uPreV (ci := 0) (q0 := 1) hK hP hD hN [1] rfl (by decide) [] rfl rfl rfl) rfl rfl hl.1 rfl (lv_room (Nat.le_of_ble_eq_true rfl)) d_PatternBook_Datum_become_29 ⟨(Nat.le_of_ble_eq_true rfl), (Nat.le_of_ble_eq_true rfl)⟩) hK hP hD hS hA [1] [0] rfl rfl (by decide) (by decide) [] rfl (fun u5 H locs hu5 hP hD hK hS => ?_)
      have hP : va_P D classes [(d, .inr (1, [.int x, .int (bI ng), .int y, .ref b])), (b, .inr (0, [.long u5.1, .long u5.2]))] H := hP
      have hD : va_D A [(d, .inr (1, [.int x, .int (bI ng), .int y, .ref b])), (b, .inr (0, [.long u5.1, .long u5.2]))] := hD
      have hK : va_K D classes [] s := hK
      refine W.eq (g2 := F0 m 32 ls []) rfl ?_
      refine W.vret hx hb hr ?_ hS.2.2 d_PatternBook_Datum_become_32
      exact uEnd (x, y, u5.1, u5.2) (hP.sub [0, 1] rfl) (hK.sub [] rfl) (hD.sub [0, 1] (by decide) rfl) hS (by have eu5 := hu5.symm; subst eu5; exact ((if_pos c_1).trans ((if_pos c_4).trans (rfl))).symm) rfl
set_option maxHeartbeats 4000000 in
set_option maxRecDepth 100000 in
/-- PatternBook$Declet.join(III)I -/
theorem c_E_join (l : Launch) (D : va_G)  (sz : Nat) (x : Int32) (y : Int32) (z : Int32) : Met l y_PatternBook_Declet_join (wsOf y_PatternBook_Declet_join b_PatternBook_Declet_join 3 (some .int)) ({ frames := 0, cells := 0, slots := 0, locals := 0 }) (uP D classes [] [] sz [.int x, .int y, .int z]) (uQ D classes (fun u : Int32 => some (.int u)) (fun u => u = (sl m_E_join) x y z) (va_A [] sz) (fun _ => []) (fun u => [])) 0 0 (va_A [] sz) := by
  rw [sl_eq m_E_join]
  refine uBegin (by decide +kernel) (Nat.le_of_ble_eq_true rfl) ?_
  intro p e s m below meth c A ls H locs hx hb hr hts hown hlocks hml hin hA hP hK hD hN hS hl
  have hl : lv_has ls 3 [(0, .int x), (1, .int y), (2, .int z)] := hl
  refine lv_bipush (v := 100) hx hb d_PatternBook_Declet_join_0 (by decide) ?_
  refine lv_iload_n hx hb d_PatternBook_Declet_join_2 rfl (lv_at hl 0 rfl) ?_
  refine lv_imul hx hb d_PatternBook_Declet_join_3 ?_
  refine lv_bipush (v := 10) hx hb d_PatternBook_Declet_join_4 (by decide) ?_
  refine lv_iload_n hx hb d_PatternBook_Declet_join_6 rfl (lv_at hl 1 rfl) ?_
  refine lv_imul hx hb d_PatternBook_Declet_join_7 ?_
  refine lv_iadd hx hb d_PatternBook_Declet_join_8 ?_
  refine lv_iload_n hx hb d_PatternBook_Declet_join_9 rfl (lv_at hl 2 rfl) ?_
  refine lv_iadd hx hb d_PatternBook_Declet_join_10 ?_
  refine W.iret hx hb hr ?_ hS.2.2 d_PatternBook_Declet_join_11
  exact uEnd ((((100:Int32) * x) + ((10:Int32) * y)) + z) (hP.sub [] rfl) (hK.sub [] rfl) (hD.sub [] (by decide) rfl) hS rfl rfl
set_option maxHeartbeats 4000000 in
set_option maxRecDepth 100000 in
/-- PatternBook$Declet.bits(III)I -/
theorem c_E_bits (l : Launch) (D : va_G)  (sz : Nat) (x : Int32) (y : Int32) (z : Int32) : Met l y_PatternBook_Declet_bits (wsOf y_PatternBook_Declet_bits b_PatternBook_Declet_bits 3 (some .int)) ({ frames := 0, cells := 0, slots := 0, locals := 0 }) (uP D classes [] [] sz [.int x, .int y, .int z]) (uQ D classes (fun u : Int32 => some (.int u)) (fun u => u = (sl m_E_bits) x y z) (va_A [] sz) (fun _ => []) (fun u => [])) 0 0 (va_A [] sz) := by
  rw [sl_eq m_E_bits]
  refine uBegin (by decide +kernel) (Nat.le_of_ble_eq_true rfl) ?_
  intro p e s m below meth c A ls H locs hx hb hr hts hown hlocks hml hin hA hP hK hD hN hS hl
  have hl : lv_has ls 3 [(0, .int x), (1, .int y), (2, .int z)] := hl
  refine lv_iload_n hx hb d_PatternBook_Declet_bits_0 rfl (lv_at hl 0 rfl) ?_
  refine lv_bipush (v := 7) hx hb d_PatternBook_Declet_bits_1 (by decide) ?_
  refine lv_ishl hx hb d_PatternBook_Declet_bits_3 ?_
  refine lv_iload_n hx hb d_PatternBook_Declet_bits_4 rfl (lv_at hl 1 rfl) ?_
  refine lv_iconst (v := 4) hx hb d_PatternBook_Declet_bits_5 (by decide) ?_
  refine lv_ishl hx hb d_PatternBook_Declet_bits_6 ?_
  refine lv_ior hx hb d_PatternBook_Declet_bits_7 ?_
  refine lv_iload_n hx hb d_PatternBook_Declet_bits_8 rfl (lv_at hl 2 rfl) ?_
  refine lv_ior hx hb d_PatternBook_Declet_bits_9 ?_
  refine W.iret hx hb hr ?_ hS.2.2 d_PatternBook_Declet_bits_10
  exact uEnd (((x <<< ((7:Int32) &&& 31)) ||| (y <<< ((4:Int32) &&& 31))) ||| z) (hP.sub [] rfl) (hK.sub [] rfl) (hD.sub [] (by decide) rfl) hS rfl rfl
set_option maxHeartbeats 4000000 in
set_option maxRecDepth 100000 in
/-- PatternBook$Declet.readTwoLarge(III)I -/
theorem c_E_two (l : Launch) (D : va_G)  (sz : Nat) (x : Int32) (y : Int32) (z : Int32) : Met l y_PatternBook_Declet_readTwoLarge (wsOf y_PatternBook_Declet_readTwoLarge b_PatternBook_Declet_readTwoLarge 5 (some .int)) ({ frames := 1, cells := 0, slots := 0, locals := 22 }) (uP D classes [] [] sz [.int x, .int y, .int z]) (uQ D classes (fun u : Int32 => some (.int u)) (fun u => u = (sl m_E_two) x y z) (va_A [] sz) (fun _ => []) (fun u => [])) 0 0 (va_A [] sz) := by
  rw [sl_eq m_E_two]
  refine uBegin (by decide +kernel) (Nat.le_of_ble_eq_true rfl) ?_
  intro p e s m below meth c A ls H locs hx hb hr hts hown hlocks hml hin hA hP hK hD hN hS hl
  have hl : lv_has ls 5 [(0, .int x), (1, .int y), (2, .int z)] := hl
  refine lv_bipush (v := 8) hx hb d_PatternBook_Declet_readTwoLarge_0 (by decide) ?_
  refine lv_iload_n hx hb d_PatternBook_Declet_readTwoLarge_2 rfl (lv_at hl 0 rfl) ?_
  refine lv_iconst (v := 1) hx hb d_PatternBook_Declet_readTwoLarge_3 (by decide) ?_
  refine lv_iand hx hb d_PatternBook_Declet_readTwoLarge_4 ?_
  refine lv_iadd hx hb d_PatternBook_Declet_readTwoLarge_5 ?_
  refine lv_istore_n (lv' := [(3, .int ((8:Int32) + (x &&& (1:Int32)))), (0, .int x), (1, .int y), (2, .int z)]) hx hb d_PatternBook_Declet_readTwoLarge_6 rfl hl (by decide) rfl (fun ls hl => ?_)
  refine lv_bipush (v := 8) hx hb d_PatternBook_Declet_readTwoLarge_7 (by decide) ?_
  refine lv_iload_n hx hb d_PatternBook_Declet_readTwoLarge_9 rfl (lv_at hl 2 rfl) ?_
  refine lv_iconst (v := 1) hx hb d_PatternBook_Declet_readTwoLarge_10 (by decide) ?_
  refine lv_iand hx hb d_PatternBook_Declet_readTwoLarge_11 ?_
  refine lv_iadd hx hb d_PatternBook_Declet_readTwoLarge_12 ?_
  refine lv_istore (lv' := [(4, .int ((8:Int32) + (y &&& (1:Int32)))), (3, .int ((8:Int32) + (x &&& (1:Int32)))), (0, .int x), (1, .int y), (2, .int z)]) hx hb d_PatternBook_Declet_readTwoLarge_13 hl (by decide) rfl (fun ls hl => ?_)
  refine lv_iload_n hx hb d_PatternBook_Declet_readTwoLarge_15 rfl (lv_at hl 3 rfl) ?_
  refine lv_iconst (v := 1) hx hb d_PatternBook_Declet_readTwoLarge_16 (by decide) ?_
  refine lv_ishr hx hb d_PatternBook_Declet_readTwoLarge_17 ?_
  by_cases c_1 : (y >>> ((1:Int32) &&& 31)) = (0:Int32)
  · refine lv_tableIn (off := 26) (tgt := 44) hx hb d_PatternBook_Declet_readTwoLarge_18 (by rw [c_1]; decide) (by rw [c_1]; decide) (by rw [c_1]; rfl) (by decide) ?_
    refine lv_iload_n hx hb d_PatternBook_Declet_readTwoLarge_44 rfl (lv_at hl 1 rfl) ?_
    refine lv_iload hx hb d_PatternBook_Declet_readTwoLarge_45 (lv_at hl 0 rfl) ?_
    refine lv_iload_n hx hb d_PatternBook_Declet_readTwoLarge_47 rfl (lv_at hl 2 rfl) ?_
    refine lv_bipush (v := 6) hx hb d_PatternBook_Declet_readTwoLarge_48 (by decide) ?_
    refine lv_iand hx hb d_PatternBook_Declet_readTwoLarge_50 ?_
    refine lv_iload_n hx hb d_PatternBook_Declet_readTwoLarge_51 rfl (lv_at hl 4 rfl) ?_
    refine lv_iadd hx hb d_PatternBook_Declet_readTwoLarge_52 ?_
    refine uCall (WR := []) (RT := []) (va_runS (As := [.int ((8:Int32) + (x &&& (1:Int32))), .int ((8:Int32) + (y &&& (1:Int32))), .int ((x &&& (6:Int32)) + z)]) (rest := []) ⟨hx, hb, hml, hown, hts⟩ (c_E_join l D H.size ((8:Int32) + (x &&& (1:Int32))) ((8:Int32) + (y &&& (1:Int32))) ((x &&& (6:Int32)) + z)) ⟨uCB 3 hts k_34 k_35 k_36 (by decide +kernel) rfl rfl ⟨Nat.le_of_ble_eq_true rfl, Nat.le_of_ble_eq_true rfl⟩, hts _ k_37⟩ (uPreS hK hP hD hN [] rfl (by decide) [] rfl) rfl rfl hl.1 rfl (lv_room (Nat.le_of_ble_eq_true rfl)) d_PatternBook_Declet_readTwoLarge_53 ⟨(Nat.le_of_ble_eq_true rfl), (Nat.le_of_ble_eq_true rfl)⟩) hK hP hD hS hA [] [] rfl rfl (by decide) (by decide) [] rfl (fun u2 H locs hu2 hP hD hK hS => ?_)
    have hP : va_P D classes [] H := hP
    have hD : va_D A [] := hD
    have hK : va_K D classes [] s := hK
    refine W.eq (g2 := F0 m 56 ls [.int u2]) rfl ?_
    refine W.iret hx hb hr ?_ hS.2.2 d_PatternBook_Declet_readTwoLarge_56
    exact uEnd u2 (hP.sub [] rfl) (hK.sub [] rfl) (hD.sub [] (by decide) rfl) hS (by have eu2 := hu2.symm; subst eu2; exact ((if_pos c_1).trans (rfl)).symm) rfl
  · by_cases c_3 : (y >>> ((1:Int32) &&& 31)) = (1:Int32)
    · refine lv_tableIn (off := 39) (tgt := 57) hx hb d_PatternBook_Declet_readTwoLarge_18 (by rw [c_3]; decide) (by rw [c_3]; decide) (by rw [c_3]; rfl) (by decide) ?_
      refine lv_iload_n hx hb d_PatternBook_Declet_readTwoLarge_57 rfl (lv_at hl 1 rfl) ?_
      refine lv_iload_n hx hb d_PatternBook_Declet_readTwoLarge_58 rfl (lv_at hl 2 rfl) ?_
      refine lv_bipush (v := 6) hx hb d_PatternBook_Declet_readTwoLarge_59 (by decide) ?_
      refine lv_iand hx hb d_PatternBook_Declet_readTwoLarge_61 ?_
      refine lv_iload_n hx hb d_PatternBook_Declet_readTwoLarge_62 rfl (lv_at hl 3 rfl) ?_
      refine lv_iconst (v := 1) hx hb d_PatternBook_Declet_readTwoLarge_63 (by decide) ?_
      refine lv_iand hx hb d_PatternBook_Declet_readTwoLarge_64 ?_
      refine lv_iadd hx hb d_PatternBook_Declet_readTwoLarge_65 ?_
      refine lv_bipush (v := 8) hx hb d_PatternBook_Declet_readTwoLarge_66 (by decide) ?_
      refine lv_iload_n hx hb d_PatternBook_Declet_readTwoLarge_68 rfl (lv_at hl 4 rfl) ?_
      refine lv_iadd hx hb d_PatternBook_Declet_readTwoLarge_69 ?_
      refine uCall (WR := []) (RT := []) (va_runS (As := [.int ((8:Int32) + (x &&& (1:Int32))), .int ((x &&& (6:Int32)) + (y &&& (1:Int32))), .int ((8:Int32) + z)]) (rest := []) ⟨hx, hb, hml, hown, hts⟩ (c_E_join l D H.size ((8:Int32) + (x &&& (1:Int32))) ((x &&& (6:Int32)) + (y &&& (1:Int32))) ((8:Int32) + z)) ⟨uCB 3 hts k_34 k_35 k_36 (by decide +kernel) rfl rfl ⟨Nat.le_of_ble_eq_true rfl, Nat.le_of_ble_eq_true rfl⟩, hts _ k_37⟩ (uPreS hK hP hD hN [] rfl (by decide) [] rfl) rfl rfl hl.1 rfl (lv_room (Nat.le_of_ble_eq_true rfl)) d_PatternBook_Declet_readTwoLarge_70 ⟨(Nat.le_of_ble_eq_true rfl), (Nat.le_of_ble_eq_true rfl)⟩) hK hP hD hS hA [] [] rfl rfl (by decide) (by decide) [] rfl (fun u4 H locs hu4 hP hD hK hS => ?_)
      have hP : va_P D classes [] H := hP
      have hD : va_D A [] := hD
      have hK : va_K D classes [] s := hK
      refine W.eq (g2 := F0 m 73 ls [.int u4]) rfl ?_
      refine W.iret hx hb hr ?_ hS.2.2 d_PatternBook_Declet_readTwoLarge_73
      exact uEnd u4 (hP.sub [] rfl) (hK.sub [] rfl) (hD.sub [] (by decide) rfl) hS (by have eu4 := hu4.symm; subst eu4; exact ((if_neg c_1).trans ((if_pos c_3).trans (rfl))).symm) rfl
    · by_cases c_5 : (y >>> ((1:Int32) &&& 31)) = (2:Int32)
      · refine lv_tableIn (off := 56) (tgt := 74) hx hb d_PatternBook_Declet_readTwoLarge_18 (by rw [c_5]; decide) (by rw [c_5]; decide) (by rw [c_5]; rfl) (by decide) ?_
        refine lv_iload_n hx hb d_PatternBook_Declet_readTwoLarge_74 rfl (lv_at hl 2 rfl) ?_
        refine lv_iload hx hb d_PatternBook_Declet_readTwoLarge_75 (lv_at hl 0 rfl) ?_
        refine lv_bipush (v := 8) hx hb d_PatternBook_Declet_readTwoLarge_77 (by decide) ?_
        refine lv_iload_n hx hb d_PatternBook_Declet_readTwoLarge_79 rfl (lv_at hl 4 rfl) ?_
        refine lv_iadd hx hb d_PatternBook_Declet_readTwoLarge_80 ?_
        refine uCall (WR := []) (RT := []) (va_runS (As := [.int x, .int ((8:Int32) + (y &&& (1:Int32))), .int ((8:Int32) + z)]) (rest := []) ⟨hx, hb, hml, hown, hts⟩ (c_E_join l D H.size x ((8:Int32) + (y &&& (1:Int32))) ((8:Int32) + z)) ⟨uCB 3 hts k_34 k_35 k_36 (by decide +kernel) rfl rfl ⟨Nat.le_of_ble_eq_true rfl, Nat.le_of_ble_eq_true rfl⟩, hts _ k_37⟩ (uPreS hK hP hD hN [] rfl (by decide) [] rfl) rfl rfl hl.1 rfl (lv_room (Nat.le_of_ble_eq_true rfl)) d_PatternBook_Declet_readTwoLarge_81 ⟨(Nat.le_of_ble_eq_true rfl), (Nat.le_of_ble_eq_true rfl)⟩) hK hP hD hS hA [] [] rfl rfl (by decide) (by decide) [] rfl (fun u6 H locs hu6 hP hD hK hS => ?_)
        have hP : va_P D classes [] H := hP
        have hD : va_D A [] := hD
        have hK : va_K D classes [] s := hK
        refine W.eq (g2 := F0 m 84 ls [.int u6]) rfl ?_
        refine W.iret hx hb hr ?_ hS.2.2 d_PatternBook_Declet_readTwoLarge_84
        exact uEnd u6 (hP.sub [] rfl) (hK.sub [] rfl) (hD.sub [] (by decide) rfl) hS (by have eu6 := hu6.symm; subst eu6; exact ((if_neg c_1).trans ((if_neg c_3).trans ((if_pos c_5).trans (rfl)))).symm) rfl
      · refine lv_tableOut (tgt := 85) hx hb d_PatternBook_Declet_readTwoLarge_18 (by have z0 := lv_neT c_1 (show (0:Int32).toInt = 0 by decide); have z1 := lv_neT c_3 (show (1:Int32).toInt = 1 by decide); have z2 := lv_neT c_5 (show (2:Int32).toInt = 2 by decide); omega) (by decide) ?_
        refine lv_iload_n hx hb d_PatternBook_Declet_readTwoLarge_85 rfl (lv_at hl 1 rfl) ?_
        refine lv_iload hx hb d_PatternBook_Declet_readTwoLarge_86 (lv_at hl 0 rfl) ?_
        refine lv_bipush (v := 8) hx hb d_PatternBook_Declet_readTwoLarge_88 (by decide) ?_
        refine lv_iload_n hx hb d_PatternBook_Declet_readTwoLarge_90 rfl (lv_at hl 4 rfl) ?_
        refine lv_iadd hx hb d_PatternBook_Declet_readTwoLarge_91 ?_
        refine uCall (WR := []) (RT := []) (va_runS (As := [.int ((8:Int32) + (x &&& (1:Int32))), .int ((8:Int32) + (y &&& (1:Int32))), .int ((8:Int32) + z)]) (rest := []) ⟨hx, hb, hml, hown, hts⟩ (c_E_join l D H.size ((8:Int32) + (x &&& (1:Int32))) ((8:Int32) + (y &&& (1:Int32))) ((8:Int32) + z)) ⟨uCB 3 hts k_34 k_35 k_36 (by decide +kernel) rfl rfl ⟨Nat.le_of_ble_eq_true rfl, Nat.le_of_ble_eq_true rfl⟩, hts _ k_37⟩ (uPreS hK hP hD hN [] rfl (by decide) [] rfl) rfl rfl hl.1 rfl (lv_room (Nat.le_of_ble_eq_true rfl)) d_PatternBook_Declet_readTwoLarge_92 ⟨(Nat.le_of_ble_eq_true rfl), (Nat.le_of_ble_eq_true rfl)⟩) hK hP hD hS hA [] [] rfl rfl (by decide) (by decide) [] rfl (fun u7 H locs hu7 hP hD hK hS => ?_)
        have hP : va_P D classes [] H := hP
        have hD : va_D A [] := hD
        have hK : va_K D classes [] s := hK
        refine W.eq (g2 := F0 m 95 ls [.int u7]) rfl ?_
        refine W.iret hx hb hr ?_ hS.2.2 d_PatternBook_Declet_readTwoLarge_95
        exact uEnd u7 (hP.sub [] rfl) (hK.sub [] rfl) (hD.sub [] (by decide) rfl) hS (by have eu7 := hu7.symm; subst eu7; exact ((if_neg c_1).trans ((if_neg c_3).trans ((if_neg c_5).trans (rfl)))).symm) rfl
set_option maxHeartbeats 4000000 in
set_option maxRecDepth 100000 in
/-- PatternBook$Declet.read(I)I -/
theorem c_E_read (l : Launch) (D : va_G)  (sz : Nat) (x : Int32) : Met l y_PatternBook_Declet_read (wsOf y_PatternBook_Declet_read b_PatternBook_Declet_read 5 (some .int)) ({ frames := 2, cells := 0, slots := 0, locals := 46 }) (uP D classes [] [] sz [.int x]) (uQ D classes (fun u : Int32 => some (.int u)) (fun u => u = (sl m_E_read) x) (va_A [] sz) (fun _ => []) (fun u => [])) 0 0 (va_A [] sz) := by
  rw [sl_eq m_E_read]
  refine uBegin (by decide +kernel) (Nat.le_of_ble_eq_true rfl) ?_
  intro p e s m below meth c A ls H locs hx hb hr hts hown hlocks hml hin hA hP hK hD hN hS hl
  have hl : lv_has ls 5 [(0, .int x)] := hl
  refine lv_iload_n hx hb d_PatternBook_Declet_read_0 rfl (lv_at hl 0 rfl) ?_
  refine lv_bipush (v := 7) hx hb d_PatternBook_Declet_read_1 (by decide) ?_
  refine lv_ishr hx hb d_PatternBook_Declet_read_3 ?_
  refine lv_bipush (v := 7) hx hb d_PatternBook_Declet_read_4 (by decide) ?_
  refine lv_iand hx hb d_PatternBook_Declet_read_6 ?_
  refine lv_istore_n (lv' := [(1, .int ((x >>> ((7:Int32) &&& 31)) &&& (7:Int32))), (0, .int x)]) hx hb d_PatternBook_Declet_read_7 rfl hl (by decide) rfl (fun ls hl => ?_)
  refine lv_iload_n hx hb d_PatternBook_Declet_read_8 rfl (lv_at hl 1 rfl) ?_
  refine lv_iconst (v := 4) hx hb d_PatternBook_Declet_read_9 (by decide) ?_
  refine lv_ishr hx hb d_PatternBook_Declet_read_10 ?_
  refine lv_bipush (v := 7) hx hb d_PatternBook_Declet_read_11 (by decide) ?_
  refine lv_iand hx hb d_PatternBook_Declet_read_13 ?_
  refine lv_istore_n (lv' := [(2, .int ((x >>> ((4:Int32) &&& 31)) &&& (7:Int32))), (1, .int ((x >>> ((7:Int32) &&& 31)) &&& (7:Int32))), (0, .int x)]) hx hb d_PatternBook_Declet_read_14 rfl hl (by decide) rfl (fun ls hl => ?_)
  refine lv_iload_n hx hb d_PatternBook_Declet_read_15 rfl (lv_at hl 2 rfl) ?_
  refine lv_bipush (v := 7) hx hb d_PatternBook_Declet_read_16 (by decide) ?_
  refine lv_iand hx hb d_PatternBook_Declet_read_18 ?_
  refine lv_istore_n (lv' := [(3, .int (x &&& (7:Int32))), (2, .int ((x >>> ((4:Int32) &&& 31)) &&& (7:Int32))), (1, .int ((x >>> ((7:Int32) &&& 31)) &&& (7:Int32))), (0, .int x)]) hx hb d_PatternBook_Declet_read_19 rfl hl (by decide) rfl (fun ls hl => ?_)
  refine lv_iload_n hx hb d_PatternBook_Declet_read_20 rfl (lv_at hl 3 rfl) ?_
  refine lv_bipush (v := 8) hx hb d_PatternBook_Declet_read_21 (by decide) ?_
  refine lv_iand hx hb d_PatternBook_Declet_read_23 ?_
  refine lv_if_ne (tgt := 34) hx hb d_PatternBook_Declet_read_24 (by decide) (fun c_1 => ?_) (fun c_1 => ?_)
  · refine lv_iload_n hx hb d_PatternBook_Declet_read_34 rfl (lv_at hl 0 rfl) ?_
    refine lv_iconst (v := 1) hx hb d_PatternBook_Declet_read_35 (by decide) ?_
    refine lv_iand hx hb d_PatternBook_Declet_read_36 ?_
    refine lv_istore (lv' := [(4, .int ((x &&& (7:Int32)) &&& (1:Int32))), (3, .int (x &&& (7:Int32))), (2, .int ((x >>> ((4:Int32) &&& 31)) &&& (7:Int32))), (1, .int ((x >>> ((7:Int32) &&& 31)) &&& (7:Int32))), (0, .int x)]) hx hb d_PatternBook_Declet_read_37 hl (by decide) rfl (fun ls hl => ?_)
    refine lv_iload_n hx hb d_PatternBook_Declet_read_39 rfl (lv_at hl 1 rfl) ?_
    refine lv_iconst (v := 1) hx hb d_PatternBook_Declet_read_40 (by decide) ?_
    refine lv_ishr hx hb d_PatternBook_Declet_read_41 ?_
    by_cases c_2 : ((x &&& (7:Int32)) >>> ((1:Int32) &&& 31)) = (0:Int32)
    · refine lv_tableIn (off := 26) (tgt := 68) hx hb d_PatternBook_Declet_read_42 (by rw [c_2]; decide) (by rw [c_2]; decide) (by rw [c_2]; rfl) (by decide) ?_
      refine lv_iload_n hx hb d_PatternBook_Declet_read_68 rfl (lv_at hl 3 rfl) ?_
      refine lv_iload_n hx hb d_PatternBook_Declet_read_69 rfl (lv_at hl 2 rfl) ?_
      refine lv_bipush (v := 8) hx hb d_PatternBook_Declet_read_70 (by decide) ?_
      refine lv_iload hx hb d_PatternBook_Declet_read_72 (lv_at hl 0 rfl) ?_
      refine lv_iadd hx hb d_PatternBook_Declet_read_74 ?_
      refine uCall (WR := []) (RT := []) (va_runS (As := [.int ((x >>> ((7:Int32) &&& 31)) &&& (7:Int32)), .int ((x >>> ((4:Int32) &&& 31)) &&& (7:Int32)), .int ((8:Int32) + ((x &&& (7:Int32)) &&& (1:Int32)))]) (rest := []) ⟨hx, hb, hml, hown, hts⟩ (c_E_join l D H.size ((x >>> ((7:Int32) &&& 31)) &&& (7:Int32)) ((x >>> ((4:Int32) &&& 31)) &&& (7:Int32)) ((8:Int32) + ((x &&& (7:Int32)) &&& (1:Int32)))) ⟨uCB 3 hts k_34 k_35 k_36 (by decide +kernel) rfl rfl ⟨Nat.le_of_ble_eq_true rfl, Nat.le_of_ble_eq_true rfl⟩, hts _ k_37⟩ (uPreS hK hP hD hN [] rfl (by decide) [] rfl) rfl rfl hl.1 rfl (lv_room (Nat.le_of_ble_eq_true rfl)) d_PatternBook_Declet_read_75 ⟨(Nat.le_of_ble_eq_true rfl), (Nat.le_of_ble_eq_true rfl)⟩) hK hP hD hS hA [] [] rfl rfl (by decide) (by decide) [] rfl (fun u3 H locs hu3 hP hD hK hS => ?_)
      have hP : va_P D classes [] H := hP
      have hD : va_D A [] := hD
      have hK : va_K D classes [] s := hK
      refine W.eq (g2 := F0 m 78 ls [.int u3]) rfl ?_
      refine W.iret hx hb hr ?_ hS.2.2 d_PatternBook_Declet_read_78
      exact uEnd u3 (hP.sub [] rfl) (hK.sub [] rfl) (hD.sub [] (by decide) rfl) hS (by have eu3 := hu3.symm; subst eu3; exact ((if_neg c_1).trans ((if_pos c_2).trans (rfl))).symm) rfl
    · by_cases c_4 : ((x &&& (7:Int32)) >>> ((1:Int32) &&& 31)) = (1:Int32)
      · refine lv_tableIn (off := 37) (tgt := 79) hx hb d_PatternBook_Declet_read_42 (by rw [c_4]; decide) (by rw [c_4]; decide) (by rw [c_4]; rfl) (by decide) ?_
        refine lv_iload_n hx hb d_PatternBook_Declet_read_79 rfl (lv_at hl 3 rfl) ?_
        refine lv_bipush (v := 8) hx hb d_PatternBook_Declet_read_80 (by decide) ?_
        refine lv_iload_n hx hb d_PatternBook_Declet_read_82 rfl (lv_at hl 2 rfl) ?_
        refine lv_iconst (v := 1) hx hb d_PatternBook_Declet_read_83 (by decide) ?_
        refine lv_iand hx hb d_PatternBook_Declet_read_84 ?_
        refine lv_iadd hx hb d_PatternBook_Declet_read_85 ?_
        refine lv_iload_n hx hb d_PatternBook_Declet_read_86 rfl (lv_at hl 2 rfl) ?_
        refine lv_bipush (v := 6) hx hb d_PatternBook_Declet_read_87 (by decide) ?_
        refine lv_iand hx hb d_PatternBook_Declet_read_89 ?_
        refine lv_iload hx hb d_PatternBook_Declet_read_90 (lv_at hl 0 rfl) ?_
        refine lv_iadd hx hb d_PatternBook_Declet_read_92 ?_
        refine uCall (WR := []) (RT := []) (va_runS (As := [.int ((x >>> ((7:Int32) &&& 31)) &&& (7:Int32)), .int ((8:Int32) + (((x >>> ((4:Int32) &&& 31)) &&& (7:Int32)) &&& (1:Int32))), .int ((((x >>> ((4:Int32) &&& 31)) &&& (7:Int32)) &&& (6:Int32)) + ((x &&& (7:Int32)) &&& (1:Int32)))]) (rest := []) ⟨hx, hb, hml, hown, hts⟩ (c_E_join l D H.size ((x >>> ((7:Int32) &&& 31)) &&& (7:Int32)) ((8:Int32) + (((x >>> ((4:Int32) &&& 31)) &&& (7:Int32)) &&& (1:Int32))) ((((x >>> ((4:Int32) &&& 31)) &&& (7:Int32)) &&& (6:Int32)) + ((x &&& (7:Int32)) &&& (1:Int32)))) ⟨uCB 3 hts k_34 k_35 k_36 (by decide +kernel) rfl rfl ⟨Nat.le_of_ble_eq_true rfl, Nat.le_of_ble_eq_true rfl⟩, hts _ k_37⟩ (uPreS hK hP hD hN [] rfl (by decide) [] rfl) rfl rfl hl.1 rfl (lv_room (Nat.le_of_ble_eq_true rfl)) d_PatternBook_Declet_read_93 ⟨(Nat.le_of_ble_eq_true rfl), (Nat.le_of_ble_eq_true rfl)⟩) hK hP hD hS hA [] [] rfl rfl (by decide) (by decide) [] rfl (fun u5 H locs hu5 hP hD hK hS => ?_)
        have hP : va_P D classes [] H := hP
        have hD : va_D A [] := hD
        have hK : va_K D classes [] s := hK
        refine W.eq (g2 := F0 m 96 ls [.int u5]) rfl ?_
        refine W.iret hx hb hr ?_ hS.2.2 d_PatternBook_Declet_read_96
        exact uEnd u5 (hP.sub [] rfl) (hK.sub [] rfl) (hD.sub [] (by decide) rfl) hS (by have eu5 := hu5.symm; subst eu5; exact ((if_neg c_1).trans ((if_neg c_2).trans ((if_pos c_4).trans (rfl)))).symm) rfl
      · by_cases c_6 : ((x &&& (7:Int32)) >>> ((1:Int32) &&& 31)) = (2:Int32)
        · refine lv_tableIn (off := 55) (tgt := 97) hx hb d_PatternBook_Declet_read_42 (by rw [c_6]; decide) (by rw [c_6]; decide) (by rw [c_6]; rfl) (by decide) ?_
          refine lv_bipush (v := 8) hx hb d_PatternBook_Declet_read_97 (by decide) ?_
          refine lv_iload_n hx hb d_PatternBook_Declet_read_99 rfl (lv_at hl 3 rfl) ?_
          refine lv_iconst (v := 1) hx hb d_PatternBook_Declet_read_100 (by decide) ?_
          refine lv_iand hx hb d_PatternBook_Declet_read_101 ?_
          refine lv_iadd hx hb d_PatternBook_Declet_read_102 ?_
          refine lv_iload_n hx hb d_PatternBook_Declet_read_103 rfl (lv_at hl 2 rfl) ?_
          refine lv_iload_n hx hb d_PatternBook_Declet_read_104 rfl (lv_at hl 3 rfl) ?_
          refine lv_bipush (v := 6) hx hb d_PatternBook_Declet_read_105 (by decide) ?_
          refine lv_iand hx hb d_PatternBook_Declet_read_107 ?_
          refine lv_iload hx hb d_PatternBook_Declet_read_108 (lv_at hl 0 rfl) ?_
          refine lv_iadd hx hb d_PatternBook_Declet_read_110 ?_
          refine uCall (WR := []) (RT := []) (va_runS (As := [.int ((8:Int32) + (((x >>> ((7:Int32) &&& 31)) &&& (7:Int32)) &&& (1:Int32))), .int ((x >>> ((4:Int32) &&& 31)) &&& (7:Int32)), .int ((((x >>> ((7:Int32) &&& 31)) &&& (7:Int32)) &&& (6:Int32)) + ((x &&& (7:Int32)) &&& (1:Int32)))]) (rest := []) ⟨hx, hb, hml, hown, hts⟩ (c_E_join l D H.size ((8:Int32) + (((x >>> ((7:Int32) &&& 31)) &&& (7:Int32)) &&& (1:Int32))) ((x >>> ((4:Int32) &&& 31)) &&& (7:Int32)) ((((x >>> ((7:Int32) &&& 31)) &&& (7:Int32)) &&& (6:Int32)) + ((x &&& (7:Int32)) &&& (1:Int32)))) ⟨uCB 3 hts k_34 k_35 k_36 (by decide +kernel) rfl rfl ⟨Nat.le_of_ble_eq_true rfl, Nat.le_of_ble_eq_true rfl⟩, hts _ k_37⟩ (uPreS hK hP hD hN [] rfl (by decide) [] rfl) rfl rfl hl.1 rfl (lv_room (Nat.le_of_ble_eq_true rfl)) d_PatternBook_Declet_read_111 ⟨(Nat.le_of_ble_eq_true rfl), (Nat.le_of_ble_eq_true rfl)⟩) hK hP hD hS hA [] [] rfl rfl (by decide) (by decide) [] rfl (fun u7 H locs hu7 hP hD hK hS => ?_)
          have hP : va_P D classes [] H := hP
          have hD : va_D A [] := hD
          have hK : va_K D classes [] s := hK
          refine W.eq (g2 := F0 m 114 ls [.int u7]) rfl ?_
          refine W.iret hx hb hr ?_ hS.2.2 d_PatternBook_Declet_read_114
          exact uEnd u7 (hP.sub [] rfl) (hK.sub [] rfl) (hD.sub [] (by decide) rfl) hS (by have eu7 := hu7.symm; subst eu7; exact ((if_neg c_1).trans ((if_neg c_2).trans ((if_neg c_4).trans ((if_pos c_6).trans (rfl))))).symm) rfl
        · refine lv_tableOut (tgt := 115) hx hb d_PatternBook_Declet_read_42 (by have z0 := lv_neT c_2 (show (0:Int32).toInt = 0 by decide); have z1 := lv_neT c_4 (show (1:Int32).toInt = 1 by decide); have z2 := lv_neT c_6 (show (2:Int32).toInt = 2 by decide); omega) (by decide) ?_
          refine lv_iload_n hx hb d_PatternBook_Declet_read_115 rfl (lv_at hl 3 rfl) ?_
          refine lv_iload_n hx hb d_PatternBook_Declet_read_116 rfl (lv_at hl 2 rfl) ?_
          refine lv_iload hx hb d_PatternBook_Declet_read_117 (lv_at hl 0 rfl) ?_
          refine uCall (WR := []) (RT := []) (va_runS (As := [.int ((x >>> ((7:Int32) &&& 31)) &&& (7:Int32)), .int ((x >>> ((4:Int32) &&& 31)) &&& (7:Int32)), .int ((x &&& (7:Int32)) &&& (1:Int32))]) (rest := []) ⟨hx, hb, hml, hown, hts⟩ (c_E_two l D H.size ((x >>> ((7:Int32) &&& 31)) &&& (7:Int32)) ((x >>> ((4:Int32) &&& 31)) &&& (7:Int32)) ((x &&& (7:Int32)) &&& (1:Int32))) ⟨uCB 3 hts k_38 k_35 k_39 (by decide +kernel) rfl rfl ⟨Nat.le_of_ble_eq_true rfl, Nat.le_of_ble_eq_true rfl⟩, hts _ k_40⟩ (uPreS hK hP hD hN [] rfl (by decide) [] rfl) rfl rfl hl.1 rfl (lv_room (Nat.le_of_ble_eq_true rfl)) d_PatternBook_Declet_read_119 ⟨(Nat.le_of_ble_eq_true rfl), (Nat.le_of_ble_eq_true rfl)⟩) hK hP hD hS hA [] [] rfl rfl (by decide) (by decide) [] rfl (fun u8 H locs hu8 hP hD hK hS => ?_)
          have hP : va_P D classes [] H := hP
          have hD : va_D A [] := hD
          have hK : va_K D classes [] s := hK
          refine W.eq (g2 := F0 m 122 ls [.int u8]) rfl ?_
          refine W.iret hx hb hr ?_ hS.2.2 d_PatternBook_Declet_read_122
          exact uEnd u8 (hP.sub [] rfl) (hK.sub [] rfl) (hD.sub [] (by decide) rfl) hS (by have eu8 := hu8.symm; subst eu8; exact ((if_neg c_1).trans ((if_neg c_2).trans ((if_neg c_4).trans ((if_neg c_6).trans (rfl))))).symm) rfl
  · refine lv_iload_n hx hb d_PatternBook_Declet_read_27 rfl (lv_at hl 2 rfl) ?_
    refine lv_iload_n hx hb d_PatternBook_Declet_read_28 rfl (lv_at hl 1 rfl) ?_
    refine lv_iload_n hx hb d_PatternBook_Declet_read_29 rfl (lv_at hl 0 rfl) ?_
    refine uCall (WR := []) (RT := []) (va_runS (As := [.int ((x >>> ((7:Int32) &&& 31)) &&& (7:Int32)), .int ((x >>> ((4:Int32) &&& 31)) &&& (7:Int32)), .int (x &&& (7:Int32))]) (rest := []) ⟨hx, hb, hml, hown, hts⟩ (c_E_join l D H.size ((x >>> ((7:Int32) &&& 31)) &&& (7:Int32)) ((x >>> ((4:Int32) &&& 31)) &&& (7:Int32)) (x &&& (7:Int32))) ⟨uCB 3 hts k_34 k_35 k_36 (by decide +kernel) rfl rfl ⟨Nat.le_of_ble_eq_true rfl, Nat.le_of_ble_eq_true rfl⟩, hts _ k_37⟩ (uPreS hK hP hD hN [] rfl (by decide) [] rfl) rfl rfl hl.1 rfl (lv_room (Nat.le_of_ble_eq_true rfl)) d_PatternBook_Declet_read_30 ⟨(Nat.le_of_ble_eq_true rfl), (Nat.le_of_ble_eq_true rfl)⟩) hK hP hD hS hA [] [] rfl rfl (by decide) (by decide) [] rfl (fun u9 H locs hu9 hP hD hK hS => ?_)
    have hP : va_P D classes [] H := hP
    have hD : va_D A [] := hD
    have hK : va_K D classes [] s := hK
    refine W.eq (g2 := F0 m 33 ls [.int u9]) rfl ?_
    refine W.iret hx hb hr ?_ hS.2.2 d_PatternBook_Declet_read_33
    exact uEnd u9 (hP.sub [] rfl) (hK.sub [] rfl) (hD.sub [] (by decide) rfl) hS (by have eu9 := hu9.symm; subst eu9; exact ((if_pos c_1).trans (rfl)).symm) rfl
set_option maxHeartbeats 4000000 in
set_option maxRecDepth 100000 in
/-- PatternBook$Declet.write(I)I -/
theorem c_E_write (l : Launch) (D : va_G)  (sz : Nat) (x : Int32) : Met l y_PatternBook_Declet_write (wsOf y_PatternBook_Declet_write b_PatternBook_Declet_write 7 (some .int)) ({ frames := 1, cells := 0, slots := 0, locals := 22 }) (uP D classes [] [] sz [.int x]) (uQ D classes (fun u : Int32 => some (.int u)) (fun u => u = (sl m_E_write) x) (va_A [] sz) (fun _ => []) (fun u => [])) 0 0 (va_A [] sz) := by
  rw [sl_eq m_E_write]
  refine uBegin (by decide +kernel) (Nat.le_of_ble_eq_true rfl) ?_
  intro p e s m below meth c A ls H locs hx hb hr hts hown hlocks hml hin hA hP hK hD hN hS hl
  have hl : lv_has ls 7 [(0, .int x)] := hl
  refine lv_iload_n hx hb d_PatternBook_Declet_write_0 rfl (lv_at hl 0 rfl) ?_
  refine lv_bipush (v := 100) hx hb d_PatternBook_Declet_write_1 (by decide) ?_
  refine lv_idiv hx hb d_PatternBook_Declet_write_3 (by decide) ?_
  refine lv_istore_n (lv' := [(1, .int (x / (100:Int32))), (0, .int x)]) hx hb d_PatternBook_Declet_write_4 rfl hl (by decide) rfl (fun ls hl => ?_)
  refine lv_iload_n hx hb d_PatternBook_Declet_write_5 rfl (lv_at hl 1 rfl) ?_
  refine lv_bipush (v := 10) hx hb d_PatternBook_Declet_write_6 (by decide) ?_
  refine lv_idiv hx hb d_PatternBook_Declet_write_8 (by decide) ?_
  refine lv_bipush (v := 10) hx hb d_PatternBook_Declet_write_9 (by decide) ?_
  refine lv_irem hx hb d_PatternBook_Declet_write_11 (by decide) ?_
  refine lv_istore_n (lv' := [(2, .int ((x / (10:Int32)) - (x / (10:Int32)) / (10:Int32) * (10:Int32))), (1, .int (x / (100:Int32))), (0, .int x)]) hx hb d_PatternBook_Declet_write_12 rfl hl (by decide) rfl (fun ls hl => ?_)
  refine lv_iload_n hx hb d_PatternBook_Declet_write_13 rfl (lv_at hl 2 rfl) ?_
  refine lv_bipush (v := 10) hx hb d_PatternBook_Declet_write_14 (by decide) ?_
  refine lv_irem hx hb d_PatternBook_Declet_write_16 (by decide) ?_
  refine lv_istore_n (lv' := [(3, .int (x - x / (10:Int32) * (10:Int32))), (2, .int ((x / (10:Int32)) - (x / (10:Int32)) / (10:Int32) * (10:Int32))), (1, .int (x / (100:Int32))), (0, .int x)]) hx hb d_PatternBook_Declet_write_17 rfl hl (by decide) rfl (fun ls hl => ?_)
  refine lv_iload_n hx hb d_PatternBook_Declet_write_18 rfl (lv_at hl 2 rfl) ?_
  refine lv_iconst (v := 1) hx hb d_PatternBook_Declet_write_19 (by decide) ?_
  refine lv_iand hx hb d_PatternBook_Declet_write_20 ?_
  refine lv_istore (lv' := [(4, .int ((x / (100:Int32)) &&& (1:Int32))), (3, .int (x - x / (10:Int32) * (10:Int32))), (2, .int ((x / (10:Int32)) - (x / (10:Int32)) / (10:Int32) * (10:Int32))), (1, .int (x / (100:Int32))), (0, .int x)]) hx hb d_PatternBook_Declet_write_21 hl (by decide) rfl (fun ls hl => ?_)
  refine lv_iload_n hx hb d_PatternBook_Declet_write_23 rfl (lv_at hl 2 rfl) ?_
  refine lv_iconst (v := 1) hx hb d_PatternBook_Declet_write_24 (by decide) ?_
  refine lv_iand hx hb d_PatternBook_Declet_write_25 ?_
  refine lv_topi (fun z1 hz1 => ?_)
  refine lv_istore (lv' := [(5, .int z1), (4, .int ((x / (100:Int32)) &&& (1:Int32))), (3, .int (x - x / (10:Int32) * (10:Int32))), (2, .int ((x / (10:Int32)) - (x / (10:Int32)) / (10:Int32) * (10:Int32))), (1, .int (x / (100:Int32))), (0, .int x)]) hx hb d_PatternBook_Declet_write_26 hl (by decide) rfl (fun ls hl => ?_)
  refine lv_iload_n hx hb d_PatternBook_Declet_write_28 rfl (lv_at hl 2 rfl) ?_
  refine lv_iconst (v := 1) hx hb d_PatternBook_Declet_write_29 (by decide) ?_
  refine lv_iand hx hb d_PatternBook_Declet_write_30 ?_
  refine lv_istore (lv' := [(6, .int ((x - x / (10:Int32) * (10:Int32)) &&& (1:Int32))), (5, .int z1), (4, .int ((x / (100:Int32)) &&& (1:Int32))), (3, .int (x - x / (10:Int32) * (10:Int32))), (2, .int ((x / (10:Int32)) - (x / (10:Int32)) / (10:Int32) * (10:Int32))), (1, .int (x / (100:Int32))), (0, .int x)]) hx hb d_PatternBook_Declet_write_31 hl (by decide) rfl (fun ls hl => ?_)
  refine lv_iload_n hx hb d_PatternBook_Declet_write_33 rfl (lv_at hl 5 rfl) ?_
  refine lv_bipush (v := 8) hx hb d_PatternBook_Declet_write_34 (by decide) ?_
  refine lv_iand hx hb d_PatternBook_Declet_write_36 ?_
  refine lv_iconst (v := 1) hx hb d_PatternBook_Declet_write_37 (by decide) ?_
  refine lv_ishr hx hb d_PatternBook_Declet_write_38 ?_
  refine lv_iload_n hx hb d_PatternBook_Declet_write_39 rfl (lv_at hl 4 rfl) ?_
  refine lv_bipush (v := 8) hx hb d_PatternBook_Declet_write_40 (by decide) ?_
  refine lv_iand hx hb d_PatternBook_Declet_write_42 ?_
  refine lv_iconst (v := 2) hx hb d_PatternBook_Declet_write_43 (by decide) ?_
  refine lv_ishr hx hb d_PatternBook_Declet_write_44 ?_
  refine lv_ior hx hb d_PatternBook_Declet_write_45 ?_
  refine lv_iload_n hx hb d_PatternBook_Declet_write_46 rfl (lv_at hl 3 rfl) ?_
  refine lv_bipush (v := 8) hx hb d_PatternBook_Declet_write_47 (by decide) ?_
  refine lv_iand hx hb d_PatternBook_Declet_write_49 ?_
  refine lv_iconst (v := 3) hx hb d_PatternBook_Declet_write_50 (by decide) ?_
  refine lv_ishr hx hb d_PatternBook_Declet_write_51 ?_
  refine lv_ior hx hb d_PatternBook_Declet_write_52 ?_
  by_cases c_2 : (((((x / (100:Int32)) &&& (8:Int32)) >>> ((1:Int32) &&& 31)) ||| ((((x / (10:Int32)) - (x / (10:Int32)) / (10:Int32) * (10:Int32)) &&& (8:Int32)) >>> ((2:Int32) &&& 31))) ||| (((x - x / (10:Int32) * (10:Int32)) &&& (8:Int32)) >>> ((3:Int32) &&& 31))) = (0:Int32)
  · refine lv_tableIn (off := 43) (tgt := 96) hx hb d_PatternBook_Declet_write_53 (by rw [c_2]; decide) (by rw [c_2]; decide) (by rw [c_2]; rfl) (by decide) ?_
    refine lv_iload_n hx hb d_PatternBook_Declet_write_96 rfl (lv_at hl 5 rfl) ?_
    refine lv_iload_n hx hb d_PatternBook_Declet_write_97 rfl (lv_at hl 4 rfl) ?_
    refine lv_iload_n hx hb d_PatternBook_Declet_write_98 rfl (lv_at hl 3 rfl) ?_
    refine uCall (WR := []) (RT := []) (va_runS (As := [.int (x / (100:Int32)), .int ((x / (10:Int32)) - (x / (10:Int32)) / (10:Int32) * (10:Int32)), .int (x - x / (10:Int32) * (10:Int32))]) (rest := []) ⟨hx, hb, hml, hown, hts⟩ (c_E_bits l D H.size (x / (100:Int32)) ((x / (10:Int32)) - (x / (10:Int32)) / (10:Int32) * (10:Int32)) (x - x / (10:Int32) * (10:Int32))) ⟨uCB 3 hts k_41 k_35 k_42 (by decide +kernel) rfl rfl ⟨Nat.le_of_ble_eq_true rfl, Nat.le_of_ble_eq_true rfl⟩, hts _ k_43⟩ (uPreS hK hP hD hN [] rfl (by decide) [] rfl) rfl rfl hl.1 rfl (lv_room (Nat.le_of_ble_eq_true rfl)) d_PatternBook_Declet_write_99 ⟨(Nat.le_of_ble_eq_true rfl), (Nat.le_of_ble_eq_true rfl)⟩) hK hP hD hS hA [] [] rfl rfl (by decide) (by decide) [] rfl (fun u3 H locs hu3 hP hD hK hS => ?_)
    have hP : va_P D classes [] H := hP
    have hD : va_D A [] := hD
    have hK : va_K D classes [] s := hK
    refine W.eq (g2 := F0 m 102 ls [.int u3]) rfl ?_
    refine W.iret hx hb hr ?_ hS.2.2 d_PatternBook_Declet_write_102
    exact uEnd u3 (hP.sub [] rfl) (hK.sub [] rfl) (hD.sub [] (by decide) rfl) hS (by have ez1 := hz1.symm; subst ez1; have eu3 := hu3.symm; subst eu3; exact ((if_pos c_2).trans (rfl)).symm) rfl
  · by_cases c_4 : (((((x / (100:Int32)) &&& (8:Int32)) >>> ((1:Int32) &&& 31)) ||| ((((x / (10:Int32)) - (x / (10:Int32)) / (10:Int32) * (10:Int32)) &&& (8:Int32)) >>> ((2:Int32) &&& 31))) ||| (((x - x / (10:Int32) * (10:Int32)) &&& (8:Int32)) >>> ((3:Int32) &&& 31))) = (1:Int32)
    · refine lv_tableIn (off := 50) (tgt := 103) hx hb d_PatternBook_Declet_write_53 (by rw [c_4]; decide) (by rw [c_4]; decide) (by rw [c_4]; rfl) (by decide) ?_
      refine lv_iload_n hx hb d_PatternBook_Declet_write_103 rfl (lv_at hl 5 rfl) ?_
      refine lv_iload_n hx hb d_PatternBook_Declet_write_104 rfl (lv_at hl 4 rfl) ?_
      refine lv_bipush (v := 8) hx hb d_PatternBook_Declet_write_105 (by decide) ?_
      refine lv_iload hx hb d_PatternBook_Declet_write_107 (lv_at hl 0 rfl) ?_
      refine lv_ior hx hb d_PatternBook_Declet_write_109 ?_
      refine uCall (WR := []) (RT := []) (va_runS (As := [.int (x / (100:Int32)), .int ((x / (10:Int32)) - (x / (10:Int32)) / (10:Int32) * (10:Int32)), .int ((8:Int32) ||| ((x - x / (10:Int32) * (10:Int32)) &&& (1:Int32)))]) (rest := []) ⟨hx, hb, hml, hown, hts⟩ (c_E_bits l D H.size (x / (100:Int32)) ((x / (10:Int32)) - (x / (10:Int32)) / (10:Int32) * (10:Int32)) ((8:Int32) ||| ((x - x / (10:Int32) * (10:Int32)) &&& (1:Int32)))) ⟨uCB 3 hts k_41 k_35 k_42 (by decide +kernel) rfl rfl ⟨Nat.le_of_ble_eq_true rfl, Nat.le_of_ble_eq_true rfl⟩, hts _ k_43⟩ (uPreS hK hP hD hN [] rfl (by decide) [] rfl) rfl rfl hl.1 rfl (lv_room (Nat.le_of_ble_eq_true rfl)) d_PatternBook_Declet_write_110 ⟨(Nat.le_of_ble_eq_true rfl), (Nat.le_of_ble_eq_true rfl)⟩) hK hP hD hS hA [] [] rfl rfl (by decide) (by decide) [] rfl (fun u5 H locs hu5 hP hD hK hS => ?_)
      have hP : va_P D classes [] H := hP
      have hD : va_D A [] := hD
      have hK : va_K D classes [] s := hK
      refine W.eq (g2 := F0 m 113 ls [.int u5]) rfl ?_
      refine W.iret hx hb hr ?_ hS.2.2 d_PatternBook_Declet_write_113
      exact uEnd u5 (hP.sub [] rfl) (hK.sub [] rfl) (hD.sub [] (by decide) rfl) hS (by have ez1 := hz1.symm; subst ez1; have eu5 := hu5.symm; subst eu5; exact ((if_neg c_2).trans ((if_pos c_4).trans (rfl))).symm) rfl
    · by_cases c_6 : (((((x / (100:Int32)) &&& (8:Int32)) >>> ((1:Int32) &&& 31)) ||| ((((x / (10:Int32)) - (x / (10:Int32)) / (10:Int32) * (10:Int32)) &&& (8:Int32)) >>> ((2:Int32) &&& 31))) ||| (((x - x / (10:Int32) * (10:Int32)) &&& (8:Int32)) >>> ((3:Int32) &&& 31))) = (2:Int32)
      · refine lv_tableIn (off := 61) (tgt := 114) hx hb d_PatternBook_Declet_write_53 (by rw [c_6]; decide) (by rw [c_6]; decide) (by rw [c_6]; rfl) (by decide) ?_
        refine lv_iload_n hx hb d_PatternBook_Declet_write_114 rfl (lv_at hl 5 rfl) ?_
        refine lv_iload_n hx hb d_PatternBook_Declet_write_115 rfl (lv_at hl 3 rfl) ?_
        refine lv_bipush (v := 6) hx hb d_PatternBook_Declet_write_116 (by decide) ?_
        refine lv_iand hx hb d_PatternBook_Declet_write_118 ?_
        refine lv_iload hx hb d_PatternBook_Declet_write_119 (lv_at hl 1 rfl) ?_
        refine lv_ior hx hb d_PatternBook_Declet_write_121 ?_
        refine lv_bipush (v := 10) hx hb d_PatternBook_Declet_write_122 (by decide) ?_
        refine lv_iload hx hb d_PatternBook_Declet_write_124 (lv_at hl 0 rfl) ?_
        refine lv_ior hx hb d_PatternBook_Declet_write_126 ?_
        refine uCall (WR := []) (RT := []) (va_runS (As := [.int (x / (100:Int32)), .int (((x - x / (10:Int32) * (10:Int32)) &&& (6:Int32)) ||| z1), .int ((10:Int32) ||| ((x - x / (10:Int32) * (10:Int32)) &&& (1:Int32)))]) (rest := []) ⟨hx, hb, hml, hown, hts⟩ (c_E_bits l D H.size (x / (100:Int32)) (((x - x / (10:Int32) * (10:Int32)) &&& (6:Int32)) ||| z1) ((10:Int32) ||| ((x - x / (10:Int32) * (10:Int32)) &&& (1:Int32)))) ⟨uCB 3 hts k_41 k_35 k_42 (by decide +kernel) rfl rfl ⟨Nat.le_of_ble_eq_true rfl, Nat.le_of_ble_eq_true rfl⟩, hts _ k_43⟩ (uPreS hK hP hD hN [] rfl (by decide) [] rfl) rfl rfl hl.1 rfl (lv_room (Nat.le_of_ble_eq_true rfl)) d_PatternBook_Declet_write_127 ⟨(Nat.le_of_ble_eq_true rfl), (Nat.le_of_ble_eq_true rfl)⟩) hK hP hD hS hA [] [] rfl rfl (by decide) (by decide) [] rfl (fun u7 H locs hu7 hP hD hK hS => ?_)
        have hP : va_P D classes [] H := hP
        have hD : va_D A [] := hD
        have hK : va_K D classes [] s := hK
        refine W.eq (g2 := F0 m 130 ls [.int u7]) rfl ?_
        refine W.iret hx hb hr ?_ hS.2.2 d_PatternBook_Declet_write_130
        exact uEnd u7 (hP.sub [] rfl) (hK.sub [] rfl) (hD.sub [] (by decide) rfl) hS (by have ez1 := hz1.symm; subst ez1; have eu7 := hu7.symm; subst eu7; exact ((if_neg c_2).trans ((if_neg c_4).trans ((if_pos c_6).trans (rfl)))).symm) rfl
      · by_cases c_8 : (((((x / (100:Int32)) &&& (8:Int32)) >>> ((1:Int32) &&& 31)) ||| ((((x / (10:Int32)) - (x / (10:Int32)) / (10:Int32) * (10:Int32)) &&& (8:Int32)) >>> ((2:Int32) &&& 31))) ||| (((x - x / (10:Int32) * (10:Int32)) &&& (8:Int32)) >>> ((3:Int32) &&& 31))) = (3:Int32)
        · refine lv_tableIn (off := 133) (tgt := 186) hx hb d_PatternBook_Declet_write_53 (by rw [c_8]; decide) (by rw [c_8]; decide) (by rw [c_8]; rfl) (by decide) ?_
          refine lv_iload_n hx hb d_PatternBook_Declet_write_186 rfl (lv_at hl 5 rfl) ?_
          refine lv_iconst (v := 4) hx hb d_PatternBook_Declet_write_187 (by decide) ?_
          refine lv_iload hx hb d_PatternBook_Declet_write_188 (lv_at hl 1 rfl) ?_
          refine lv_ior hx hb d_PatternBook_Declet_write_190 ?_
          refine lv_bipush (v := 14) hx hb d_PatternBook_Declet_write_191 (by decide) ?_
          refine lv_iload hx hb d_PatternBook_Declet_write_193 (lv_at hl 0 rfl) ?_
          refine lv_ior hx hb d_PatternBook_Declet_write_195 ?_
          refine uCall (WR := []) (RT := []) (va_runS (As := [.int (x / (100:Int32)), .int ((4:Int32) ||| z1), .int ((14:Int32) ||| ((x - x / (10:Int32) * (10:Int32)) &&& (1:Int32)))]) (rest := []) ⟨hx, hb, hml, hown, hts⟩ (c_E_bits l D H.size (x / (100:Int32)) ((4:Int32) ||| z1) ((14:Int32) ||| ((x - x / (10:Int32) * (10:Int32)) &&& (1:Int32)))) ⟨uCB 3 hts k_41 k_35 k_42 (by decide +kernel) rfl rfl ⟨Nat.le_of_ble_eq_true rfl, Nat.le_of_ble_eq_true rfl⟩, hts _ k_43⟩ (uPreS hK hP hD hN [] rfl (by decide) [] rfl) rfl rfl hl.1 rfl (lv_room (Nat.le_of_ble_eq_true rfl)) d_PatternBook_Declet_write_196 ⟨(Nat.le_of_ble_eq_true rfl), (Nat.le_of_ble_eq_true rfl)⟩) hK hP hD hS hA [] [] rfl rfl (by decide) (by decide) [] rfl (fun u9 H locs hu9 hP hD hK hS => ?_)
          have hP : va_P D classes [] H := hP
          have hD : va_D A [] := hD
          have hK : va_K D classes [] s := hK
          refine W.eq (g2 := F0 m 199 ls [.int u9]) rfl ?_
          refine W.iret hx hb hr ?_ hS.2.2 d_PatternBook_Declet_write_199
          exact uEnd u9 (hP.sub [] rfl) (hK.sub [] rfl) (hD.sub [] (by decide) rfl) hS (by have ez1 := hz1.symm; subst ez1; have eu9 := hu9.symm; subst eu9; exact ((if_neg c_2).trans ((if_neg c_4).trans ((if_neg c_6).trans ((if_pos c_8).trans (rfl))))).symm) rfl
        · by_cases c_10 : (((((x / (100:Int32)) &&& (8:Int32)) >>> ((1:Int32) &&& 31)) ||| ((((x / (10:Int32)) - (x / (10:Int32)) / (10:Int32) * (10:Int32)) &&& (8:Int32)) >>> ((2:Int32) &&& 31))) ||| (((x - x / (10:Int32) * (10:Int32)) &&& (8:Int32)) >>> ((3:Int32) &&& 31))) = (4:Int32)
          · refine lv_tableIn (off := 78) (tgt := 131) hx hb d_PatternBook_Declet_write_53 (by rw [c_10]; decide) (by rw [c_10]; decide) (by rw [c_10]; rfl) (by decide) ?_
            refine lv_iload_n hx hb d_PatternBook_Declet_write_131 rfl (lv_at hl 3 rfl) ?_
            refine lv_bipush (v := 6) hx hb d_PatternBook_Declet_write_132 (by decide) ?_
            refine lv_iand hx hb d_PatternBook_Declet_write_134 ?_
            refine lv_iload hx hb d_PatternBook_Declet_write_135 (lv_at hl 2 rfl) ?_
            refine lv_ior hx hb d_PatternBook_Declet_write_137 ?_
            refine lv_iload_n hx hb d_PatternBook_Declet_write_138 rfl (lv_at hl 4 rfl) ?_
            refine lv_bipush (v := 12) hx hb d_PatternBook_Declet_write_139 (by decide) ?_
            refine lv_iload hx hb d_PatternBook_Declet_write_141 (lv_at hl 0 rfl) ?_
            refine lv_ior hx hb d_PatternBook_Declet_write_143 ?_
            refine uCall (WR := []) (RT := []) (va_runS (As := [.int (((x - x / (10:Int32) * (10:Int32)) &&& (6:Int32)) ||| ((x / (100:Int32)) &&& (1:Int32))), .int ((x / (10:Int32)) - (x / (10:Int32)) / (10:Int32) * (10:Int32)), .int ((12:Int32) ||| ((x - x / (10:Int32) * (10:Int32)) &&& (1:Int32)))]) (rest := []) ⟨hx, hb, hml, hown, hts⟩ (c_E_bits l D H.size (((x - x / (10:Int32) * (10:Int32)) &&& (6:Int32)) ||| ((x / (100:Int32)) &&& (1:Int32))) ((x / (10:Int32)) - (x / (10:Int32)) / (10:Int32) * (10:Int32)) ((12:Int32) ||| ((x - x / (10:Int32) * (10:Int32)) &&& (1:Int32)))) ⟨uCB 3 hts k_41 k_35 k_42 (by decide +kernel) rfl rfl ⟨Nat.le_of_ble_eq_true rfl, Nat.le_of_ble_eq_true rfl⟩, hts _ k_43⟩ (uPreS hK hP hD hN [] rfl (by decide) [] rfl) rfl rfl hl.1 rfl (lv_room (Nat.le_of_ble_eq_true rfl)) d_PatternBook_Declet_write_144 ⟨(Nat.le_of_ble_eq_true rfl), (Nat.le_of_ble_eq_true rfl)⟩) hK hP hD hS hA [] [] rfl rfl (by decide) (by decide) [] rfl (fun u11 H locs hu11 hP hD hK hS => ?_)
            have hP : va_P D classes [] H := hP
            have hD : va_D A [] := hD
            have hK : va_K D classes [] s := hK
            refine W.eq (g2 := F0 m 147 ls [.int u11]) rfl ?_
            refine W.iret hx hb hr ?_ hS.2.2 d_PatternBook_Declet_write_147
            exact uEnd u11 (hP.sub [] rfl) (hK.sub [] rfl) (hD.sub [] (by decide) rfl) hS (by have ez1 := hz1.symm; subst ez1; have eu11 := hu11.symm; subst eu11; exact ((if_neg c_2).trans ((if_neg c_4).trans ((if_neg c_6).trans ((if_neg c_8).trans ((if_pos c_10).trans (rfl)))))).symm) rfl
          · by_cases c_12 : (((((x / (100:Int32)) &&& (8:Int32)) >>> ((1:Int32) &&& 31)) ||| ((((x / (10:Int32)) - (x / (10:Int32)) / (10:Int32) * (10:Int32)) &&& (8:Int32)) >>> ((2:Int32) &&& 31))) ||| (((x - x / (10:Int32) * (10:Int32)) &&& (8:Int32)) >>> ((3:Int32) &&& 31))) = (5:Int32)
            · refine lv_tableIn (off := 113) (tgt := 166) hx hb d_PatternBook_Declet_write_53 (by rw [c_12]; decide) (by rw [c_12]; decide) (by rw [c_12]; rfl) (by decide) ?_
              refine lv_iload_n hx hb d_PatternBook_Declet_write_166 rfl (lv_at hl 4 rfl) ?_
              refine lv_bipush (v := 6) hx hb d_PatternBook_Declet_write_167 (by decide) ?_
              refine lv_iand hx hb d_PatternBook_Declet_write_169 ?_
              refine lv_iload hx hb d_PatternBook_Declet_write_170 (lv_at hl 2 rfl) ?_
              refine lv_ior hx hb d_PatternBook_Declet_write_172 ?_
              refine lv_iconst (v := 2) hx hb d_PatternBook_Declet_write_173 (by decide) ?_
              refine lv_iload hx hb d_PatternBook_Declet_write_174 (lv_at hl 1 rfl) ?_
              refine lv_ior hx hb d_PatternBook_Declet_write_176 ?_
              refine lv_bipush (v := 14) hx hb d_PatternBook_Declet_write_177 (by decide) ?_
              refine lv_iload hx hb d_PatternBook_Declet_write_179 (lv_at hl 0 rfl) ?_
              refine lv_ior hx hb d_PatternBook_Declet_write_181 ?_
              refine uCall (WR := []) (RT := []) (va_runS (As := [.int ((((x / (10:Int32)) - (x / (10:Int32)) / (10:Int32) * (10:Int32)) &&& (6:Int32)) ||| ((x / (100:Int32)) &&& (1:Int32))), .int ((2:Int32) ||| z1), .int ((14:Int32) ||| ((x - x / (10:Int32) * (10:Int32)) &&& (1:Int32)))]) (rest := []) ⟨hx, hb, hml, hown, hts⟩ (c_E_bits l D H.size ((((x / (10:Int32)) - (x / (10:Int32)) / (10:Int32) * (10:Int32)) &&& (6:Int32)) ||| ((x / (100:Int32)) &&& (1:Int32))) ((2:Int32) ||| z1) ((14:Int32) ||| ((x - x / (10:Int32) * (10:Int32)) &&& (1:Int32)))) ⟨uCB 3 hts k_41 k_35 k_42 (by decide +kernel) rfl rfl ⟨Nat.le_of_ble_eq_true rfl, Nat.le_of_ble_eq_true rfl⟩, hts _ k_43⟩ (uPreS hK hP hD hN [] rfl (by decide) [] rfl) rfl rfl hl.1 rfl (lv_room (Nat.le_of_ble_eq_true rfl)) d_PatternBook_Declet_write_182 ⟨(Nat.le_of_ble_eq_true rfl), (Nat.le_of_ble_eq_true rfl)⟩) hK hP hD hS hA [] [] rfl rfl (by decide) (by decide) [] rfl (fun u13 H locs hu13 hP hD hK hS => ?_)
              have hP : va_P D classes [] H := hP
              have hD : va_D A [] := hD
              have hK : va_K D classes [] s := hK
              refine W.eq (g2 := F0 m 185 ls [.int u13]) rfl ?_
              refine W.iret hx hb hr ?_ hS.2.2 d_PatternBook_Declet_write_185
              exact uEnd u13 (hP.sub [] rfl) (hK.sub [] rfl) (hD.sub [] (by decide) rfl) hS (by have ez1 := hz1.symm; subst ez1; have eu13 := hu13.symm; subst eu13; exact ((if_neg c_2).trans ((if_neg c_4).trans ((if_neg c_6).trans ((if_neg c_8).trans ((if_neg c_10).trans ((if_pos c_12).trans (rfl))))))).symm) rfl
            · by_cases c_14 : (((((x / (100:Int32)) &&& (8:Int32)) >>> ((1:Int32) &&& 31)) ||| ((((x / (10:Int32)) - (x / (10:Int32)) / (10:Int32) * (10:Int32)) &&& (8:Int32)) >>> ((2:Int32) &&& 31))) ||| (((x - x / (10:Int32) * (10:Int32)) &&& (8:Int32)) >>> ((3:Int32) &&& 31))) = (6:Int32)
              · refine lv_tableIn (off := 95) (tgt := 148) hx hb d_PatternBook_Declet_write_53 (by rw [c_14]; decide) (by rw [c_14]; decide) (by rw [c_14]; rfl) (by decide) ?_
                refine lv_iload_n hx hb d_PatternBook_Declet_write_148 rfl (lv_at hl 3 rfl) ?_
                refine lv_bipush (v := 6) hx hb d_PatternBook_Declet_write_149 (by decide) ?_
                refine lv_iand hx hb d_PatternBook_Declet_write_151 ?_
                refine lv_iload hx hb d_PatternBook_Declet_write_152 (lv_at hl 2 rfl) ?_
                refine lv_ior hx hb d_PatternBook_Declet_write_154 ?_
                refine lv_iload hx hb d_PatternBook_Declet_write_155 (lv_at hl 1 rfl) ?_
                refine lv_bipush (v := 14) hx hb d_PatternBook_Declet_write_157 (by decide) ?_
                refine lv_iload hx hb d_PatternBook_Declet_write_159 (lv_at hl 0 rfl) ?_
                refine lv_ior hx hb d_PatternBook_Declet_write_161 ?_
                refine uCall (WR := []) (RT := []) (va_runS (As := [.int (((x - x / (10:Int32) * (10:Int32)) &&& (6:Int32)) ||| ((x / (100:Int32)) &&& (1:Int32))), .int z1, .int ((14:Int32) ||| ((x - x / (10:Int32) * (10:Int32)) &&& (1:Int32)))]) (rest := []) ⟨hx, hb, hml, hown, hts⟩ (c_E_bits l D H.size (((x - x / (10:Int32) * (10:Int32)) &&& (6:Int32)) ||| ((x / (100:Int32)) &&& (1:Int32))) z1 ((14:Int32) ||| ((x - x / (10:Int32) * (10:Int32)) &&& (1:Int32)))) ⟨uCB 3 hts k_41 k_35 k_42 (by decide +kernel) rfl rfl ⟨Nat.le_of_ble_eq_true rfl, Nat.le_of_ble_eq_true rfl⟩, hts _ k_43⟩ (uPreS hK hP hD hN [] rfl (by decide) [] rfl) rfl rfl hl.1 rfl (lv_room (Nat.le_of_ble_eq_true rfl)) d_PatternBook_Declet_write_162 ⟨(Nat.le_of_ble_eq_true rfl), (Nat.le_of_ble_eq_true rfl)⟩) hK hP hD hS hA [] [] rfl rfl (by decide) (by decide) [] rfl (fun u15 H locs hu15 hP hD hK hS => ?_)
                have hP : va_P D classes [] H := hP
                have hD : va_D A [] := hD
                have hK : va_K D classes [] s := hK
                refine W.eq (g2 := F0 m 165 ls [.int u15]) rfl ?_
                refine W.iret hx hb hr ?_ hS.2.2 d_PatternBook_Declet_write_165
                exact uEnd u15 (hP.sub [] rfl) (hK.sub [] rfl) (hD.sub [] (by decide) rfl) hS (by have ez1 := hz1.symm; subst ez1; have eu15 := hu15.symm; subst eu15; exact ((if_neg c_2).trans ((if_neg c_4).trans ((if_neg c_6).trans ((if_neg c_8).trans ((if_neg c_10).trans ((if_neg c_12).trans ((if_pos c_14).trans (rfl)))))))).symm) rfl
              · refine lv_tableOut (tgt := 200) hx hb d_PatternBook_Declet_write_53 (by have z0 := lv_neT c_2 (show (0:Int32).toInt = 0 by decide); have z1 := lv_neT c_4 (show (1:Int32).toInt = 1 by decide); have z2 := lv_neT c_6 (show (2:Int32).toInt = 2 by decide); have z3 := lv_neT c_8 (show (3:Int32).toInt = 3 by decide); have z4 := lv_neT c_10 (show (4:Int32).toInt = 4 by decide); have z5 := lv_neT c_12 (show (5:Int32).toInt = 5 by decide); have z6 := lv_neT c_14 (show (6:Int32).toInt = 6 by decide); omega) (by decide) ?_
                refine lv_iload hx hb d_PatternBook_Declet_write_200 (lv_at hl 2 rfl) ?_
                refine lv_bipush (v := 6) hx hb d_PatternBook_Declet_write_202 (by decide) ?_
                refine lv_iload hx hb d_PatternBook_Declet_write_204 (lv_at hl 1 rfl) ?_
                refine lv_ior hx hb d_PatternBook_Declet_write_206 ?_
                refine lv_bipush (v := 14) hx hb d_PatternBook_Declet_write_207 (by decide) ?_
                refine lv_iload hx hb d_PatternBook_Declet_write_209 (lv_at hl 0 rfl) ?_
                refine lv_ior hx hb d_PatternBook_Declet_write_211 ?_
                refine uCall (WR := []) (RT := []) (va_runS (As := [.int ((x / (100:Int32)) &&& (1:Int32)), .int ((6:Int32) ||| z1), .int ((14:Int32) ||| ((x - x / (10:Int32) * (10:Int32)) &&& (1:Int32)))]) (rest := []) ⟨hx, hb, hml, hown, hts⟩ (c_E_bits l D H.size ((x / (100:Int32)) &&& (1:Int32)) ((6:Int32) ||| z1) ((14:Int32) ||| ((x - x / (10:Int32) * (10:Int32)) &&& (1:Int32)))) ⟨uCB 3 hts k_41 k_35 k_42 (by decide +kernel) rfl rfl ⟨Nat.le_of_ble_eq_true rfl, Nat.le_of_ble_eq_true rfl⟩, hts _ k_43⟩ (uPreS hK hP hD hN [] rfl (by decide) [] rfl) rfl rfl hl.1 rfl (lv_room (Nat.le_of_ble_eq_true rfl)) d_PatternBook_Declet_write_212 ⟨(Nat.le_of_ble_eq_true rfl), (Nat.le_of_ble_eq_true rfl)⟩) hK hP hD hS hA [] [] rfl rfl (by decide) (by decide) [] rfl (fun u16 H locs hu16 hP hD hK hS => ?_)
                have hP : va_P D classes [] H := hP
                have hD : va_D A [] := hD
                have hK : va_K D classes [] s := hK
                refine W.eq (g2 := F0 m 215 ls [.int u16]) rfl ?_
                refine W.iret hx hb hr ?_ hS.2.2 d_PatternBook_Declet_write_215
                exact uEnd u16 (hP.sub [] rfl) (hK.sub [] rfl) (hD.sub [] (by decide) rfl) hS (by have ez1 := hz1.symm; subst ez1; have eu16 := hu16.symm; subst eu16; exact ((if_neg c_2).trans ((if_neg c_4).trans ((if_neg c_6).trans ((if_neg c_8).trans ((if_neg c_10).trans ((if_neg c_12).trans ((if_neg c_14).trans (rfl)))))))).symm) rfl
