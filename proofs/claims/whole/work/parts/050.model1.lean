set_option maxHeartbeats 4000000 in
set_option maxRecDepth 100000 in
/-- PatternBookModel.thrown()I -/
theorem c_M_thrown (l : Launch) (D : va_G) (mo : Nat) (wa : Nat) (sa : Nat) (ma : Nat) (sz : Nat) (co : Int32) (kd : Int32) (sg : Int32) (ex : Int32) (hi : Int64) (lo : Int64) (lh : Int64) (ll : Int64) : Met l y_PatternBookModel_thrown (wsOf y_PatternBookModel_thrown b_PatternBookModel_thrown 1 (some .int)) ({ frames := 0, cells := 0, slots := 0, locals := 0 }) (uP D classes [(mo, .inr (6, [.int co, .int kd, .int sg, .int ex, .ref wa, .long hi, .long lo, .long lh, .long ll, .ref sa, .ref ma]))] [] sz [.ref mo]) (uQ D classes (fun u : Int32 => some (.int u)) (fun u => u = (sl m_M_thrown) co) (va_A [(mo, .inr (6, [.int co, .int kd, .int sg, .int ex, .ref wa, .long hi, .long lo, .long lh, .long ll, .ref sa, .ref ma]))] sz) (fun _ => []) (fun u => [(mo, .inr (6, [.int co, .int kd, .int sg, .int ex, .ref wa, .long hi, .long lo, .long lh, .long ll, .ref sa, .ref ma]))])) 0 0 (va_A [(mo, .inr (6, [.int co, .int kd, .int sg, .int ex, .ref wa, .long hi, .long lo, .long lh, .long ll, .ref sa, .ref ma]))] sz) := by
  rw [sl_eq m_M_thrown]
  refine uBegin (by decide +kernel) (Nat.le_of_ble_eq_true rfl) ?_
  intro p e s m below meth c A ls H locs hx hb hr hts hown hlocks hml hin hA hP hK hD hN hS hl
  have hl : lv_has ls 1 [(0, .ref mo)] := hl
  refine lv_aload_n hx hb d_PatternBookModel_thrown_0 rfl (lv_at hl 0 rfl) ?_
  refine va_get (D := D) (ci := 6) (v := .int co) (C := R_PatternBookModel) (T := F_PatternBookModel) (N := 11) hx hb hts i_PatternBookModel hown hK hP 0 rfl rfl 0 (by decide) (hts _ k_255) (fun _ h9 => h9) rfl d_PatternBookModel_thrown_1 ?_
  refine W.iret hx hb hr ?_ hS.2.2 d_PatternBookModel_thrown_4
  exact uEnd co (hP.sub [0] rfl) (hK.sub [] rfl) (hD.sub [0] (by decide) rfl) hS rfl rfl
set_option maxHeartbeats 4000000 in
set_option maxRecDepth 100000 in
/-- PatternBookModel.isFormat(I)Z -/
theorem c_M_isFormat (l : Launch) (D : va_G)  (sz : Nat) (x : Int32) : Met l y_PatternBookModel_isFormat (wsOf y_PatternBookModel_isFormat b_PatternBookModel_isFormat 1 (some .boolean)) ({ frames := 0, cells := 0, slots := 0, locals := 0 }) (uP D classes [] [] sz [.int x]) (uQ D classes (fun u : Bool => some (.int (bI u))) (fun u => u = (sl m_M_isFormat) x) (va_A [] sz) (fun _ => []) (fun u => [])) 0 0 (va_A [] sz) := by
  rw [sl_eq m_M_isFormat]
  refine uBegin (by decide +kernel) (Nat.le_of_ble_eq_true rfl) ?_
  intro p e s m below meth c A ls H locs hx hb hr hts hown hlocks hml hin hA hP hK hD hN hS hl
  have hl : lv_has ls 1 [(0, .int x)] := hl
  refine lv_iload_n hx hb d_PatternBookModel_isFormat_0 rfl (lv_at hl 0 rfl) ?_
  refine lv_if_lt (tgt := 14) hx hb d_PatternBookModel_isFormat_1 (by decide) (fun c_1 => ?_) (fun c_1 => ?_)
  · refine lv_iconst (v := 0) hx hb d_PatternBookModel_isFormat_14 (by decide) ?_
    refine W.zret hx hb hr rfl ?_ hS.2.2 d_PatternBookModel_isFormat_15
    exact uEnd false (hP.sub [] rfl) (hK.sub [] rfl) (hD.sub [] (by decide) rfl) hS (by  exact ((if_pos c_1).trans (rfl)).symm) rfl
  · refine lv_iload_n hx hb d_PatternBookModel_isFormat_4 rfl (lv_at hl 0 rfl) ?_
    refine lv_bipush (v := 10) hx hb d_PatternBookModel_isFormat_5 (by decide) ?_
    refine lv_icmp_ge (tgt := 14) hx hb d_PatternBookModel_isFormat_7 (by decide) (fun c_2 => ?_) (fun c_2 => ?_)
    · refine lv_iconst (v := 0) hx hb d_PatternBookModel_isFormat_14 (by decide) ?_
      refine W.zret hx hb hr rfl ?_ hS.2.2 d_PatternBookModel_isFormat_15
      exact uEnd false (hP.sub [] rfl) (hK.sub [] rfl) (hD.sub [] (by decide) rfl) hS (by  exact ((if_neg c_1).trans ((if_pos c_2).trans (rfl))).symm) rfl
    · refine lv_iconst (v := 1) hx hb d_PatternBookModel_isFormat_10 (by decide) ?_
      refine lv_goto (tgt := 15) hx hb d_PatternBookModel_isFormat_11 (by decide) ?_
      refine W.zret hx hb hr rfl ?_ hS.2.2 d_PatternBookModel_isFormat_15
      exact uEnd true (hP.sub [] rfl) (hK.sub [] rfl) (hD.sub [] (by decide) rfl) hS (by  exact ((if_neg c_1).trans ((if_neg c_2).trans (rfl))).symm) rfl
set_option maxHeartbeats 4000000 in
set_option maxRecDepth 100000 in
/-- PatternBookModel.width(I)I -/
theorem c_M_width (l : Launch) (D : va_G)  (sz : Nat) (x : Int32) : Met l y_PatternBookModel_width (wsOf y_PatternBookModel_width b_PatternBookModel_width 1 (some .int)) ({ frames := 0, cells := 0, slots := 0, locals := 0 }) (uP D classes [] [] sz [.int x]) (uQ D classes (fun u : Int32 => some (.int u)) (fun u => u = (sl m_M_width) x) (va_A [] sz) (fun _ => []) (fun u => [])) 0 0 (va_A [] sz) := by
  rw [sl_eq m_M_width]
  refine uBegin (by decide +kernel) (Nat.le_of_ble_eq_true rfl) ?_
  intro p e s m below meth c A ls H locs hx hb hr hts hown hlocks hml hin hA hP hK hD hN hS hl
  have hl : lv_has ls 1 [(0, .int x)] := hl
  refine lv_iload_n hx hb d_PatternBookModel_width_0 rfl (lv_at hl 0 rfl) ?_
  refine lv_iconst (v := 4) hx hb d_PatternBookModel_width_1 (by decide) ?_
  refine lv_icmp_ge (tgt := 12) hx hb d_PatternBookModel_width_2 (by decide) (fun c_1 => ?_) (fun c_1 => ?_)
  · refine lv_bipush (v := 32) hx hb d_PatternBookModel_width_12 (by decide) ?_
    refine lv_iload_n hx hb d_PatternBookModel_width_14 rfl (lv_at hl 0 rfl) ?_
    refine lv_iconst (v := 4) hx hb d_PatternBookModel_width_15 (by decide) ?_
    refine lv_isub hx hb d_PatternBookModel_width_16 ?_
    refine lv_iconst (v := 3) hx hb d_PatternBookModel_width_17 (by decide) ?_
    refine lv_irem hx hb d_PatternBookModel_width_18 (by decide) ?_
    refine lv_ishl hx hb d_PatternBookModel_width_19 ?_
    refine W.iret hx hb hr ?_ hS.2.2 d_PatternBookModel_width_20
    exact uEnd ((32:Int32) <<< (((x - (4:Int32)) - (x - (4:Int32)) / (3:Int32) * (3:Int32)) &&& 31)) (hP.sub [] rfl) (hK.sub [] rfl) (hD.sub [] (by decide) rfl) hS (by  exact ((if_pos c_1).trans (rfl)).symm) rfl
  · refine lv_bipush (v := 16) hx hb d_PatternBookModel_width_5 (by decide) ?_
    refine lv_iload_n hx hb d_PatternBookModel_width_7 rfl (lv_at hl 0 rfl) ?_
    refine lv_ishl hx hb d_PatternBookModel_width_8 ?_
    refine lv_goto (tgt := 20) hx hb d_PatternBookModel_width_9 (by decide) ?_
    refine W.iret hx hb hr ?_ hS.2.2 d_PatternBookModel_width_20
    exact uEnd ((16:Int32) <<< (x &&& 31)) (hP.sub [] rfl) (hK.sub [] rfl) (hD.sub [] (by decide) rfl) hS (by  exact ((if_neg c_1).trans (rfl)).symm) rfl
set_option maxHeartbeats 4000000 in
set_option maxRecDepth 100000 in
/-- PatternBookModel.digitsOf(I)I -/
theorem c_M_digitsOf (l : Launch) (D : va_G)  (sz : Nat) (x : Int32) : Met l y_PatternBookModel_digitsOf (wsOf y_PatternBookModel_digitsOf b_PatternBookModel_digitsOf 1 (some .int)) ({ frames := 0, cells := 0, slots := 0, locals := 0 }) (uP D classes [] [] sz [.int x]) (uQ D classes (fun u : Int32 => some (.int u)) (fun u => u = (sl m_M_digitsOf) x) (va_A [] sz) (fun _ => []) (fun u => [])) 0 0 (va_A [] sz) := by
  rw [sl_eq m_M_digitsOf]
  refine uBegin (by decide +kernel) (Nat.le_of_ble_eq_true rfl) ?_
  intro p e s m below meth c A ls H locs hx hb hr hts hown hlocks hml hin hA hP hK hD hN hS hl
  have hl : lv_has ls 1 [(0, .int x)] := hl
  refine lv_iload_n hx hb d_PatternBookModel_digitsOf_0 rfl (lv_at hl 0 rfl) ?_
  by_cases c_1 : x = (0:Int32)
  · refine lv_tableIn (off := 31) (tgt := 32) hx hb d_PatternBookModel_digitsOf_1 (by rw [c_1]; decide) (by rw [c_1]; decide) (by rw [c_1]; rfl) (by decide) ?_
    refine lv_bipush (v := 11) hx hb d_PatternBookModel_digitsOf_32 (by decide) ?_
    refine W.iret hx hb hr ?_ hS.2.2 d_PatternBookModel_digitsOf_34
    exact uEnd (11:Int32) (hP.sub [] rfl) (hK.sub [] rfl) (hD.sub [] (by decide) rfl) hS (by  exact ((if_pos c_1).trans (rfl)).symm) rfl
  · by_cases c_2 : x = (1:Int32)
    · refine lv_tableIn (off := 34) (tgt := 35) hx hb d_PatternBookModel_digitsOf_1 (by rw [c_2]; decide) (by rw [c_2]; decide) (by rw [c_2]; rfl) (by decide) ?_
      refine lv_bipush (v := 24) hx hb d_PatternBookModel_digitsOf_35 (by decide) ?_
      refine W.iret hx hb hr ?_ hS.2.2 d_PatternBookModel_digitsOf_37
      exact uEnd (24:Int32) (hP.sub [] rfl) (hK.sub [] rfl) (hD.sub [] (by decide) rfl) hS (by  exact ((if_neg c_1).trans ((if_pos c_2).trans (rfl))).symm) rfl
    · by_cases c_3 : x = (2:Int32)
      · refine lv_tableIn (off := 37) (tgt := 38) hx hb d_PatternBookModel_digitsOf_1 (by rw [c_3]; decide) (by rw [c_3]; decide) (by rw [c_3]; rfl) (by decide) ?_
        refine lv_bipush (v := 53) hx hb d_PatternBookModel_digitsOf_38 (by decide) ?_
        refine W.iret hx hb hr ?_ hS.2.2 d_PatternBookModel_digitsOf_40
        exact uEnd (53:Int32) (hP.sub [] rfl) (hK.sub [] rfl) (hD.sub [] (by decide) rfl) hS (by  exact ((if_neg c_1).trans ((if_neg c_2).trans ((if_pos c_3).trans (rfl)))).symm) rfl
      · by_cases c_4 : x = (3:Int32)
        · refine lv_tableIn (off := 40) (tgt := 41) hx hb d_PatternBookModel_digitsOf_1 (by rw [c_4]; decide) (by rw [c_4]; decide) (by rw [c_4]; rfl) (by decide) ?_
          refine lv_bipush (v := 113) hx hb d_PatternBookModel_digitsOf_41 (by decide) ?_
          refine W.iret hx hb hr ?_ hS.2.2 d_PatternBookModel_digitsOf_43
          exact uEnd (113:Int32) (hP.sub [] rfl) (hK.sub [] rfl) (hD.sub [] (by decide) rfl) hS (by  exact ((if_neg c_1).trans ((if_neg c_2).trans ((if_neg c_3).trans ((if_pos c_4).trans (rfl))))).symm) rfl
        · refine lv_tableOut (tgt := 44) hx hb d_PatternBookModel_digitsOf_1 (by have z0 := lv_neT c_1 (show (0:Int32).toInt = 0 by decide); have z1 := lv_neT c_2 (show (1:Int32).toInt = 1 by decide); have z2 := lv_neT c_3 (show (2:Int32).toInt = 2 by decide); have z3 := lv_neT c_4 (show (3:Int32).toInt = 3 by decide); omega) (by decide) ?_
          refine lv_iload_n hx hb d_PatternBookModel_digitsOf_44 rfl (lv_at hl 0 rfl) ?_
          refine lv_iconst (v := 4) hx hb d_PatternBookModel_digitsOf_45 (by decide) ?_
          refine lv_isub hx hb d_PatternBookModel_digitsOf_46 ?_
          refine lv_iconst (v := 3) hx hb d_PatternBookModel_digitsOf_47 (by decide) ?_
          refine lv_irem hx hb d_PatternBookModel_digitsOf_48 (by decide) ?_
          refine lv_if_ne (tgt := 57) hx hb d_PatternBookModel_digitsOf_49 (by decide) (fun c_5 => ?_) (fun c_5 => ?_)
          · refine lv_iload_n hx hb d_PatternBookModel_digitsOf_57 rfl (lv_at hl 0 rfl) ?_
            refine lv_iconst (v := 4) hx hb d_PatternBookModel_digitsOf_58 (by decide) ?_
            refine lv_isub hx hb d_PatternBookModel_digitsOf_59 ?_
            refine lv_iconst (v := 3) hx hb d_PatternBookModel_digitsOf_60 (by decide) ?_
            refine lv_irem hx hb d_PatternBookModel_digitsOf_61 (by decide) ?_
            refine lv_iconst (v := 1) hx hb d_PatternBookModel_digitsOf_62 (by decide) ?_
            refine lv_icmp_ne (tgt := 71) hx hb d_PatternBookModel_digitsOf_63 (by decide) (fun c_6 => ?_) (fun c_6 => ?_)
            · refine lv_bipush (v := 34) hx hb d_PatternBookModel_digitsOf_71 (by decide) ?_
              refine W.iret hx hb hr ?_ hS.2.2 d_PatternBookModel_digitsOf_73
              exact uEnd (34:Int32) (hP.sub [] rfl) (hK.sub [] rfl) (hD.sub [] (by decide) rfl) hS (by  exact ((if_neg c_1).trans ((if_neg c_2).trans ((if_neg c_3).trans ((if_neg c_4).trans ((if_neg c_5).trans ((if_neg c_6).trans (rfl))))))).symm) rfl
            · refine lv_bipush (v := 16) hx hb d_PatternBookModel_digitsOf_66 (by decide) ?_
              refine lv_goto (tgt := 73) hx hb d_PatternBookModel_digitsOf_68 (by decide) ?_
              refine W.iret hx hb hr ?_ hS.2.2 d_PatternBookModel_digitsOf_73
              exact uEnd (16:Int32) (hP.sub [] rfl) (hK.sub [] rfl) (hD.sub [] (by decide) rfl) hS (by  exact ((if_neg c_1).trans ((if_neg c_2).trans ((if_neg c_3).trans ((if_neg c_4).trans ((if_neg c_5).trans ((if_pos c_6).trans (rfl))))))).symm) rfl
          · refine lv_bipush (v := 7) hx hb d_PatternBookModel_digitsOf_52 (by decide) ?_
            refine lv_goto (tgt := 73) hx hb d_PatternBookModel_digitsOf_54 (by decide) ?_
            refine W.iret hx hb hr ?_ hS.2.2 d_PatternBookModel_digitsOf_73
            exact uEnd (7:Int32) (hP.sub [] rfl) (hK.sub [] rfl) (hD.sub [] (by decide) rfl) hS (by  exact ((if_neg c_1).trans ((if_neg c_2).trans ((if_neg c_3).trans ((if_neg c_4).trans ((if_pos c_5).trans (rfl)))))).symm) rfl
set_option maxHeartbeats 4000000 in
set_option maxRecDepth 100000 in
/-- PatternBookModel.most(I)I -/
theorem c_M_most (l : Launch) (D : va_G)  (sz : Nat) (x : Int32) : Met l y_PatternBookModel_most (wsOf y_PatternBookModel_most b_PatternBookModel_most 1 (some .int)) ({ frames := 0, cells := 0, slots := 0, locals := 0 }) (uP D classes [] [] sz [.int x]) (uQ D classes (fun u : Int32 => some (.int u)) (fun u => u = (sl m_M_most) x) (va_A [] sz) (fun _ => []) (fun u => [])) 0 0 (va_A [] sz) := by
  rw [sl_eq m_M_most]
  refine uBegin (by decide +kernel) (Nat.le_of_ble_eq_true rfl) ?_
  intro p e s m below meth c A ls H locs hx hb hr hts hown hlocks hml hin hA hP hK hD hN hS hl
  have hl : lv_has ls 1 [(0, .int x)] := hl
  refine lv_iload_n hx hb d_PatternBookModel_most_0 rfl (lv_at hl 0 rfl) ?_
  by_cases c_1 : x = (0:Int32)
  · refine lv_tableIn (off := 31) (tgt := 32) hx hb d_PatternBookModel_most_1 (by rw [c_1]; decide) (by rw [c_1]; decide) (by rw [c_1]; rfl) (by decide) ?_
    refine lv_bipush (v := 15) hx hb d_PatternBookModel_most_32 (by decide) ?_
    refine W.iret hx hb hr ?_ hS.2.2 d_PatternBookModel_most_34
    exact uEnd (15:Int32) (hP.sub [] rfl) (hK.sub [] rfl) (hD.sub [] (by decide) rfl) hS (by  exact ((if_pos c_1).trans (rfl)).symm) rfl
  · by_cases c_2 : x = (1:Int32)
    · refine lv_tableIn (off := 34) (tgt := 35) hx hb d_PatternBookModel_most_1 (by rw [c_2]; decide) (by rw [c_2]; decide) (by rw [c_2]; rfl) (by decide) ?_
      refine lv_bipush (v := 127) hx hb d_PatternBookModel_most_35 (by decide) ?_
      refine W.iret hx hb hr ?_ hS.2.2 d_PatternBookModel_most_37
      exact uEnd (127:Int32) (hP.sub [] rfl) (hK.sub [] rfl) (hD.sub [] (by decide) rfl) hS (by  exact ((if_neg c_1).trans ((if_pos c_2).trans (rfl))).symm) rfl
    · by_cases c_3 : x = (2:Int32)
      · refine lv_tableIn (off := 37) (tgt := 38) hx hb d_PatternBookModel_most_1 (by rw [c_3]; decide) (by rw [c_3]; decide) (by rw [c_3]; rfl) (by decide) ?_
        refine lv_sipush (v := 1023) hx hb d_PatternBookModel_most_38 (by decide) ?_
        refine W.iret hx hb hr ?_ hS.2.2 d_PatternBookModel_most_41
        exact uEnd (1023:Int32) (hP.sub [] rfl) (hK.sub [] rfl) (hD.sub [] (by decide) rfl) hS (by  exact ((if_neg c_1).trans ((if_neg c_2).trans ((if_pos c_3).trans (rfl)))).symm) rfl
      · by_cases c_4 : x = (3:Int32)
        · refine lv_tableIn (off := 41) (tgt := 42) hx hb d_PatternBookModel_most_1 (by rw [c_4]; decide) (by rw [c_4]; decide) (by rw [c_4]; rfl) (by decide) ?_
          refine lv_sipush (v := 16383) hx hb d_PatternBookModel_most_42 (by decide) ?_
          refine W.iret hx hb hr ?_ hS.2.2 d_PatternBookModel_most_45
          exact uEnd (16383:Int32) (hP.sub [] rfl) (hK.sub [] rfl) (hD.sub [] (by decide) rfl) hS (by  exact ((if_neg c_1).trans ((if_neg c_2).trans ((if_neg c_3).trans ((if_pos c_4).trans (rfl))))).symm) rfl
        · refine lv_tableOut (tgt := 46) hx hb d_PatternBookModel_most_1 (by have z0 := lv_neT c_1 (show (0:Int32).toInt = 0 by decide); have z1 := lv_neT c_2 (show (1:Int32).toInt = 1 by decide); have z2 := lv_neT c_3 (show (2:Int32).toInt = 2 by decide); have z3 := lv_neT c_4 (show (3:Int32).toInt = 3 by decide); omega) (by decide) ?_
          refine lv_iload_n hx hb d_PatternBookModel_most_46 rfl (lv_at hl 0 rfl) ?_
          refine lv_iconst (v := 4) hx hb d_PatternBookModel_most_47 (by decide) ?_
          refine lv_isub hx hb d_PatternBookModel_most_48 ?_
          refine lv_iconst (v := 3) hx hb d_PatternBookModel_most_49 (by decide) ?_
          refine lv_irem hx hb d_PatternBookModel_most_50 (by decide) ?_
          refine lv_if_ne (tgt := 59) hx hb d_PatternBookModel_most_51 (by decide) (fun c_5 => ?_) (fun c_5 => ?_)
          · refine lv_iload_n hx hb d_PatternBookModel_most_59 rfl (lv_at hl 0 rfl) ?_
            refine lv_iconst (v := 4) hx hb d_PatternBookModel_most_60 (by decide) ?_
            refine lv_isub hx hb d_PatternBookModel_most_61 ?_
            refine lv_iconst (v := 3) hx hb d_PatternBookModel_most_62 (by decide) ?_
            refine lv_irem hx hb d_PatternBookModel_most_63 (by decide) ?_
            refine lv_iconst (v := 1) hx hb d_PatternBookModel_most_64 (by decide) ?_
            refine lv_icmp_ne (tgt := 74) hx hb d_PatternBookModel_most_65 (by decide) (fun c_6 => ?_) (fun c_6 => ?_)
            · refine lv_sipush (v := 6144) hx hb d_PatternBookModel_most_74 (by decide) ?_
              refine W.iret hx hb hr ?_ hS.2.2 d_PatternBookModel_most_77
              exact uEnd (6144:Int32) (hP.sub [] rfl) (hK.sub [] rfl) (hD.sub [] (by decide) rfl) hS (by  exact ((if_neg c_1).trans ((if_neg c_2).trans ((if_neg c_3).trans ((if_neg c_4).trans ((if_neg c_5).trans ((if_neg c_6).trans (rfl))))))).symm) rfl
            · refine lv_sipush (v := 384) hx hb d_PatternBookModel_most_68 (by decide) ?_
              refine lv_goto (tgt := 77) hx hb d_PatternBookModel_most_71 (by decide) ?_
              refine W.iret hx hb hr ?_ hS.2.2 d_PatternBookModel_most_77
              exact uEnd (384:Int32) (hP.sub [] rfl) (hK.sub [] rfl) (hD.sub [] (by decide) rfl) hS (by  exact ((if_neg c_1).trans ((if_neg c_2).trans ((if_neg c_3).trans ((if_neg c_4).trans ((if_neg c_5).trans ((if_pos c_6).trans (rfl))))))).symm) rfl
          · refine lv_bipush (v := 96) hx hb d_PatternBookModel_most_54 (by decide) ?_
            refine lv_goto (tgt := 77) hx hb d_PatternBookModel_most_56 (by decide) ?_
            refine W.iret hx hb hr ?_ hS.2.2 d_PatternBookModel_most_77
            exact uEnd (96:Int32) (hP.sub [] rfl) (hK.sub [] rfl) (hD.sub [] (by decide) rfl) hS (by  exact ((if_neg c_1).trans ((if_neg c_2).trans ((if_neg c_3).trans ((if_neg c_4).trans ((if_pos c_5).trans (rfl)))))).symm) rfl
set_option maxHeartbeats 4000000 in
set_option maxRecDepth 100000 in
/-- PatternBookModel.least(I)I -/
theorem c_M_least (l : Launch) (D : va_G)  (sz : Nat) (x : Int32) : Met l y_PatternBookModel_least (wsOf y_PatternBookModel_least b_PatternBookModel_least 1 (some .int)) ({ frames := 1, cells := 0, slots := 0, locals := 20 }) (uP D classes [] [] sz [.int x]) (uQ D classes (fun u : Int32 => some (.int u)) (fun u => u = (sl m_M_least) x) (va_A [] sz) (fun _ => []) (fun u => [])) 0 0 (va_A [] sz) := by
  rw [sl_eq m_M_least]
  refine uBegin (by decide +kernel) (Nat.le_of_ble_eq_true rfl) ?_
  intro p e s m below meth c A ls H locs hx hb hr hts hown hlocks hml hin hA hP hK hD hN hS hl
  have hl : lv_has ls 1 [(0, .int x)] := hl
  refine lv_iconst (v := 2) hx hb d_PatternBookModel_least_0 (by decide) ?_
  refine lv_iload_n hx hb d_PatternBookModel_least_1 rfl (lv_at hl 0 rfl) ?_
  refine uCall (WR := []) (RT := []) (va_runS (As := [.int x]) (rest := [.int (2:Int32)]) ⟨hx, hb, hml, hown, hts⟩ (c_M_most l D H.size x) ⟨uCB 1 hts k_256 k_257 k_258 (by decide +kernel) rfl rfl ⟨Nat.le_of_ble_eq_true rfl, Nat.le_of_ble_eq_true rfl⟩, hts _ k_259⟩ (uPreS hK hP hD hN [] rfl (by decide) [] rfl) rfl rfl hl.1 rfl (lv_room (Nat.le_of_ble_eq_true rfl)) d_PatternBookModel_least_2 ⟨(Nat.le_of_ble_eq_true rfl), (Nat.le_of_ble_eq_true rfl)⟩) hK hP hD hS hA [] [] rfl rfl (by decide) (by decide) [] rfl (fun u1 H locs hu1 hP hD hK hS => ?_)
  have hP : va_P D classes [] H := hP
  have hD : va_D A [] := hD
  have hK : va_K D classes [] s := hK
  refine W.eq (g2 := F0 m 5 ls [.int u1, .int (2:Int32)]) rfl ?_
  refine lv_isub hx hb d_PatternBookModel_least_5 ?_
  refine lv_iload_n hx hb d_PatternBookModel_least_6 rfl (lv_at hl 0 rfl) ?_
  refine uCall (WR := []) (RT := []) (va_runS (As := [.int x]) (rest := [.int ((2:Int32) - u1)]) ⟨hx, hb, hml, hown, hts⟩ (c_M_digitsOf l D H.size x) ⟨uCB 1 hts k_260 k_257 k_261 (by decide +kernel) rfl rfl ⟨Nat.le_of_ble_eq_true rfl, Nat.le_of_ble_eq_true rfl⟩, hts _ k_262⟩ (uPreS hK hP hD hN [] rfl (by decide) [] rfl) rfl rfl hl.1 rfl (lv_room (Nat.le_of_ble_eq_true rfl)) d_PatternBookModel_least_7 ⟨(Nat.le_of_ble_eq_true rfl), (Nat.le_of_ble_eq_true rfl)⟩) hK hP hD hS hA [] [] rfl rfl (by decide) (by decide) [] rfl (fun u2 H locs hu2 hP hD hK hS => ?_)
  have hP : va_P D classes [] H := hP
  have hD : va_D A [] := hD
  have hK : va_K D classes [] s := hK
  refine W.eq (g2 := F0 m 10 ls [.int u2, .int ((2:Int32) - u1)]) rfl ?_
  refine lv_isub hx hb d_PatternBookModel_least_10 ?_
  refine W.iret hx hb hr ?_ hS.2.2 d_PatternBookModel_least_11
  exact uEnd (((2:Int32) - u1) - u2) (hP.sub [] rfl) (hK.sub [] rfl) (hD.sub [] (by decide) rfl) hS (by have eu1 := hu1.symm; subst eu1; have eu2 := hu2.symm; subst eu2; exact (rfl).symm) rfl
set_option maxHeartbeats 4000000 in
set_option maxRecDepth 100000 in
/-- PatternBookModel.greatest(I)I -/
theorem c_M_greatest (l : Launch) (D : va_G)  (sz : Nat) (x : Int32) : Met l y_PatternBookModel_greatest (wsOf y_PatternBookModel_greatest b_PatternBookModel_greatest 1 (some .int)) ({ frames := 1, cells := 0, slots := 0, locals := 20 }) (uP D classes [] [] sz [.int x]) (uQ D classes (fun u : Int32 => some (.int u)) (fun u => u = (sl m_M_greatest) x) (va_A [] sz) (fun _ => []) (fun u => [])) 0 0 (va_A [] sz) := by
  rw [sl_eq m_M_greatest]
  refine uBegin (by decide +kernel) (Nat.le_of_ble_eq_true rfl) ?_
  intro p e s m below meth c A ls H locs hx hb hr hts hown hlocks hml hin hA hP hK hD hN hS hl
  have hl : lv_has ls 1 [(0, .int x)] := hl
  refine lv_iload_n hx hb d_PatternBookModel_greatest_0 rfl (lv_at hl 0 rfl) ?_
  refine uCall (WR := []) (RT := []) (va_runS (As := [.int x]) (rest := []) ⟨hx, hb, hml, hown, hts⟩ (c_M_most l D H.size x) ⟨uCB 1 hts k_256 k_257 k_258 (by decide +kernel) rfl rfl ⟨Nat.le_of_ble_eq_true rfl, Nat.le_of_ble_eq_true rfl⟩, hts _ k_259⟩ (uPreS hK hP hD hN [] rfl (by decide) [] rfl) rfl rfl hl.1 rfl (lv_room (Nat.le_of_ble_eq_true rfl)) d_PatternBookModel_greatest_1 ⟨(Nat.le_of_ble_eq_true rfl), (Nat.le_of_ble_eq_true rfl)⟩) hK hP hD hS hA [] [] rfl rfl (by decide) (by decide) [] rfl (fun u1 H locs hu1 hP hD hK hS => ?_)
  have hP : va_P D classes [] H := hP
  have hD : va_D A [] := hD
  have hK : va_K D classes [] s := hK
  refine W.eq (g2 := F0 m 4 ls [.int u1]) rfl ?_
  refine lv_iconst (v := 1) hx hb d_PatternBookModel_greatest_4 (by decide) ?_
  refine lv_iadd hx hb d_PatternBookModel_greatest_5 ?_
  refine lv_iload_n hx hb d_PatternBookModel_greatest_6 rfl (lv_at hl 0 rfl) ?_
  refine uCall (WR := []) (RT := []) (va_runS (As := [.int x]) (rest := [.int (u1 + (1:Int32))]) ⟨hx, hb, hml, hown, hts⟩ (c_M_digitsOf l D H.size x) ⟨uCB 1 hts k_260 k_257 k_261 (by decide +kernel) rfl rfl ⟨Nat.le_of_ble_eq_true rfl, Nat.le_of_ble_eq_true rfl⟩, hts _ k_262⟩ (uPreS hK hP hD hN [] rfl (by decide) [] rfl) rfl rfl hl.1 rfl (lv_room (Nat.le_of_ble_eq_true rfl)) d_PatternBookModel_greatest_7 ⟨(Nat.le_of_ble_eq_true rfl), (Nat.le_of_ble_eq_true rfl)⟩) hK hP hD hS hA [] [] rfl rfl (by decide) (by decide) [] rfl (fun u2 H locs hu2 hP hD hK hS => ?_)
  have hP : va_P D classes [] H := hP
  have hD : va_D A [] := hD
  have hK : va_K D classes [] s := hK
  refine W.eq (g2 := F0 m 10 ls [.int u2, .int (u1 + (1:Int32))]) rfl ?_
  refine lv_isub hx hb d_PatternBookModel_greatest_10 ?_
  refine W.iret hx hb hr ?_ hS.2.2 d_PatternBookModel_greatest_11
  exact uEnd ((u1 + (1:Int32)) - u2) (hP.sub [] rfl) (hK.sub [] rfl) (hD.sub [] (by decide) rfl) hS (by have eu1 := hu1.symm; subst eu1; have eu2 := hu2.symm; subst eu2; exact (rfl).symm) rfl
set_option maxHeartbeats 4000000 in
set_option maxRecDepth 100000 in
/-- PatternBookModel.tail(I)I -/
theorem c_M_tail (l : Launch) (D : va_G)  (sz : Nat) (x : Int32) : Met l y_PatternBookModel_tail (wsOf y_PatternBookModel_tail b_PatternBookModel_tail 1 (some .int)) ({ frames := 1, cells := 0, slots := 0, locals := 20 }) (uP D classes [] [] sz [.int x]) (uQ D classes (fun u : Int32 => some (.int u)) (fun u => u = (sl m_M_tail) x) (va_A [] sz) (fun _ => []) (fun u => [])) 0 0 (va_A [] sz) := by
  rw [sl_eq m_M_tail]
  refine uBegin (by decide +kernel) (Nat.le_of_ble_eq_true rfl) ?_
  intro p e s m below meth c A ls H locs hx hb hr hts hown hlocks hml hin hA hP hK hD hN hS hl
  have hl : lv_has ls 1 [(0, .int x)] := hl
  refine lv_bipush (v := 10) hx hb d_PatternBookModel_tail_0 (by decide) ?_
  refine lv_iload_n hx hb d_PatternBookModel_tail_2 rfl (lv_at hl 0 rfl) ?_
  refine uCall (WR := []) (RT := []) (va_runS (As := [.int x]) (rest := [.int (10:Int32)]) ⟨hx, hb, hml, hown, hts⟩ (c_M_digitsOf l D H.size x) ⟨uCB 1 hts k_260 k_257 k_261 (by decide +kernel) rfl rfl ⟨Nat.le_of_ble_eq_true rfl, Nat.le_of_ble_eq_true rfl⟩, hts _ k_262⟩ (uPreS hK hP hD hN [] rfl (by decide) [] rfl) rfl rfl hl.1 rfl (lv_room (Nat.le_of_ble_eq_true rfl)) d_PatternBookModel_tail_3 ⟨(Nat.le_of_ble_eq_true rfl), (Nat.le_of_ble_eq_true rfl)⟩) hK hP hD hS hA [] [] rfl rfl (by decide) (by decide) [] rfl (fun u1 H locs hu1 hP hD hK hS => ?_)
  have hP : va_P D classes [] H := hP
  have hD : va_D A [] := hD
  have hK : va_K D classes [] s := hK
  refine W.eq (g2 := F0 m 6 ls [.int u1, .int (10:Int32)]) rfl ?_
  refine lv_iconst (v := 1) hx hb d_PatternBookModel_tail_6 (by decide) ?_
  refine lv_isub hx hb d_PatternBookModel_tail_7 ?_
  refine lv_iconst (v := 3) hx hb d_PatternBookModel_tail_8 (by decide) ?_
  refine lv_idiv hx hb d_PatternBookModel_tail_9 (by decide) ?_
  refine lv_imul hx hb d_PatternBookModel_tail_10 ?_
  refine W.iret hx hb hr ?_ hS.2.2 d_PatternBookModel_tail_11
  exact uEnd ((10:Int32) * ((u1 - (1:Int32)) / (3:Int32))) (hP.sub [] rfl) (hK.sub [] rfl) (hD.sub [] (by decide) rfl) hS (by have eu1 := hu1.symm; subst eu1; exact (rfl).symm) rfl
set_option maxHeartbeats 4000000 in
set_option maxRecDepth 100000 in
/-- PatternBookModel.be(IJ)V -/
theorem c_M_be0 (l : Launch) (D : va_G) (mo : Nat) (wa : Nat) (sa : Nat) (ma : Nat) (cW : ClassId) (sz : Nat) (x : Int64) (co : Int32) (kd : Int32) (sg : Int32) (ex : Int32) (hi : Int64) (lo : Int64) (lh : Int64) (ll : Int64) (w : Nat → Int64) : Met l y_PatternBookModel_be (wsOf y_PatternBookModel_be b_PatternBookModel_be 4 none) ({ frames := 0, cells := 0, slots := 0, locals := 0 }) (uP D classes [(mo, .inr (6, [.int co, .int kd, .int sg, .int ex, .ref wa, .long hi, .long lo, .long lh, .long ll, .ref sa, .ref ma])), (wa, .inl (cW, 12, .inr (.inl w)))] [(cW, .long)] sz [.ref mo, .int (0:Int32), .long x]) (uQ D classes (fun _ : (Nat → Int64) => none) (fun u => u = (sl m_M_be0) x w) (va_A [(mo, .inr (6, [.int co, .int kd, .int sg, .int ex, .ref wa, .long hi, .long lo, .long lh, .long ll, .ref sa, .ref ma])), (wa, .inl (cW, 12, .inr (.inl w)))] sz) (fun _ => [(cW, .long)]) (fun u => [(mo, .inr (6, [.int co, .int kd, .int sg, .int ex, .ref wa, .long hi, .long lo, .long lh, .long ll, .ref sa, .ref ma])), (wa, .inl (cW, 12, .inr (.inl u)))])) 0 0 (va_A [(mo, .inr (6, [.int co, .int kd, .int sg, .int ex, .ref wa, .long hi, .long lo, .long lh, .long ll, .ref sa, .ref ma])), (wa, .inl (cW, 12, .inr (.inl w)))] sz) := by
  rw [sl_eq m_M_be0]
  refine uBegin (by decide +kernel) (Nat.le_of_ble_eq_true rfl) ?_
  intro p e s m below meth c A ls H locs hx hb hr hts hown hlocks hml hin hA hP hK hD hN hS hl
  have hl : lv_has ls 4 [(0, .ref mo), (1, .int (0:Int32)), (2, .long x)] := hl
  refine lv_aload_n hx hb d_PatternBookModel_be_0 rfl (lv_at hl 0 rfl) ?_
  refine va_get (D := D) (ci := 6) (v := .ref wa) (C := R_PatternBookModel) (T := F_PatternBookModel) (N := 11) hx hb hts i_PatternBookModel hown hK hP 0 rfl rfl 4 (by decide) (hts _ k_263) (fun _ h9 => h9) rfl d_PatternBookModel_be_1 ?_
  refine lv_iconst (v := 4) hx hb d_PatternBookModel_be_4 (by decide) ?_
  refine lv_iload_n hx hb d_PatternBookModel_be_5 rfl (lv_at hl 1 rfl) ?_
  refine lv_imul hx hb d_PatternBookModel_be_6 ?_
  refine W.eq (g2 := F0 m 7 ls [.int (0:Int32), .ref wa]) rfl ?_
  refine lv_lload_n hx hb d_PatternBookModel_be_7 rfl (lv_at hl 2 rfl) ?_
  refine lv_ldc2 (v := 4294967295) hx hb hown (hts _ k_264) d_PatternBookModel_be_8 ?_
  refine lv_land hx hb d_PatternBookModel_be_11 ?_
  refine va_last hx hb hK hP hD hS 1 0 rfl rfl (idx_in rfl) d_PatternBookModel_be_12 (fun H locs hP hD hS => ?_)
  have hP : va_P D classes [(mo, .inr (6, [.int co, .int kd, .int sg, .int ex, .ref wa, .long hi, .long lo, .long lh, .long ll, .ref sa, .ref ma])), (wa, .inl (cW, 12, .inr (.inl (vp_updL w 0 (x &&& (4294967295:Int64))))))] H := hP
  have hD : va_D A [(mo, .inr (6, [.int co, .int kd, .int sg, .int ex, .ref wa, .long hi, .long lo, .long lh, .long ll, .ref sa, .ref ma])), (wa, .inl (cW, 12, .inr (.inl (vp_updL w 0 (x &&& (4294967295:Int64))))))] := hD
  refine lv_aload_n hx hb d_PatternBookModel_be_13 rfl (lv_at hl 0 rfl) ?_
  refine va_get (D := D) (ci := 6) (v := .ref wa) (C := R_PatternBookModel) (T := F_PatternBookModel) (N := 11) hx hb hts i_PatternBookModel hown hK hP 0 rfl rfl 4 (by decide) (hts _ k_263) (fun _ h9 => h9) rfl d_PatternBookModel_be_14 ?_
  refine lv_iconst (v := 4) hx hb d_PatternBookModel_be_17 (by decide) ?_
  refine lv_iload_n hx hb d_PatternBookModel_be_18 rfl (lv_at hl 1 rfl) ?_
  refine lv_imul hx hb d_PatternBookModel_be_19 ?_
  refine W.eq (g2 := F0 m 20 ls [.int (0:Int32), .ref wa]) rfl ?_
  refine lv_iconst (v := 1) hx hb d_PatternBookModel_be_20 (by decide) ?_
  refine lv_iadd hx hb d_PatternBookModel_be_21 ?_
  refine W.eq (g2 := F0 m 22 ls [.int (1:Int32), .ref wa]) rfl ?_
  refine lv_lload_n hx hb d_PatternBookModel_be_22 rfl (lv_at hl 2 rfl) ?_
  refine lv_bipush (v := 32) hx hb d_PatternBookModel_be_23 (by decide) ?_
  refine lv_lushr (v := lushr_ x (32:Int32)) hx hb d_PatternBookModel_be_25 rfl ?_
  refine va_last hx hb hK hP hD hS 1 0 rfl rfl (idx_in rfl) d_PatternBookModel_be_26 (fun H locs hP hD hS => ?_)
  have hP : va_P D classes [(mo, .inr (6, [.int co, .int kd, .int sg, .int ex, .ref wa, .long hi, .long lo, .long lh, .long ll, .ref sa, .ref ma])), (wa, .inl (cW, 12, .inr (.inl (vp_updL (vp_updL w 0 (x &&& (4294967295:Int64))) 1 (lushr_ x (32:Int32))))))] H := hP
  have hD : va_D A [(mo, .inr (6, [.int co, .int kd, .int sg, .int ex, .ref wa, .long hi, .long lo, .long lh, .long ll, .ref sa, .ref ma])), (wa, .inl (cW, 12, .inr (.inl (vp_updL (vp_updL w 0 (x &&& (4294967295:Int64))) 1 (lushr_ x (32:Int32))))))] := hD
  refine lv_aload_n hx hb d_PatternBookModel_be_27 rfl (lv_at hl 0 rfl) ?_
  refine va_get (D := D) (ci := 6) (v := .ref wa) (C := R_PatternBookModel) (T := F_PatternBookModel) (N := 11) hx hb hts i_PatternBookModel hown hK hP 0 rfl rfl 4 (by decide) (hts _ k_263) (fun _ h9 => h9) rfl d_PatternBookModel_be_28 ?_
  refine lv_iconst (v := 4) hx hb d_PatternBookModel_be_31 (by decide) ?_
  refine lv_iload_n hx hb d_PatternBookModel_be_32 rfl (lv_at hl 1 rfl) ?_
  refine lv_imul hx hb d_PatternBookModel_be_33 ?_
  refine W.eq (g2 := F0 m 34 ls [.int (0:Int32), .ref wa]) rfl ?_
  refine lv_iconst (v := 2) hx hb d_PatternBookModel_be_34 (by decide) ?_
  refine lv_iadd hx hb d_PatternBookModel_be_35 ?_
  refine W.eq (g2 := F0 m 36 ls [.int (2:Int32), .ref wa]) rfl ?_
  refine lv_lconst (v := 0) hx hb d_PatternBookModel_be_36 (by decide) ?_
  refine va_last hx hb hK hP hD hS 1 0 rfl rfl (idx_in rfl) d_PatternBookModel_be_37 (fun H locs hP hD hS => ?_)
  have hP : va_P D classes [(mo, .inr (6, [.int co, .int kd, .int sg, .int ex, .ref wa, .long hi, .long lo, .long lh, .long ll, .ref sa, .ref ma])), (wa, .inl (cW, 12, .inr (.inl (vp_updL (vp_updL (vp_updL w 0 (x &&& (4294967295:Int64))) 1 (lushr_ x (32:Int32))) 2 (0:Int64)))))] H := hP
  have hD : va_D A [(mo, .inr (6, [.int co, .int kd, .int sg, .int ex, .ref wa, .long hi, .long lo, .long lh, .long ll, .ref sa, .ref ma])), (wa, .inl (cW, 12, .inr (.inl (vp_updL (vp_updL (vp_updL w 0 (x &&& (4294967295:Int64))) 1 (lushr_ x (32:Int32))) 2 (0:Int64)))))] := hD
  refine lv_aload_n hx hb d_PatternBookModel_be_38 rfl (lv_at hl 0 rfl) ?_
  refine va_get (D := D) (ci := 6) (v := .ref wa) (C := R_PatternBookModel) (T := F_PatternBookModel) (N := 11) hx hb hts i_PatternBookModel hown hK hP 0 rfl rfl 4 (by decide) (hts _ k_263) (fun _ h9 => h9) rfl d_PatternBookModel_be_39 ?_
  refine lv_iconst (v := 4) hx hb d_PatternBookModel_be_42 (by decide) ?_
  refine lv_iload_n hx hb d_PatternBookModel_be_43 rfl (lv_at hl 1 rfl) ?_
  refine lv_imul hx hb d_PatternBookModel_be_44 ?_
  refine W.eq (g2 := F0 m 45 ls [.int (0:Int32), .ref wa]) rfl ?_
  refine lv_iconst (v := 3) hx hb d_PatternBookModel_be_45 (by decide) ?_
  refine lv_iadd hx hb d_PatternBookModel_be_46 ?_
  refine W.eq (g2 := F0 m 47 ls [.int (3:Int32), .ref wa]) rfl ?_
  refine lv_lconst (v := 0) hx hb d_PatternBookModel_be_47 (by decide) ?_
  refine va_last hx hb hK hP hD hS 1 0 rfl rfl (idx_in rfl) d_PatternBookModel_be_48 (fun H locs hP hD hS => ?_)
  have hP : va_P D classes [(mo, .inr (6, [.int co, .int kd, .int sg, .int ex, .ref wa, .long hi, .long lo, .long lh, .long ll, .ref sa, .ref ma])), (wa, .inl (cW, 12, .inr (.inl (vp_updL (vp_updL (vp_updL (vp_updL w 0 (x &&& (4294967295:Int64))) 1 (lushr_ x (32:Int32))) 2 (0:Int64)) 3 (0:Int64)))))] H := hP
  have hD : va_D A [(mo, .inr (6, [.int co, .int kd, .int sg, .int ex, .ref wa, .long hi, .long lo, .long lh, .long ll, .ref sa, .ref ma])), (wa, .inl (cW, 12, .inr (.inl (vp_updL (vp_updL (vp_updL (vp_updL w 0 (x &&& (4294967295:Int64))) 1 (lushr_ x (32:Int32))) 2 (0:Int64)) 3 (0:Int64)))))] := hD
  refine W.vret hx hb hr ?_ hS.2.2 d_PatternBookModel_be_49
  exact uEnd (vp_updL (vp_updL (vp_updL (vp_updL w 0 (x &&& (4294967295:Int64))) 1 (lushr_ x (32:Int32))) 2 (0:Int64)) 3 (0:Int64)) (hP.sub [0, 1] rfl) (hK.sub [0] rfl) (hD.sub [0, 1] (by decide) rfl) hS rfl rfl
set_option maxHeartbeats 4000000 in
set_option maxRecDepth 100000 in
/-- PatternBookModel.be(IJ)V -/
theorem c_M_be1 (l : Launch) (D : va_G) (mo : Nat) (wa : Nat) (sa : Nat) (ma : Nat) (cW : ClassId) (sz : Nat) (x : Int64) (co : Int32) (kd : Int32) (sg : Int32) (ex : Int32) (hi : Int64) (lo : Int64) (lh : Int64) (ll : Int64) (w : Nat → Int64) : Met l y_PatternBookModel_be (wsOf y_PatternBookModel_be b_PatternBookModel_be 4 none) ({ frames := 0, cells := 0, slots := 0, locals := 0 }) (uP D classes [(mo, .inr (6, [.int co, .int kd, .int sg, .int ex, .ref wa, .long hi, .long lo, .long lh, .long ll, .ref sa, .ref ma])), (wa, .inl (cW, 12, .inr (.inl w)))] [(cW, .long)] sz [.ref mo, .int (1:Int32), .long x]) (uQ D classes (fun _ : (Nat → Int64) => none) (fun u => u = (sl m_M_be1) x w) (va_A [(mo, .inr (6, [.int co, .int kd, .int sg, .int ex, .ref wa, .long hi, .long lo, .long lh, .long ll, .ref sa, .ref ma])), (wa, .inl (cW, 12, .inr (.inl w)))] sz) (fun _ => [(cW, .long)]) (fun u => [(mo, .inr (6, [.int co, .int kd, .int sg, .int ex, .ref wa, .long hi, .long lo, .long lh, .long ll, .ref sa, .ref ma])), (wa, .inl (cW, 12, .inr (.inl u)))])) 0 0 (va_A [(mo, .inr (6, [.int co, .int kd, .int sg, .int ex, .ref wa, .long hi, .long lo, .long lh, .long ll, .ref sa, .ref ma])), (wa, .inl (cW, 12, .inr (.inl w)))] sz) := by
  rw [sl_eq m_M_be1]
  refine uBegin (by decide +kernel) (Nat.le_of_ble_eq_true rfl) ?_
  intro p e s m below meth c A ls H locs hx hb hr hts hown hlocks hml hin hA hP hK hD hN hS hl
  have hl : lv_has ls 4 [(0, .ref mo), (1, .int (1:Int32)), (2, .long x)] := hl
  refine lv_aload_n hx hb d_PatternBookModel_be_0 rfl (lv_at hl 0 rfl) ?_
  refine va_get (D := D) (ci := 6) (v := .ref wa) (C := R_PatternBookModel) (T := F_PatternBookModel) (N := 11) hx hb hts i_PatternBookModel hown hK hP 0 rfl rfl 4 (by decide) (hts _ k_263) (fun _ h9 => h9) rfl d_PatternBookModel_be_1 ?_
  refine lv_iconst (v := 4) hx hb d_PatternBookModel_be_4 (by decide) ?_
  refine lv_iload_n hx hb d_PatternBookModel_be_5 rfl (lv_at hl 1 rfl) ?_
  refine lv_imul hx hb d_PatternBookModel_be_6 ?_
  refine W.eq (g2 := F0 m 7 ls [.int (4:Int32), .ref wa]) rfl ?_
  refine lv_lload_n hx hb d_PatternBookModel_be_7 rfl (lv_at hl 2 rfl) ?_
  refine lv_ldc2 (v := 4294967295) hx hb hown (hts _ k_264) d_PatternBookModel_be_8 ?_
  refine lv_land hx hb d_PatternBookModel_be_11 ?_
  refine va_last hx hb hK hP hD hS 1 0 rfl rfl (idx_in rfl) d_PatternBookModel_be_12 (fun H locs hP hD hS => ?_)
  have hP : va_P D classes [(mo, .inr (6, [.int co, .int kd, .int sg, .int ex, .ref wa, .long hi, .long lo, .long lh, .long ll, .ref sa, .ref ma])), (wa, .inl (cW, 12, .inr (.inl (vp_updL w 4 (x &&& (4294967295:Int64))))))] H := hP
  have hD : va_D A [(mo, .inr (6, [.int co, .int kd, .int sg, .int ex, .ref wa, .long hi, .long lo, .long lh, .long ll, .ref sa, .ref ma])), (wa, .inl (cW, 12, .inr (.inl (vp_updL w 4 (x &&& (4294967295:Int64))))))] := hD
  refine lv_aload_n hx hb d_PatternBookModel_be_13 rfl (lv_at hl 0 rfl) ?_
  refine va_get (D := D) (ci := 6) (v := .ref wa) (C := R_PatternBookModel) (T := F_PatternBookModel) (N := 11) hx hb hts i_PatternBookModel hown hK hP 0 rfl rfl 4 (by decide) (hts _ k_263) (fun _ h9 => h9) rfl d_PatternBookModel_be_14 ?_
  refine lv_iconst (v := 4) hx hb d_PatternBookModel_be_17 (by decide) ?_
  refine lv_iload_n hx hb d_PatternBookModel_be_18 rfl (lv_at hl 1 rfl) ?_
  refine lv_imul hx hb d_PatternBookModel_be_19 ?_
  refine W.eq (g2 := F0 m 20 ls [.int (4:Int32), .ref wa]) rfl ?_
  refine lv_iconst (v := 1) hx hb d_PatternBookModel_be_20 (by decide) ?_
  refine lv_iadd hx hb d_PatternBookModel_be_21 ?_
  refine W.eq (g2 := F0 m 22 ls [.int (5:Int32), .ref wa]) rfl ?_
  refine lv_lload_n hx hb d_PatternBookModel_be_22 rfl (lv_at hl 2 rfl) ?_
  refine lv_bipush (v := 32) hx hb d_PatternBookModel_be_23 (by decide) ?_
  refine lv_lushr (v := lushr_ x (32:Int32)) hx hb d_PatternBookModel_be_25 rfl ?_
  refine va_last hx hb hK hP hD hS 1 0 rfl rfl (idx_in rfl) d_PatternBookModel_be_26 (fun H locs hP hD hS => ?_)
  have hP : va_P D classes [(mo, .inr (6, [.int co, .int kd, .int sg, .int ex, .ref wa, .long hi, .long lo, .long lh, .long ll, .ref sa, .ref ma])), (wa, .inl (cW, 12, .inr (.inl (vp_updL (vp_updL w 4 (x &&& (4294967295:Int64))) 5 (lushr_ x (32:Int32))))))] H := hP
  have hD : va_D A [(mo, .inr (6, [.int co, .int kd, .int sg, .int ex, .ref wa, .long hi, .long lo, .long lh, .long ll, .ref sa, .ref ma])), (wa, .inl (cW, 12, .inr (.inl (vp_updL (vp_updL w 4 (x &&& (4294967295:Int64))) 5 (lushr_ x (32:Int32))))))] := hD
  refine lv_aload_n hx hb d_PatternBookModel_be_27 rfl (lv_at hl 0 rfl) ?_
  refine va_get (D := D) (ci := 6) (v := .ref wa) (C := R_PatternBookModel) (T := F_PatternBookModel) (N := 11) hx hb hts i_PatternBookModel hown hK hP 0 rfl rfl 4 (by decide) (hts _ k_263) (fun _ h9 => h9) rfl d_PatternBookModel_be_28 ?_
  refine lv_iconst (v := 4) hx hb d_PatternBookModel_be_31 (by decide) ?_
  refine lv_iload_n hx hb d_PatternBookModel_be_32 rfl (lv_at hl 1 rfl) ?_
  refine lv_imul hx hb d_PatternBookModel_be_33 ?_
  refine W.eq (g2 := F0 m 34 ls [.int (4:Int32), .ref wa]) rfl ?_
  refine lv_iconst (v := 2) hx hb d_PatternBookModel_be_34 (by decide) ?_
  refine lv_iadd hx hb d_PatternBookModel_be_35 ?_
  refine W.eq (g2 := F0 m 36 ls [.int (6:Int32), .ref wa]) rfl ?_
  refine lv_lconst (v := 0) hx hb d_PatternBookModel_be_36 (by decide) ?_
  refine va_last hx hb hK hP hD hS 1 0 rfl rfl (idx_in rfl) d_PatternBookModel_be_37 (fun H locs hP hD hS => ?_)
  have hP : va_P D classes [(mo, .inr (6, [.int co, .int kd, .int sg, .int ex, .ref wa, .long hi, .long lo, .long lh, .long ll, .ref sa, .ref ma])), (wa, .inl (cW, 12, .inr (.inl (vp_updL (vp_updL (vp_updL w 4 (x &&& (4294967295:Int64))) 5 (lushr_ x (32:Int32))) 6 (0:Int64)))))] H := hP
  have hD : va_D A [(mo, .inr (6, [.int co, .int kd, .int sg, .int ex, .ref wa, .long hi, .long lo, .long lh, .long ll, .ref sa, .ref ma])), (wa, .inl (cW, 12, .inr (.inl (vp_updL (vp_updL (vp_updL w 4 (x &&& (4294967295:Int64))) 5 (lushr_ x (32:Int32))) 6 (0:Int64)))))] := hD
  refine lv_aload_n hx hb d_PatternBookModel_be_38 rfl (lv_at hl 0 rfl) ?_
  refine va_get (D := D) (ci := 6) (v := .ref wa) (C := R_PatternBookModel) (T := F_PatternBookModel) (N := 11) hx hb hts i_PatternBookModel hown hK hP 0 rfl rfl 4 (by decide) (hts _ k_263) (fun _ h9 => h9) rfl d_PatternBookModel_be_39 ?_
  refine lv_iconst (v := 4) hx hb d_PatternBookModel_be_42 (by decide) ?_
  refine lv_iload_n hx hb d_PatternBookModel_be_43 rfl (lv_at hl 1 rfl) ?_
  refine lv_imul hx hb d_PatternBookModel_be_44 ?_
  refine W.eq (g2 := F0 m 45 ls [.int (4:Int32), .ref wa]) rfl ?_
  refine lv_iconst (v := 3) hx hb d_PatternBookModel_be_45 (by decide) ?_
  refine lv_iadd hx hb d_PatternBookModel_be_46 ?_
  refine W.eq (g2 := F0 m 47 ls [.int (7:Int32), .ref wa]) rfl ?_
  refine lv_lconst (v := 0) hx hb d_PatternBookModel_be_47 (by decide) ?_
  refine va_last hx hb hK hP hD hS 1 0 rfl rfl (idx_in rfl) d_PatternBookModel_be_48 (fun H locs hP hD hS => ?_)
  have hP : va_P D classes [(mo, .inr (6, [.int co, .int kd, .int sg, .int ex, .ref wa, .long hi, .long lo, .long lh, .long ll, .ref sa, .ref ma])), (wa, .inl (cW, 12, .inr (.inl (vp_updL (vp_updL (vp_updL (vp_updL w 4 (x &&& (4294967295:Int64))) 5 (lushr_ x (32:Int32))) 6 (0:Int64)) 7 (0:Int64)))))] H := hP
  have hD : va_D A [(mo, .inr (6, [.int co, .int kd, .int sg, .int ex, .ref wa, .long hi, .long lo, .long lh, .long ll, .ref sa, .ref ma])), (wa, .inl (cW, 12, .inr (.inl (vp_updL (vp_updL (vp_updL (vp_updL w 4 (x &&& (4294967295:Int64))) 5 (lushr_ x (32:Int32))) 6 (0:Int64)) 7 (0:Int64)))))] := hD
  refine W.vret hx hb hr ?_ hS.2.2 d_PatternBookModel_be_49
  exact uEnd (vp_updL (vp_updL (vp_updL (vp_updL w 4 (x &&& (4294967295:Int64))) 5 (lushr_ x (32:Int32))) 6 (0:Int64)) 7 (0:Int64)) (hP.sub [0, 1] rfl) (hK.sub [0] rfl) (hD.sub [0, 1] (by decide) rfl) hS rfl rfl
set_option maxHeartbeats 4000000 in
set_option maxRecDepth 100000 in
/-- PatternBookModel.times(III)V -/
theorem c_M_times0 (l : Launch) (D : va_G) (mo : Nat) (wa : Nat) (sa : Nat) (ma : Nat) (cW : ClassId) (sz : Nat) (x : Int32) (y : Int32) (co : Int32) (kd : Int32) (sg : Int32) (ex : Int32) (hi : Int64) (lo : Int64) (lh : Int64) (ll : Int64) (w : Nat → Int64) : Met l y_PatternBookModel_times (wsOf y_PatternBookModel_times b_PatternBookModel_times 9 none) ({ frames := 0, cells := 0, slots := 0, locals := 0 }) (uP D classes [(mo, .inr (6, [.int co, .int kd, .int sg, .int ex, .ref wa, .long hi, .long lo, .long lh, .long ll, .ref sa, .ref ma])), (wa, .inl (cW, 12, .inr (.inl w)))] [(cW, .long)] sz [.ref mo, .int (0:Int32), .int x, .int y]) (uQ D classes (fun _ : (Nat → Int64) => none) (fun u => u = (sl m_M_times0) x y w) (va_A [(mo, .inr (6, [.int co, .int kd, .int sg, .int ex, .ref wa, .long hi, .long lo, .long lh, .long ll, .ref sa, .ref ma])), (wa, .inl (cW, 12, .inr (.inl w)))] sz) (fun _ => [(cW, .long)]) (fun u => [(mo, .inr (6, [.int co, .int kd, .int sg, .int ex, .ref wa, .long hi, .long lo, .long lh, .long ll, .ref sa, .ref ma])), (wa, .inl (cW, 12, .inr (.inl u)))])) 0 0 (va_A [(mo, .inr (6, [.int co, .int kd, .int sg, .int ex, .ref wa, .long hi, .long lo, .long lh, .long ll, .ref sa, .ref ma])), (wa, .inl (cW, 12, .inr (.inl w)))] sz) := by
  rw [sl_eq m_M_times0]
  refine uBegin (by decide +kernel) (Nat.le_of_ble_eq_true rfl) ?_
  intro p e s m below meth c A ls H locs hx hb hr hts hown hlocks hml hin hA hP hK hD hN hS hl
  have hl : lv_has ls 9 [(0, .ref mo), (1, .int (0:Int32)), (2, .int x), (3, .int y)] := hl
  refine lv_iload_n hx hb d_PatternBookModel_times_0 rfl (lv_at hl 3 rfl) ?_
  refine lv_i2l hx hb d_PatternBookModel_times_1 rfl ?_
  refine lv_lstore (lv' := [(4, .long (Int32.toInt64 y)), (0, .ref mo), (1, .int (0:Int32)), (2, .int x), (3, .int y)]) hx hb d_PatternBookModel_times_2 hl (by decide) rfl (fun ls hl => ?_)
  refine lv_iconst (v := 0) hx hb d_PatternBookModel_times_4 (by decide) ?_
  refine lv_istore (lv' := [(6, .int (0:Int32)), (4, .long (Int32.toInt64 y)), (0, .ref mo), (1, .int (0:Int32)), (2, .int x), (3, .int y)]) hx hb d_PatternBookModel_times_5 hl (by decide) rfl (fun ls hl => ?_)
  refine lv_iload hx hb d_PatternBookModel_times_7 (lv_at hl 0 rfl) ?_
  refine lv_iconst (v := 4) hx hb d_PatternBookModel_times_9 (by decide) ?_
  refine lv_icmp_ge (tgt := 62) hx hb d_PatternBookModel_times_10 (by decide) (fun c_1 => ?_) (fun c_1 => ?_)
  · exact absurd c_1 (by decide)
  · refine lv_aload_n hx hb d_PatternBookModel_times_13 rfl (lv_at hl 2 rfl) ?_
    refine va_get (D := D) (ci := 6) (v := .ref wa) (C := R_PatternBookModel) (T := F_PatternBookModel) (N := 11) hx hb hts i_PatternBookModel hown hK hP 0 rfl rfl 4 (by decide) (hts _ k_263) (fun _ h9 => h9) rfl d_PatternBookModel_times_14 ?_
    refine lv_iconst (v := 4) hx hb d_PatternBookModel_times_17 (by decide) ?_
    refine lv_iload_n hx hb d_PatternBookModel_times_18 rfl (lv_at hl 3 rfl) ?_
    refine lv_imul hx hb d_PatternBookModel_times_19 ?_
    refine W.eq (g2 := F0 m 20 ls [.int (0:Int32), .ref wa]) rfl ?_
    refine lv_iload hx hb d_PatternBookModel_times_20 (lv_at hl 0 rfl) ?_
    refine lv_iadd hx hb d_PatternBookModel_times_22 ?_
    refine W.eq (g2 := F0 m 23 ls [.int (0:Int32), .ref wa]) rfl ?_
    refine va_lald hx hb hK hP 1 0 rfl rfl (idx_in rfl) d_PatternBookModel_times_23 ?_
    refine W.eq (g2 := F0 m 24 ls [.long (w 0)]) rfl ?_
    refine lv_iload_n hx hb d_PatternBookModel_times_24 rfl (lv_at hl 4 rfl) ?_
    refine lv_i2l hx hb d_PatternBookModel_times_25 rfl ?_
    refine lv_lmul hx hb d_PatternBookModel_times_26 ?_
    refine lv_lload hx hb d_PatternBookModel_times_27 (lv_at hl 1 rfl) ?_
    refine lv_ladd hx hb d_PatternBookModel_times_29 ?_
    refine lv_lstore (lv' := [(7, .long (((w 0) * (Int32.toInt64 x)) + (Int32.toInt64 y))), (6, .int (0:Int32)), (4, .long (Int32.toInt64 y)), (0, .ref mo), (1, .int (0:Int32)), (2, .int x), (3, .int y)]) hx hb d_PatternBookModel_times_30 hl (by decide) rfl (fun ls hl => ?_)
    refine lv_aload_n hx hb d_PatternBookModel_times_32 rfl (lv_at hl 3 rfl) ?_
    refine va_get (D := D) (ci := 6) (v := .ref wa) (C := R_PatternBookModel) (T := F_PatternBookModel) (N := 11) hx hb hts i_PatternBookModel hown hK hP 0 rfl rfl 4 (by decide) (hts _ k_263) (fun _ h9 => h9) rfl d_PatternBookModel_times_33 ?_
    refine lv_iconst (v := 4) hx hb d_PatternBookModel_times_36 (by decide) ?_
    refine lv_iload_n hx hb d_PatternBookModel_times_37 rfl (lv_at hl 4 rfl) ?_
    refine lv_imul hx hb d_PatternBookModel_times_38 ?_
    refine W.eq (g2 := F0 m 39 ls [.int (0:Int32), .ref wa]) rfl ?_
    refine lv_iload hx hb d_PatternBookModel_times_39 (lv_at hl 1 rfl) ?_
    refine lv_iadd hx hb d_PatternBookModel_times_41 ?_
    refine W.eq (g2 := F0 m 42 ls [.int (0:Int32), .ref wa]) rfl ?_
    refine lv_lload hx hb d_PatternBookModel_times_42 (lv_at hl 0 rfl) ?_
    refine lv_ldc2 (v := 4294967295) hx hb hown (hts _ k_264) d_PatternBookModel_times_44 ?_
    refine lv_land hx hb d_PatternBookModel_times_47 ?_
    refine va_last hx hb hK hP hD hS 1 0 rfl rfl (idx_in rfl) d_PatternBookModel_times_48 (fun H locs hP hD hS => ?_)
    have hP : va_P D classes [(mo, .inr (6, [.int co, .int kd, .int sg, .int ex, .ref wa, .long hi, .long lo, .long lh, .long ll, .ref sa, .ref ma])), (wa, .inl (cW, 12, .inr (.inl (vp_updL w 0 ((((w 0) * (Int32.toInt64 x)) + (Int32.toInt64 y)) &&& (4294967295:Int64))))))] H := hP
    have hD : va_D A [(mo, .inr (6, [.int co, .int kd, .int sg, .int ex, .ref wa, .long hi, .long lo, .long lh, .long ll, .ref sa, .ref ma])), (wa, .inl (cW, 12, .inr (.inl (vp_updL w 0 ((((w 0) * (Int32.toInt64 x)) + (Int32.toInt64 y)) &&& (4294967295:Int64))))))] := hD
    refine lv_lload hx hb d_PatternBookModel_times_49 (lv_at hl 0 rfl) ?_
    refine lv_bipush (v := 32) hx hb d_PatternBookModel_times_51 (by decide) ?_
    refine lv_lushr (v := lushr_ (((w 0) * (Int32.toInt64 x)) + (Int32.toInt64 y)) (32:Int32)) hx hb d_PatternBookModel_times_53 rfl ?_
    refine lv_lstore (lv' := [(4, .long (lushr_ (((w 0) * (Int32.toInt64 x)) + (Int32.toInt64 y)) (32:Int32))), (7, .long (((w 0) * (Int32.toInt64 x)) + (Int32.toInt64 y))), (6, .int (0:Int32)), (0, .ref mo), (1, .int (0:Int32)), (2, .int x), (3, .int y)]) hx hb d_PatternBookModel_times_54 hl (by decide) rfl (fun ls hl => ?_)
    refine lv_iinc (v := (1:Int32)) (lv' := [(6, .int (1:Int32)), (4, .long (lushr_ (((w 0) * (Int32.toInt64 x)) + (Int32.toInt64 y)) (32:Int32))), (7, .long (((w 0) * (Int32.toInt64 x)) + (Int32.toInt64 y))), (0, .ref mo), (1, .int (0:Int32)), (2, .int x), (3, .int y)]) hx hb d_PatternBookModel_times_56 hl (k := 2) rfl rfl (by decide) rfl (fun ls hl => ?_)
    refine lv_goto (tgt := 7) hx hb d_PatternBookModel_times_59 (by decide) ?_
    refine lv_iload hx hb d_PatternBookModel_times_7 (lv_at hl 0 rfl) ?_
    refine lv_iconst (v := 4) hx hb d_PatternBookModel_times_9 (by decide) ?_
    refine lv_icmp_ge (tgt := 62) hx hb d_PatternBookModel_times_10 (by decide) (fun c_2 => ?_) (fun c_2 => ?_)
    · exact absurd c_2 (by decide)
    · refine lv_aload_n hx hb d_PatternBookModel_times_13 rfl (lv_at hl 3 rfl) ?_
      refine va_get (D := D) (ci := 6) (v := .ref wa) (C := R_PatternBookModel) (T := F_PatternBookModel) (N := 11) hx hb hts i_PatternBookModel hown hK hP 0 rfl rfl 4 (by decide) (hts _ k_263) (fun _ h9 => h9) rfl d_PatternBookModel_times_14 ?_
      refine lv_iconst (v := 4) hx hb d_PatternBookModel_times_17 (by decide) ?_
      refine lv_iload_n hx hb d_PatternBookModel_times_18 rfl (lv_at hl 4 rfl) ?_
      refine lv_imul hx hb d_PatternBookModel_times_19 ?_
      refine W.eq (g2 := F0 m 20 ls [.int (0:Int32), .ref wa]) rfl ?_
      refine lv_iload hx hb d_PatternBookModel_times_20 (lv_at hl 0 rfl) ?_
      refine lv_iadd hx hb d_PatternBookModel_times_22 ?_
      refine W.eq (g2 := F0 m 23 ls [.int (1:Int32), .ref wa]) rfl ?_
      refine va_lald hx hb hK hP 1 0 rfl rfl (idx_in rfl) d_PatternBookModel_times_23 ?_
      refine W.eq (g2 := F0 m 24 ls [.long (w 1)]) rfl ?_
      refine lv_iload_n hx hb d_PatternBookModel_times_24 rfl (lv_at hl 5 rfl) ?_
      refine lv_i2l hx hb d_PatternBookModel_times_25 rfl ?_
      refine lv_lmul hx hb d_PatternBookModel_times_26 ?_
      refine lv_lload hx hb d_PatternBookModel_times_27 (lv_at hl 1 rfl) ?_
      refine lv_ladd hx hb d_PatternBookModel_times_29 ?_
      refine lv_topl (fun z3 hz3 => ?_)
      refine lv_lstore (lv' := [(7, .long z3), (6, .int (1:Int32)), (4, .long (lushr_ (((w 0) * (Int32.toInt64 x)) + (Int32.toInt64 y)) (32:Int32))), (0, .ref mo), (1, .int (0:Int32)), (2, .int x), (3, .int y)]) hx hb d_PatternBookModel_times_30 hl (by decide) rfl (fun ls hl => ?_)
      refine lv_aload_n hx hb d_PatternBookModel_times_32 rfl (lv_at hl 3 rfl) ?_
      refine va_get (D := D) (ci := 6) (v := .ref wa) (C := R_PatternBookModel) (T := F_PatternBookModel) (N := 11) hx hb hts i_PatternBookModel hown hK hP 0 rfl rfl 4 (by decide) (hts _ k_263) (fun _ h9 => h9) rfl d_PatternBookModel_times_33 ?_
      refine lv_iconst (v := 4) hx hb d_PatternBookModel_times_36 (by decide) ?_
      refine lv_iload_n hx hb d_PatternBookModel_times_37 rfl (lv_at hl 4 rfl) ?_
      refine lv_imul hx hb d_PatternBookModel_times_38 ?_
      refine W.eq (g2 := F0 m 39 ls [.int (0:Int32), .ref wa]) rfl ?_
      refine lv_iload hx hb d_PatternBookModel_times_39 (lv_at hl 1 rfl) ?_
      refine lv_iadd hx hb d_PatternBookModel_times_41 ?_
      refine W.eq (g2 := F0 m 42 ls [.int (1:Int32), .ref wa]) rfl ?_
      refine lv_lload hx hb d_PatternBookModel_times_42 (lv_at hl 0 rfl) ?_
      refine lv_ldc2 (v := 4294967295) hx hb hown (hts _ k_264) d_PatternBookModel_times_44 ?_
      refine lv_land hx hb d_PatternBookModel_times_47 ?_
      refine va_last hx hb hK hP hD hS 1 0 rfl rfl (idx_in rfl) d_PatternBookModel_times_48 (fun H locs hP hD hS => ?_)
      have hP : va_P D classes [(mo, .inr (6, [.int co, .int kd, .int sg, .int ex, .ref wa, .long hi, .long lo, .long lh, .long ll, .ref sa, .ref ma])), (wa, .inl (cW, 12, .inr (.inl (vp_updL (vp_updL w 0 ((((w 0) * (Int32.toInt64 x)) + (Int32.toInt64 y)) &&& (4294967295:Int64))) 1 (z3 &&& (4294967295:Int64))))))] H := hP
      have hD : va_D A [(mo, .inr (6, [.int co, .int kd, .int sg, .int ex, .ref wa, .long hi, .long lo, .long lh, .long ll, .ref sa, .ref ma])), (wa, .inl (cW, 12, .inr (.inl (vp_updL (vp_updL w 0 ((((w 0) * (Int32.toInt64 x)) + (Int32.toInt64 y)) &&& (4294967295:Int64))) 1 (z3 &&& (4294967295:Int64))))))] := hD
      refine lv_lload hx hb d_PatternBookModel_times_49 (lv_at hl 0 rfl) ?_
      refine lv_bipush (v := 32) hx hb d_PatternBookModel_times_51 (by decide) ?_
      refine lv_lushr (v := lushr_ z3 (32:Int32)) hx hb d_PatternBookModel_times_53 rfl ?_
      refine lv_lstore (lv' := [(4, .long (lushr_ z3 (32:Int32))), (7, .long z3), (6, .int (1:Int32)), (0, .ref mo), (1, .int (0:Int32)), (2, .int x), (3, .int y)]) hx hb d_PatternBookModel_times_54 hl (by decide) rfl (fun ls hl => ?_)
      refine lv_iinc (v := (2:Int32)) (lv' := [(6, .int (2:Int32)), (4, .long (lushr_ z3 (32:Int32))), (7, .long z3), (0, .ref mo), (1, .int (0:Int32)), (2, .int x), (3, .int y)]) hx hb d_PatternBookModel_times_56 hl (k := 2) rfl rfl (by decide) rfl (fun ls hl => ?_)
      refine lv_goto (tgt := 7) hx hb d_PatternBookModel_times_59 (by decide) ?_
      refine lv_iload hx hb d_PatternBookModel_times_7 (lv_at hl 0 rfl) ?_
      refine lv_iconst (v := 4) hx hb d_PatternBookModel_times_9 (by decide) ?_
      refine lv_icmp_ge (tgt := 62) hx hb d_PatternBookModel_times_10 (by decide) (fun c_4 => ?_) (fun c_4 => ?_)
      · exact absurd c_4 (by decide)
      · refine lv_aload_n hx hb d_PatternBookModel_times_13 rfl (lv_at hl 3 rfl) ?_
        refine va_get (D := D) (ci := 6) (v := .ref wa) (C := R_PatternBookModel) (T := F_PatternBookModel) (N := 11) hx hb hts i_PatternBookModel hown hK hP 0 rfl rfl 4 (by decide) (hts _ k_263) (fun _ h9 => h9) rfl d_PatternBookModel_times_14 ?_
        refine lv_iconst (v := 4) hx hb d_PatternBookModel_times_17 (by decide) ?_
        refine lv_iload_n hx hb d_PatternBookModel_times_18 rfl (lv_at hl 4 rfl) ?_
        refine lv_imul hx hb d_PatternBookModel_times_19 ?_
        refine W.eq (g2 := F0 m 20 ls [.int (0:Int32), .ref wa]) rfl ?_
        refine lv_iload hx hb d_PatternBookModel_times_20 (lv_at hl 0 rfl) ?_
        refine lv_iadd hx hb d_PatternBookModel_times_22 ?_
        refine W.eq (g2 := F0 m 23 ls [.int (2:Int32), .ref wa]) rfl ?_
        refine va_lald hx hb hK hP 1 0 rfl rfl (idx_in rfl) d_PatternBookModel_times_23 ?_
        refine W.eq (g2 := F0 m 24 ls [.long (w 2)]) rfl ?_
        refine lv_iload_n hx hb d_PatternBookModel_times_24 rfl (lv_at hl 5 rfl) ?_
        refine lv_i2l hx hb d_PatternBookModel_times_25 rfl ?_
        refine lv_lmul hx hb d_PatternBookModel_times_26 ?_
        refine lv_lload hx hb d_PatternBookModel_times_27 (lv_at hl 1 rfl) ?_
        refine lv_ladd hx hb d_PatternBookModel_times_29 ?_
        refine lv_lstore (lv' := [(7, .long (((w 2) * (Int32.toInt64 x)) + (lushr_ z3 (32:Int32)))), (6, .int (2:Int32)), (4, .long (lushr_ z3 (32:Int32))), (0, .ref mo), (1, .int (0:Int32)), (2, .int x), (3, .int y)]) hx hb d_PatternBookModel_times_30 hl (by decide) rfl (fun ls hl => ?_)
        refine lv_aload_n hx hb d_PatternBookModel_times_32 rfl (lv_at hl 3 rfl) ?_
        refine va_get (D := D) (ci := 6) (v := .ref wa) (C := R_PatternBookModel) (T := F_PatternBookModel) (N := 11) hx hb hts i_PatternBookModel hown hK hP 0 rfl rfl 4 (by decide) (hts _ k_263) (fun _ h9 => h9) rfl d_PatternBookModel_times_33 ?_
        refine lv_iconst (v := 4) hx hb d_PatternBookModel_times_36 (by decide) ?_
        refine lv_iload_n hx hb d_PatternBookModel_times_37 rfl (lv_at hl 4 rfl) ?_
        refine lv_imul hx hb d_PatternBookModel_times_38 ?_
        refine W.eq (g2 := F0 m 39 ls [.int (0:Int32), .ref wa]) rfl ?_
        refine lv_iload hx hb d_PatternBookModel_times_39 (lv_at hl 1 rfl) ?_
        refine lv_iadd hx hb d_PatternBookModel_times_41 ?_
        refine W.eq (g2 := F0 m 42 ls [.int (2:Int32), .ref wa]) rfl ?_
        refine lv_lload hx hb d_PatternBookModel_times_42 (lv_at hl 0 rfl) ?_
        refine lv_ldc2 (v := 4294967295) hx hb hown (hts _ k_264) d_PatternBookModel_times_44 ?_
        refine lv_land hx hb d_PatternBookModel_times_47 ?_
        refine va_last hx hb hK hP hD hS 1 0 rfl rfl (idx_in rfl) d_PatternBookModel_times_48 (fun H locs hP hD hS => ?_)
        have hP : va_P D classes [(mo, .inr (6, [.int co, .int kd, .int sg, .int ex, .ref wa, .long hi, .long lo, .long lh, .long ll, .ref sa, .ref ma])), (wa, .inl (cW, 12, .inr (.inl (vp_updL (vp_updL (vp_updL w 0 ((((w 0) * (Int32.toInt64 x)) + (Int32.toInt64 y)) &&& (4294967295:Int64))) 1 (z3 &&& (4294967295:Int64))) 2 ((((w 2) * (Int32.toInt64 x)) + (lushr_ z3 (32:Int32))) &&& (4294967295:Int64))))))] H := hP
        have hD : va_D A [(mo, .inr (6, [.int co, .int kd, .int sg, .int ex, .ref wa, .long hi, .long lo, .long lh, .long ll, .ref sa, .ref ma])), (wa, .inl (cW, 12, .inr (.inl (vp_updL (vp_updL (vp_updL w 0 ((((w 0) * (Int32.toInt64 x)) + (Int32.toInt64 y)) &&& (4294967295:Int64))) 1 (z3 &&& (4294967295:Int64))) 2 ((((w 2) * (Int32.toInt64 x)) + (lushr_ z3 (32:Int32))) &&& (4294967295:Int64))))))] := hD
        refine lv_lload hx hb d_PatternBookModel_times_49 (lv_at hl 0 rfl) ?_
        refine lv_bipush (v := 32) hx hb d_PatternBookModel_times_51 (by decide) ?_
        refine lv_lushr (v := lushr_ (((w 2) * (Int32.toInt64 x)) + (lushr_ z3 (32:Int32))) (32:Int32)) hx hb d_PatternBookModel_times_53 rfl ?_
        refine lv_topl (fun z5 hz5 => ?_)
        refine lv_lstore (lv' := [(4, .long z5), (7, .long (((w 2) * (Int32.toInt64 x)) + (lushr_ z3 (32:Int32)))), (6, .int (2:Int32)), (0, .ref mo), (1, .int (0:Int32)), (2, .int x), (3, .int y)]) hx hb d_PatternBookModel_times_54 hl (by decide) rfl (fun ls hl => ?_)
        refine lv_iinc (v := (3:Int32)) (lv' := [(6, .int (3:Int32)), (4, .long z5), (7, .long (((w 2) * (Int32.toInt64 x)) + (lushr_ z3 (32:Int32)))), (0, .ref mo), (1, .int (0:Int32)), (2, .int x), (3, .int y)]) hx hb d_PatternBookModel_times_56 hl (k := 2) rfl rfl (by decide) rfl (fun ls hl => ?_)
        refine lv_goto (tgt := 7) hx hb d_PatternBookModel_times_59 (by decide) ?_
        refine lv_iload hx hb d_PatternBookModel_times_7 (lv_at hl 0 rfl) ?_
        refine lv_iconst (v := 4) hx hb d_PatternBookModel_times_9 (by decide) ?_
        refine lv_icmp_ge (tgt := 62) hx hb d_PatternBookModel_times_10 (by decide) (fun c_6 => ?_) (fun c_6 => ?_)
        · exact absurd c_6 (by decide)
        · refine lv_aload_n hx hb d_PatternBookModel_times_13 rfl (lv_at hl 3 rfl) ?_
          refine va_get (D := D) (ci := 6) (v := .ref wa) (C := R_PatternBookModel) (T := F_PatternBookModel) (N := 11) hx hb hts i_PatternBookModel hown hK hP 0 rfl rfl 4 (by decide) (hts _ k_263) (fun _ h9 => h9) rfl d_PatternBookModel_times_14 ?_
          refine lv_iconst (v := 4) hx hb d_PatternBookModel_times_17 (by decide) ?_
          refine lv_iload_n hx hb d_PatternBookModel_times_18 rfl (lv_at hl 4 rfl) ?_
          refine lv_imul hx hb d_PatternBookModel_times_19 ?_
          refine W.eq (g2 := F0 m 20 ls [.int (0:Int32), .ref wa]) rfl ?_
          refine lv_iload hx hb d_PatternBookModel_times_20 (lv_at hl 0 rfl) ?_
          refine lv_iadd hx hb d_PatternBookModel_times_22 ?_
          refine W.eq (g2 := F0 m 23 ls [.int (3:Int32), .ref wa]) rfl ?_
          refine va_lald hx hb hK hP 1 0 rfl rfl (idx_in rfl) d_PatternBookModel_times_23 ?_
          refine W.eq (g2 := F0 m 24 ls [.long (w 3)]) rfl ?_
          refine lv_iload_n hx hb d_PatternBookModel_times_24 rfl (lv_at hl 5 rfl) ?_
          refine lv_i2l hx hb d_PatternBookModel_times_25 rfl ?_
          refine lv_lmul hx hb d_PatternBookModel_times_26 ?_
          refine lv_lload hx hb d_PatternBookModel_times_27 (lv_at hl 1 rfl) ?_
          refine lv_ladd hx hb d_PatternBookModel_times_29 ?_
          refine lv_lstore (lv' := [(7, .long (((w 3) * (Int32.toInt64 x)) + z5)), (6, .int (3:Int32)), (4, .long z5), (0, .ref mo), (1, .int (0:Int32)), (2, .int x), (3, .int y)]) hx hb d_PatternBookModel_times_30 hl (by decide) rfl (fun ls hl => ?_)
          refine lv_aload_n hx hb d_PatternBookModel_times_32 rfl (lv_at hl 3 rfl) ?_
          refine va_get (D := D) (ci := 6) (v := .ref wa) (C := R_PatternBookModel) (T := F_PatternBookModel) (N := 11) hx hb hts i_PatternBookModel hown hK hP 0 rfl rfl 4 (by decide) (hts _ k_263) (fun _ h9 => h9) rfl d_PatternBookModel_times_33 ?_
          refine lv_iconst (v := 4) hx hb d_PatternBookModel_times_36 (by decide) ?_
          refine lv_iload_n hx hb d_PatternBookModel_times_37 rfl (lv_at hl 4 rfl) ?_
          refine lv_imul hx hb d_PatternBookModel_times_38 ?_
          refine W.eq (g2 := F0 m 39 ls [.int (0:Int32), .ref wa]) rfl ?_
          refine lv_iload hx hb d_PatternBookModel_times_39 (lv_at hl 1 rfl) ?_
          refine lv_iadd hx hb d_PatternBookModel_times_41 ?_
          refine W.eq (g2 := F0 m 42 ls [.int (3:Int32), .ref wa]) rfl ?_
          refine lv_lload hx hb d_PatternBookModel_times_42 (lv_at hl 0 rfl) ?_
          refine lv_ldc2 (v := 4294967295) hx hb hown (hts _ k_264) d_PatternBookModel_times_44 ?_
          refine lv_land hx hb d_PatternBookModel_times_47 ?_
          refine va_last hx hb hK hP hD hS 1 0 rfl rfl (idx_in rfl) d_PatternBookModel_times_48 (fun H locs hP hD hS => ?_)
          have hP : va_P D classes [(mo, .inr (6, [.int co, .int kd, .int sg, .int ex, .ref wa, .long hi, .long lo, .long lh, .long ll, .ref sa, .ref ma])), (wa, .inl (cW, 12, .inr (.inl (vp_updL (vp_updL (vp_updL (vp_updL w 0 ((((w 0) * (Int32.toInt64 x)) + (Int32.toInt64 y)) &&& (4294967295:Int64))) 1 (z3 &&& (4294967295:Int64))) 2 ((((w 2) * (Int32.toInt64 x)) + (lushr_ z3 (32:Int32))) &&& (4294967295:Int64))) 3 ((((w 3) * (Int32.toInt64 x)) + z5) &&& (4294967295:Int64))))))] H := hP
          have hD : va_D A [(mo, .inr (6, [.int co, .int kd, .int sg, .int ex, .ref wa, .long hi, .long lo, .long lh, .long ll, .ref sa, .ref ma])), (wa, .inl (cW, 12, .inr (.inl (vp_updL (vp_updL (vp_updL (vp_updL w 0 ((((w 0) * (Int32.toInt64 x)) + (Int32.toInt64 y)) &&& (4294967295:Int64))) 1 (z3 &&& (4294967295:Int64))) 2 ((((w 2) * (Int32.toInt64 x)) + (lushr_ z3 (32:Int32))) &&& (4294967295:Int64))) 3 ((((w 3) * (Int32.toInt64 x)) + z5) &&& (4294967295:Int64))))))] := hD
          refine lv_lload hx hb d_PatternBookModel_times_49 (lv_at hl 0 rfl) ?_
          refine lv_bipush (v := 32) hx hb d_PatternBookModel_times_51 (by decide) ?_
          refine lv_lushr (v := lushr_ (((w 3) * (Int32.toInt64 x)) + z5) (32:Int32)) hx hb d_PatternBookModel_times_53 rfl ?_
          refine lv_lstore (lv' := [(4, .long (lushr_ (((w 3) * (Int32.toInt64 x)) + z5) (32:Int32))), (7, .long (((w 3) * (Int32.toInt64 x)) + z5)), (6, .int (3:Int32)), (0, .ref mo), (1, .int (0:Int32)), (2, .int x), (3, .int y)]) hx hb d_PatternBookModel_times_54 hl (by decide) rfl (fun ls hl => ?_)
          refine lv_iinc (v := (4:Int32)) (lv' := [(6, .int (4:Int32)), (4, .long (lushr_ (((w 3) * (Int32.toInt64 x)) + z5) (32:Int32))), (7, .long (((w 3) * (Int32.toInt64 x)) + z5)), (0, .ref mo), (1, .int (0:Int32)), (2, .int x), (3, .int y)]) hx hb d_PatternBookModel_times_56 hl (k := 2) rfl rfl (by decide) rfl (fun ls hl => ?_)
          refine lv_goto (tgt := 7) hx hb d_PatternBookModel_times_59 (by decide) ?_
          refine lv_iload hx hb d_PatternBookModel_times_7 (lv_at hl 0 rfl) ?_
          refine lv_iconst (v := 4) hx hb d_PatternBookModel_times_9 (by decide) ?_
          refine lv_icmp_ge (tgt := 62) hx hb d_PatternBookModel_times_10 (by decide) (fun c_7 => ?_) (fun c_7 => ?_)
          · refine W.vret hx hb hr ?_ hS.2.2 d_PatternBookModel_times_62
            exact uEnd (vp_updL (vp_updL (vp_updL (vp_updL w 0 ((((w 0) * (Int32.toInt64 x)) + (Int32.toInt64 y)) &&& (4294967295:Int64))) 1 (z3 &&& (4294967295:Int64))) 2 ((((w 2) * (Int32.toInt64 x)) + (lushr_ z3 (32:Int32))) &&& (4294967295:Int64))) 3 ((((w 3) * (Int32.toInt64 x)) + z5) &&& (4294967295:Int64))) (hP.sub [0, 1] rfl) (hK.sub [0] rfl) (hD.sub [0, 1] (by decide) rfl) hS (by have ez3 := hz3.symm; subst ez3; have ez5 := hz5.symm; subst ez5; exact (rfl).symm) rfl
          · exact absurd (by decide) c_7
set_option maxHeartbeats 4000000 in
set_option maxRecDepth 100000 in
/-- PatternBookModel.times(III)V -/
theorem c_M_times1 (l : Launch) (D : va_G) (mo : Nat) (wa : Nat) (sa : Nat) (ma : Nat) (cW : ClassId) (sz : Nat) (x : Int32) (y : Int32) (co : Int32) (kd : Int32) (sg : Int32) (ex : Int32) (hi : Int64) (lo : Int64) (lh : Int64) (ll : Int64) (w : Nat → Int64) : Met l y_PatternBookModel_times (wsOf y_PatternBookModel_times b_PatternBookModel_times 9 none) ({ frames := 0, cells := 0, slots := 0, locals := 0 }) (uP D classes [(mo, .inr (6, [.int co, .int kd, .int sg, .int ex, .ref wa, .long hi, .long lo, .long lh, .long ll, .ref sa, .ref ma])), (wa, .inl (cW, 12, .inr (.inl w)))] [(cW, .long)] sz [.ref mo, .int (1:Int32), .int x, .int y]) (uQ D classes (fun _ : (Nat → Int64) => none) (fun u => u = (sl m_M_times1) x y w) (va_A [(mo, .inr (6, [.int co, .int kd, .int sg, .int ex, .ref wa, .long hi, .long lo, .long lh, .long ll, .ref sa, .ref ma])), (wa, .inl (cW, 12, .inr (.inl w)))] sz) (fun _ => [(cW, .long)]) (fun u => [(mo, .inr (6, [.int co, .int kd, .int sg, .int ex, .ref wa, .long hi, .long lo, .long lh, .long ll, .ref sa, .ref ma])), (wa, .inl (cW, 12, .inr (.inl u)))])) 0 0 (va_A [(mo, .inr (6, [.int co, .int kd, .int sg, .int ex, .ref wa, .long hi, .long lo, .long lh, .long ll, .ref sa, .ref ma])), (wa, .inl (cW, 12, .inr (.inl w)))] sz) := by
  rw [sl_eq m_M_times1]
  refine uBegin (by decide +kernel) (Nat.le_of_ble_eq_true rfl) ?_
  intro p e s m below meth c A ls H locs hx hb hr hts hown hlocks hml hin hA hP hK hD hN hS hl
  have hl : lv_has ls 9 [(0, .ref mo), (1, .int (1:Int32)), (2, .int x), (3, .int y)] := hl
  refine lv_iload_n hx hb d_PatternBookModel_times_0 rfl (lv_at hl 3 rfl) ?_
  refine lv_i2l hx hb d_PatternBookModel_times_1 rfl ?_
  refine lv_lstore (lv' := [(4, .long (Int32.toInt64 y)), (0, .ref mo), (1, .int (1:Int32)), (2, .int x), (3, .int y)]) hx hb d_PatternBookModel_times_2 hl (by decide) rfl (fun ls hl => ?_)
  refine lv_iconst (v := 0) hx hb d_PatternBookModel_times_4 (by decide) ?_
  refine lv_istore (lv' := [(6, .int (0:Int32)), (4, .long (Int32.toInt64 y)), (0, .ref mo), (1, .int (1:Int32)), (2, .int x), (3, .int y)]) hx hb d_PatternBookModel_times_5 hl (by decide) rfl (fun ls hl => ?_)
  refine lv_iload hx hb d_PatternBookModel_times_7 (lv_at hl 0 rfl) ?_
  refine lv_iconst (v := 4) hx hb d_PatternBookModel_times_9 (by decide) ?_
  refine lv_icmp_ge (tgt := 62) hx hb d_PatternBookModel_times_10 (by decide) (fun c_1 => ?_) (fun c_1 => ?_)
  · exact absurd c_1 (by decide)
  · refine lv_aload_n hx hb d_PatternBookModel_times_13 rfl (lv_at hl 2 rfl) ?_
    refine va_get (D := D) (ci := 6) (v := .ref wa) (C := R_PatternBookModel) (T := F_PatternBookModel) (N := 11) hx hb hts i_PatternBookModel hown hK hP 0 rfl rfl 4 (by decide) (hts _ k_263) (fun _ h9 => h9) rfl d_PatternBookModel_times_14 ?_
    refine lv_iconst (v := 4) hx hb d_PatternBookModel_times_17 (by decide) ?_
    refine lv_iload_n hx hb d_PatternBookModel_times_18 rfl (lv_at hl 3 rfl) ?_
    refine lv_imul hx hb d_PatternBookModel_times_19 ?_
    refine W.eq (g2 := F0 m 20 ls [.int (4:Int32), .ref wa]) rfl ?_
    refine lv_iload hx hb d_PatternBookModel_times_20 (lv_at hl 0 rfl) ?_
    refine lv_iadd hx hb d_PatternBookModel_times_22 ?_
    refine W.eq (g2 := F0 m 23 ls [.int (4:Int32), .ref wa]) rfl ?_
    refine va_lald hx hb hK hP 1 0 rfl rfl (idx_in rfl) d_PatternBookModel_times_23 ?_
    refine W.eq (g2 := F0 m 24 ls [.long (w 4)]) rfl ?_
    refine lv_iload_n hx hb d_PatternBookModel_times_24 rfl (lv_at hl 4 rfl) ?_
    refine lv_i2l hx hb d_PatternBookModel_times_25 rfl ?_
    refine lv_lmul hx hb d_PatternBookModel_times_26 ?_
    refine lv_lload hx hb d_PatternBookModel_times_27 (lv_at hl 1 rfl) ?_
    refine lv_ladd hx hb d_PatternBookModel_times_29 ?_
    refine lv_lstore (lv' := [(7, .long (((w 4) * (Int32.toInt64 x)) + (Int32.toInt64 y))), (6, .int (0:Int32)), (4, .long (Int32.toInt64 y)), (0, .ref mo), (1, .int (1:Int32)), (2, .int x), (3, .int y)]) hx hb d_PatternBookModel_times_30 hl (by decide) rfl (fun ls hl => ?_)
    refine lv_aload_n hx hb d_PatternBookModel_times_32 rfl (lv_at hl 3 rfl) ?_
    refine va_get (D := D) (ci := 6) (v := .ref wa) (C := R_PatternBookModel) (T := F_PatternBookModel) (N := 11) hx hb hts i_PatternBookModel hown hK hP 0 rfl rfl 4 (by decide) (hts _ k_263) (fun _ h9 => h9) rfl d_PatternBookModel_times_33 ?_
    refine lv_iconst (v := 4) hx hb d_PatternBookModel_times_36 (by decide) ?_
    refine lv_iload_n hx hb d_PatternBookModel_times_37 rfl (lv_at hl 4 rfl) ?_
    refine lv_imul hx hb d_PatternBookModel_times_38 ?_
    refine W.eq (g2 := F0 m 39 ls [.int (4:Int32), .ref wa]) rfl ?_
    refine lv_iload hx hb d_PatternBookModel_times_39 (lv_at hl 1 rfl) ?_
    refine lv_iadd hx hb d_PatternBookModel_times_41 ?_
    refine W.eq (g2 := F0 m 42 ls [.int (4:Int32), .ref wa]) rfl ?_
    refine lv_lload hx hb d_PatternBookModel_times_42 (lv_at hl 0 rfl) ?_
    refine lv_ldc2 (v := 4294967295) hx hb hown (hts _ k_264) d_PatternBookModel_times_44 ?_
    refine lv_land hx hb d_PatternBookModel_times_47 ?_
    refine va_last hx hb hK hP hD hS 1 0 rfl rfl (idx_in rfl) d_PatternBookModel_times_48 (fun H locs hP hD hS => ?_)
    have hP : va_P D classes [(mo, .inr (6, [.int co, .int kd, .int sg, .int ex, .ref wa, .long hi, .long lo, .long lh, .long ll, .ref sa, .ref ma])), (wa, .inl (cW, 12, .inr (.inl (vp_updL w 4 ((((w 4) * (Int32.toInt64 x)) + (Int32.toInt64 y)) &&& (4294967295:Int64))))))] H := hP
    have hD : va_D A [(mo, .inr (6, [.int co, .int kd, .int sg, .int ex, .ref wa, .long hi, .long lo, .long lh, .long ll, .ref sa, .ref ma])), (wa, .inl (cW, 12, .inr (.inl (vp_updL w 4 ((((w 4) * (Int32.toInt64 x)) + (Int32.toInt64 y)) &&& (4294967295:Int64))))))] := hD
    refine lv_lload hx hb d_PatternBookModel_times_49 (lv_at hl 0 rfl) ?_
    refine lv_bipush (v := 32) hx hb d_PatternBookModel_times_51 (by decide) ?_
    refine lv_lushr (v := lushr_ (((w 4) * (Int32.toInt64 x)) + (Int32.toInt64 y)) (32:Int32)) hx hb d_PatternBookModel_times_53 rfl ?_
    refine lv_lstore (lv' := [(4, .long (lushr_ (((w 4) * (Int32.toInt64 x)) + (Int32.toInt64 y)) (32:Int32))), (7, .long (((w 4) * (Int32.toInt64 x)) + (Int32.toInt64 y))), (6, .int (0:Int32)), (0, .ref mo), (1, .int (1:Int32)), (2, .int x), (3, .int y)]) hx hb d_PatternBookModel_times_54 hl (by decide) rfl (fun ls hl => ?_)
    refine lv_iinc (v := (1:Int32)) (lv' := [(6, .int (1:Int32)), (4, .long (lushr_ (((w 4) * (Int32.toInt64 x)) + (Int32.toInt64 y)) (32:Int32))), (7, .long (((w 4) * (Int32.toInt64 x)) + (Int32.toInt64 y))), (0, .ref mo), (1, .int (1:Int32)), (2, .int x), (3, .int y)]) hx hb d_PatternBookModel_times_56 hl (k := 2) rfl rfl (by decide) rfl (fun ls hl => ?_)
    refine lv_goto (tgt := 7) hx hb d_PatternBookModel_times_59 (by decide) ?_
    refine lv_iload hx hb d_PatternBookModel_times_7 (lv_at hl 0 rfl) ?_
    refine lv_iconst (v := 4) hx hb d_PatternBookModel_times_9 (by decide) ?_
    refine lv_icmp_ge (tgt := 62) hx hb d_PatternBookModel_times_10 (by decide) (fun c_2 => ?_) (fun c_2 => ?_)
    · exact absurd c_2 (by decide)
    · refine lv_aload_n hx hb d_PatternBookModel_times_13 rfl (lv_at hl 3 rfl) ?_
      refine va_get (D := D) (ci := 6) (v := .ref wa) (C := R_PatternBookModel) (T := F_PatternBookModel) (N := 11) hx hb hts i_PatternBookModel hown hK hP 0 rfl rfl 4 (by decide) (hts _ k_263) (fun _ h9 => h9) rfl d_PatternBookModel_times_14 ?_
      refine lv_iconst (v := 4) hx hb d_PatternBookModel_times_17 (by decide) ?_
      refine lv_iload_n hx hb d_PatternBookModel_times_18 rfl (lv_at hl 4 rfl) ?_
      refine lv_imul hx hb d_PatternBookModel_times_19 ?_
      refine W.eq (g2 := F0 m 20 ls [.int (4:Int32), .ref wa]) rfl ?_
      refine lv_iload hx hb d_PatternBookModel_times_20 (lv_at hl 0 rfl) ?_
      refine lv_iadd hx hb d_PatternBookModel_times_22 ?_
      refine W.eq (g2 := F0 m 23 ls [.int (5:Int32), .ref wa]) rfl ?_
      refine va_lald hx hb hK hP 1 0 rfl rfl (idx_in rfl) d_PatternBookModel_times_23 ?_
      refine W.eq (g2 := F0 m 24 ls [.long (w 5)]) rfl ?_
      refine lv_iload_n hx hb d_PatternBookModel_times_24 rfl (lv_at hl 5 rfl) ?_
      refine lv_i2l hx hb d_PatternBookModel_times_25 rfl ?_
      refine lv_lmul hx hb d_PatternBookModel_times_26 ?_
      refine lv_lload hx hb d_PatternBookModel_times_27 (lv_at hl 1 rfl) ?_
      refine lv_ladd hx hb d_PatternBookModel_times_29 ?_
      refine lv_topl (fun z3 hz3 => ?_)
      refine lv_lstore (lv' := [(7, .long z3), (6, .int (1:Int32)), (4, .long (lushr_ (((w 4) * (Int32.toInt64 x)) + (Int32.toInt64 y)) (32:Int32))), (0, .ref mo), (1, .int (1:Int32)), (2, .int x), (3, .int y)]) hx hb d_PatternBookModel_times_30 hl (by decide) rfl (fun ls hl => ?_)
      refine lv_aload_n hx hb d_PatternBookModel_times_32 rfl (lv_at hl 3 rfl) ?_
      refine va_get (D := D) (ci := 6) (v := .ref wa) (C := R_PatternBookModel) (T := F_PatternBookModel) (N := 11) hx hb hts i_PatternBookModel hown hK hP 0 rfl rfl 4 (by decide) (hts _ k_263) (fun _ h9 => h9) rfl d_PatternBookModel_times_33 ?_
      refine lv_iconst (v := 4) hx hb d_PatternBookModel_times_36 (by decide) ?_
      refine lv_iload_n hx hb d_PatternBookModel_times_37 rfl (lv_at hl 4 rfl) ?_
      refine lv_imul hx hb d_PatternBookModel_times_38 ?_
      refine W.eq (g2 := F0 m 39 ls [.int (4:Int32), .ref wa]) rfl ?_
      refine lv_iload hx hb d_PatternBookModel_times_39 (lv_at hl 1 rfl) ?_
      refine lv_iadd hx hb d_PatternBookModel_times_41 ?_
      refine W.eq (g2 := F0 m 42 ls [.int (5:Int32), .ref wa]) rfl ?_
      refine lv_lload hx hb d_PatternBookModel_times_42 (lv_at hl 0 rfl) ?_
      refine lv_ldc2 (v := 4294967295) hx hb hown (hts _ k_264) d_PatternBookModel_times_44 ?_
      refine lv_land hx hb d_PatternBookModel_times_47 ?_
      refine va_last hx hb hK hP hD hS 1 0 rfl rfl (idx_in rfl) d_PatternBookModel_times_48 (fun H locs hP hD hS => ?_)
      have hP : va_P D classes [(mo, .inr (6, [.int co, .int kd, .int sg, .int ex, .ref wa, .long hi, .long lo, .long lh, .long ll, .ref sa, .ref ma])), (wa, .inl (cW, 12, .inr (.inl (vp_updL (vp_updL w 4 ((((w 4) * (Int32.toInt64 x)) + (Int32.toInt64 y)) &&& (4294967295:Int64))) 5 (z3 &&& (4294967295:Int64))))))] H := hP
      have hD : va_D A [(mo, .inr (6, [.int co, .int kd, .int sg, .int ex, .ref wa, .long hi, .long lo, .long lh, .long ll, .ref sa, .ref ma])), (wa, .inl (cW, 12, .inr (.inl (vp_updL (vp_updL w 4 ((((w 4) * (Int32.toInt64 x)) + (Int32.toInt64 y)) &&& (4294967295:Int64))) 5 (z3 &&& (4294967295:Int64))))))] := hD
      refine lv_lload hx hb d_PatternBookModel_times_49 (lv_at hl 0 rfl) ?_
      refine lv_bipush (v := 32) hx hb d_PatternBookModel_times_51 (by decide) ?_
      refine lv_lushr (v := lushr_ z3 (32:Int32)) hx hb d_PatternBookModel_times_53 rfl ?_
      refine lv_lstore (lv' := [(4, .long (lushr_ z3 (32:Int32))), (7, .long z3), (6, .int (1:Int32)), (0, .ref mo), (1, .int (1:Int32)), (2, .int x), (3, .int y)]) hx hb d_PatternBookModel_times_54 hl (by decide) rfl (fun ls hl => ?_)
      refine lv_iinc (v := (2:Int32)) (lv' := [(6, .int (2:Int32)), (4, .long (lushr_ z3 (32:Int32))), (7, .long z3), (0, .ref mo), (1, .int (1:Int32)), (2, .int x), (3, .int y)]) hx hb d_PatternBookModel_times_56 hl (k := 2) rfl rfl (by decide) rfl (fun ls hl => ?_)
      refine lv_goto (tgt := 7) hx hb d_PatternBookModel_times_59 (by decide) ?_
      refine lv_iload hx hb d_PatternBookModel_times_7 (lv_at hl 0 rfl) ?_
      refine lv_iconst (v := 4) hx hb d_PatternBookModel_times_9 (by decide) ?_
      refine lv_icmp_ge (tgt := 62) hx hb d_PatternBookModel_times_10 (by decide) (fun c_4 => ?_) (fun c_4 => ?_)
      · exact absurd c_4 (by decide)
      · refine lv_aload_n hx hb d_PatternBookModel_times_13 rfl (lv_at hl 3 rfl) ?_
        refine va_get (D := D) (ci := 6) (v := .ref wa) (C := R_PatternBookModel) (T := F_PatternBookModel) (N := 11) hx hb hts i_PatternBookModel hown hK hP 0 rfl rfl 4 (by decide) (hts _ k_263) (fun _ h9 => h9) rfl d_PatternBookModel_times_14 ?_
        refine lv_iconst (v := 4) hx hb d_PatternBookModel_times_17 (by decide) ?_
        refine lv_iload_n hx hb d_PatternBookModel_times_18 rfl (lv_at hl 4 rfl) ?_
        refine lv_imul hx hb d_PatternBookModel_times_19 ?_
        refine W.eq (g2 := F0 m 20 ls [.int (4:Int32), .ref wa]) rfl ?_
        refine lv_iload hx hb d_PatternBookModel_times_20 (lv_at hl 0 rfl) ?_
        refine lv_iadd hx hb d_PatternBookModel_times_22 ?_
        refine W.eq (g2 := F0 m 23 ls [.int (6:Int32), .ref wa]) rfl ?_
        refine va_lald hx hb hK hP 1 0 rfl rfl (idx_in rfl) d_PatternBookModel_times_23 ?_
        refine W.eq (g2 := F0 m 24 ls [.long (w 6)]) rfl ?_
        refine lv_iload_n hx hb d_PatternBookModel_times_24 rfl (lv_at hl 5 rfl) ?_
        refine lv_i2l hx hb d_PatternBookModel_times_25 rfl ?_
        refine lv_lmul hx hb d_PatternBookModel_times_26 ?_
        refine lv_lload hx hb d_PatternBookModel_times_27 (lv_at hl 1 rfl) ?_
        refine lv_ladd hx hb d_PatternBookModel_times_29 ?_
        refine lv_lstore (lv' := [(7, .long (((w 6) * (Int32.toInt64 x)) + (lushr_ z3 (32:Int32)))), (6, .int (2:Int32)), (4, .long (lushr_ z3 (32:Int32))), (0, .ref mo), (1, .int (1:Int32)), (2, .int x), (3, .int y)]) hx hb d_PatternBookModel_times_30 hl (by decide) rfl (fun ls hl => ?_)
        refine lv_aload_n hx hb d_PatternBookModel_times_32 rfl (lv_at hl 3 rfl) ?_
        refine va_get (D := D) (ci := 6) (v := .ref wa) (C := R_PatternBookModel) (T := F_PatternBookModel) (N := 11) hx hb hts i_PatternBookModel hown hK hP 0 rfl rfl 4 (by decide) (hts _ k_263) (fun _ h9 => h9) rfl d_PatternBookModel_times_33 ?_
        refine lv_iconst (v := 4) hx hb d_PatternBookModel_times_36 (by decide) ?_
        refine lv_iload_n hx hb d_PatternBookModel_times_37 rfl (lv_at hl 4 rfl) ?_
        refine lv_imul hx hb d_PatternBookModel_times_38 ?_
        refine W.eq (g2 := F0 m 39 ls [.int (4:Int32), .ref wa]) rfl ?_
        refine lv_iload hx hb d_PatternBookModel_times_39 (lv_at hl 1 rfl) ?_
        refine lv_iadd hx hb d_PatternBookModel_times_41 ?_
        refine W.eq (g2 := F0 m 42 ls [.int (6:Int32), .ref wa]) rfl ?_
        refine lv_lload hx hb d_PatternBookModel_times_42 (lv_at hl 0 rfl) ?_
        refine lv_ldc2 (v := 4294967295) hx hb hown (hts _ k_264) d_PatternBookModel_times_44 ?_
        refine lv_land hx hb d_PatternBookModel_times_47 ?_
        refine va_last hx hb hK hP hD hS 1 0 rfl rfl (idx_in rfl) d_PatternBookModel_times_48 (fun H locs hP hD hS => ?_)
        have hP : va_P D classes [(mo, .inr (6, [.int co, .int kd, .int sg, .int ex, .ref wa, .long hi, .long lo, .long lh, .long ll, .ref sa, .ref ma])), (wa, .inl (cW, 12, .inr (.inl (vp_updL (vp_updL (vp_updL w 4 ((((w 4) * (Int32.toInt64 x)) + (Int32.toInt64 y)) &&& (4294967295:Int64))) 5 (z3 &&& (4294967295:Int64))) 6 ((((w 6) * (Int32.toInt64 x)) + (lushr_ z3 (32:Int32))) &&& (4294967295:Int64))))))] H := hP
        have hD : va_D A [(mo, .inr (6, [.int co, .int kd, .int sg, .int ex, .ref wa, .long hi, .long lo, .long lh, .long ll, .ref sa, .ref ma])), (wa, .inl (cW, 12, .inr (.inl (vp_updL (vp_updL (vp_updL w 4 ((((w 4) * (Int32.toInt64 x)) + (Int32.toInt64 y)) &&& (4294967295:Int64))) 5 (z3 &&& (4294967295:Int64))) 6 ((((w 6) * (Int32.toInt64 x)) + (lushr_ z3 (32:Int32))) &&& (4294967295:Int64))))))] := hD
        refine lv_lload hx hb d_PatternBookModel_times_49 (lv_at hl 0 rfl) ?_
        refine lv_bipush (v := 32) hx hb d_PatternBookModel_times_51 (by decide) ?_
        refine lv_lushr (v := lushr_ (((w 6) * (Int32.toInt64 x)) + (lushr_ z3 (32:Int32))) (32:Int32)) hx hb d_PatternBookModel_times_53 rfl ?_
        refine lv_topl (fun z5 hz5 => ?_)
        refine lv_lstore (lv' := [(4, .long z5), (7, .long (((w 6) * (Int32.toInt64 x)) + (lushr_ z3 (32:Int32)))), (6, .int (2:Int32)), (0, .ref mo), (1, .int (1:Int32)), (2, .int x), (3, .int y)]) hx hb d_PatternBookModel_times_54 hl (by decide) rfl (fun ls hl => ?_)
        refine lv_iinc (v := (3:Int32)) (lv' := [(6, .int (3:Int32)), (4, .long z5), (7, .long (((w 6) * (Int32.toInt64 x)) + (lushr_ z3 (32:Int32)))), (0, .ref mo), (1, .int (1:Int32)), (2, .int x), (3, .int y)]) hx hb d_PatternBookModel_times_56 hl (k := 2) rfl rfl (by decide) rfl (fun ls hl => ?_)
        refine lv_goto (tgt := 7) hx hb d_PatternBookModel_times_59 (by decide) ?_
        refine lv_iload hx hb d_PatternBookModel_times_7 (lv_at hl 0 rfl) ?_
        refine lv_iconst (v := 4) hx hb d_PatternBookModel_times_9 (by decide) ?_
        refine lv_icmp_ge (tgt := 62) hx hb d_PatternBookModel_times_10 (by decide) (fun c_6 => ?_) (fun c_6 => ?_)
        · exact absurd c_6 (by decide)
        · refine lv_aload_n hx hb d_PatternBookModel_times_13 rfl (lv_at hl 3 rfl) ?_
          refine va_get (D := D) (ci := 6) (v := .ref wa) (C := R_PatternBookModel) (T := F_PatternBookModel) (N := 11) hx hb hts i_PatternBookModel hown hK hP 0 rfl rfl 4 (by decide) (hts _ k_263) (fun _ h9 => h9) rfl d_PatternBookModel_times_14 ?_
          refine lv_iconst (v := 4) hx hb d_PatternBookModel_times_17 (by decide) ?_
          refine lv_iload_n hx hb d_PatternBookModel_times_18 rfl (lv_at hl 4 rfl) ?_
          refine lv_imul hx hb d_PatternBookModel_times_19 ?_
          refine W.eq (g2 := F0 m 20 ls [.int (4:Int32), .ref wa]) rfl ?_
          refine lv_iload hx hb d_PatternBookModel_times_20 (lv_at hl 0 rfl) ?_
          refine lv_iadd hx hb d_PatternBookModel_times_22 ?_
          refine W.eq (g2 := F0 m 23 ls [.int (7:Int32), .ref wa]) rfl ?_
          refine va_lald hx hb hK hP 1 0 rfl rfl (idx_in rfl) d_PatternBookModel_times_23 ?_
          refine W.eq (g2 := F0 m 24 ls [.long (w 7)]) rfl ?_
          refine lv_iload_n hx hb d_PatternBookModel_times_24 rfl (lv_at hl 5 rfl) ?_
          refine lv_i2l hx hb d_PatternBookModel_times_25 rfl ?_
          refine lv_lmul hx hb d_PatternBookModel_times_26 ?_
          refine lv_lload hx hb d_PatternBookModel_times_27 (lv_at hl 1 rfl) ?_
          refine lv_ladd hx hb d_PatternBookModel_times_29 ?_
          refine lv_lstore (lv' := [(7, .long (((w 7) * (Int32.toInt64 x)) + z5)), (6, .int (3:Int32)), (4, .long z5), (0, .ref mo), (1, .int (1:Int32)), (2, .int x), (3, .int y)]) hx hb d_PatternBookModel_times_30 hl (by decide) rfl (fun ls hl => ?_)
          refine lv_aload_n hx hb d_PatternBookModel_times_32 rfl (lv_at hl 3 rfl) ?_
          refine va_get (D := D) (ci := 6) (v := .ref wa) (C := R_PatternBookModel) (T := F_PatternBookModel) (N := 11) hx hb hts i_PatternBookModel hown hK hP 0 rfl rfl 4 (by decide) (hts _ k_263) (fun _ h9 => h9) rfl d_PatternBookModel_times_33 ?_
          refine lv_iconst (v := 4) hx hb d_PatternBookModel_times_36 (by decide) ?_
          refine lv_iload_n hx hb d_PatternBookModel_times_37 rfl (lv_at hl 4 rfl) ?_
          refine lv_imul hx hb d_PatternBookModel_times_38 ?_
          refine W.eq (g2 := F0 m 39 ls [.int (4:Int32), .ref wa]) rfl ?_
          refine lv_iload hx hb d_PatternBookModel_times_39 (lv_at hl 1 rfl) ?_
          refine lv_iadd hx hb d_PatternBookModel_times_41 ?_
          refine W.eq (g2 := F0 m 42 ls [.int (7:Int32), .ref wa]) rfl ?_
          refine lv_lload hx hb d_PatternBookModel_times_42 (lv_at hl 0 rfl) ?_
          refine lv_ldc2 (v := 4294967295) hx hb hown (hts _ k_264) d_PatternBookModel_times_44 ?_
          refine lv_land hx hb d_PatternBookModel_times_47 ?_
          refine va_last hx hb hK hP hD hS 1 0 rfl rfl (idx_in rfl) d_PatternBookModel_times_48 (fun H locs hP hD hS => ?_)
          have hP : va_P D classes [(mo, .inr (6, [.int co, .int kd, .int sg, .int ex, .ref wa, .long hi, .long lo, .long lh, .long ll, .ref sa, .ref ma])), (wa, .inl (cW, 12, .inr (.inl (vp_updL (vp_updL (vp_updL (vp_updL w 4 ((((w 4) * (Int32.toInt64 x)) + (Int32.toInt64 y)) &&& (4294967295:Int64))) 5 (z3 &&& (4294967295:Int64))) 6 ((((w 6) * (Int32.toInt64 x)) + (lushr_ z3 (32:Int32))) &&& (4294967295:Int64))) 7 ((((w 7) * (Int32.toInt64 x)) + z5) &&& (4294967295:Int64))))))] H := hP
          have hD : va_D A [(mo, .inr (6, [.int co, .int kd, .int sg, .int ex, .ref wa, .long hi, .long lo, .long lh, .long ll, .ref sa, .ref ma])), (wa, .inl (cW, 12, .inr (.inl (vp_updL (vp_updL (vp_updL (vp_updL w 4 ((((w 4) * (Int32.toInt64 x)) + (Int32.toInt64 y)) &&& (4294967295:Int64))) 5 (z3 &&& (4294967295:Int64))) 6 ((((w 6) * (Int32.toInt64 x)) + (lushr_ z3 (32:Int32))) &&& (4294967295:Int64))) 7 ((((w 7) * (Int32.toInt64 x)) + z5) &&& (4294967295:Int64))))))] := hD
          refine lv_lload hx hb d_PatternBookModel_times_49 (lv_at hl 0 rfl) ?_
          refine lv_bipush (v := 32) hx hb d_PatternBookModel_times_51 (by decide) ?_
          refine lv_lushr (v := lushr_ (((w 7) * (Int32.toInt64 x)) + z5) (32:Int32)) hx hb d_PatternBookModel_times_53 rfl ?_
          refine lv_lstore (lv' := [(4, .long (lushr_ (((w 7) * (Int32.toInt64 x)) + z5) (32:Int32))), (7, .long (((w 7) * (Int32.toInt64 x)) + z5)), (6, .int (3:Int32)), (0, .ref mo), (1, .int (1:Int32)), (2, .int x), (3, .int y)]) hx hb d_PatternBookModel_times_54 hl (by decide) rfl (fun ls hl => ?_)
          refine lv_iinc (v := (4:Int32)) (lv' := [(6, .int (4:Int32)), (4, .long (lushr_ (((w 7) * (Int32.toInt64 x)) + z5) (32:Int32))), (7, .long (((w 7) * (Int32.toInt64 x)) + z5)), (0, .ref mo), (1, .int (1:Int32)), (2, .int x), (3, .int y)]) hx hb d_PatternBookModel_times_56 hl (k := 2) rfl rfl (by decide) rfl (fun ls hl => ?_)
          refine lv_goto (tgt := 7) hx hb d_PatternBookModel_times_59 (by decide) ?_
          refine lv_iload hx hb d_PatternBookModel_times_7 (lv_at hl 0 rfl) ?_
          refine lv_iconst (v := 4) hx hb d_PatternBookModel_times_9 (by decide) ?_
          refine lv_icmp_ge (tgt := 62) hx hb d_PatternBookModel_times_10 (by decide) (fun c_7 => ?_) (fun c_7 => ?_)
          · refine W.vret hx hb hr ?_ hS.2.2 d_PatternBookModel_times_62
            exact uEnd (vp_updL (vp_updL (vp_updL (vp_updL w 4 ((((w 4) * (Int32.toInt64 x)) + (Int32.toInt64 y)) &&& (4294967295:Int64))) 5 (z3 &&& (4294967295:Int64))) 6 ((((w 6) * (Int32.toInt64 x)) + (lushr_ z3 (32:Int32))) &&& (4294967295:Int64))) 7 ((((w 7) * (Int32.toInt64 x)) + z5) &&& (4294967295:Int64))) (hP.sub [0, 1] rfl) (hK.sub [0] rfl) (hD.sub [0, 1] (by decide) rfl) hS (by have ez3 := hz3.symm; subst ez3; have ez5 := hz5.symm; subst ez5; exact (rfl).symm) rfl
          · exact absurd (by decide) c_7
set_option maxHeartbeats 4000000 in
set_option maxRecDepth 100000 in
/-- PatternBookModel.over(II)I -/
theorem c_M_over2 (l : Launch) (D : va_G) (mo : Nat) (wa : Nat) (sa : Nat) (ma : Nat) (cW : ClassId) (sz : Nat) (co : Int32) (kd : Int32) (sg : Int32) (ex : Int32) (hi : Int64) (lo : Int64) (lh : Int64) (ll : Int64) (w : Nat → Int64) : Met l y_PatternBookModel_over (wsOf y_PatternBookModel_over b_PatternBookModel_over 8 (some .int)) ({ frames := 0, cells := 0, slots := 0, locals := 0 }) (uP D classes [(mo, .inr (6, [.int co, .int kd, .int sg, .int ex, .ref wa, .long hi, .long lo, .long lh, .long ll, .ref sa, .ref ma])), (wa, .inl (cW, 12, .inr (.inl w)))] [(cW, .long)] sz [.ref mo, .int (2:Int32), .int (1000:Int32)]) (uQ D classes (fun u : Int32 × (Nat → Int64) => some (.int u.1)) (fun u => u = (sl m_M_over2) w) (va_A [(mo, .inr (6, [.int co, .int kd, .int sg, .int ex, .ref wa, .long hi, .long lo, .long lh, .long ll, .ref sa, .ref ma])), (wa, .inl (cW, 12, .inr (.inl w)))] sz) (fun _ => [(cW, .long)]) (fun u => [(mo, .inr (6, [.int co, .int kd, .int sg, .int ex, .ref wa, .long hi, .long lo, .long lh, .long ll, .ref sa, .ref ma])), (wa, .inl (cW, 12, .inr (.inl u.2)))])) 0 0 (va_A [(mo, .inr (6, [.int co, .int kd, .int sg, .int ex, .ref wa, .long hi, .long lo, .long lh, .long ll, .ref sa, .ref ma])), (wa, .inl (cW, 12, .inr (.inl w)))] sz) := by
  rw [sl_eq m_M_over2]
  refine uBegin (by decide +kernel) (Nat.le_of_ble_eq_true rfl) ?_
  intro p e s m below meth c A ls H locs hx hb hr hts hown hlocks hml hin hA hP hK hD hN hS hl
  have hl : lv_has ls 8 [(0, .ref mo), (1, .int (2:Int32)), (2, .int (1000:Int32))] := hl
  refine lv_lconst (v := 0) hx hb d_PatternBookModel_over_0 (by decide) ?_
  refine lv_lstore_n (lv' := [(3, .long (0:Int64)), (0, .ref mo), (1, .int (2:Int32)), (2, .int (1000:Int32))]) hx hb d_PatternBookModel_over_1 rfl hl (by decide) rfl (fun ls hl => ?_)
  refine lv_iconst (v := 3) hx hb d_PatternBookModel_over_2 (by decide) ?_
  refine lv_istore (lv' := [(5, .int (3:Int32)), (3, .long (0:Int64)), (0, .ref mo), (1, .int (2:Int32)), (2, .int (1000:Int32))]) hx hb d_PatternBookModel_over_3 hl (by decide) rfl (fun ls hl => ?_)
  refine lv_iload hx hb d_PatternBookModel_over_5 (lv_at hl 0 rfl) ?_
  refine lv_if_lt (tgt := 56) hx hb d_PatternBookModel_over_7 (by decide) (fun c_1 => ?_) (fun c_1 => ?_)
  · exact absurd c_1 (by decide)
  · refine lv_lload_n hx hb d_PatternBookModel_over_10 rfl (lv_at hl 1 rfl) ?_
    refine lv_bipush (v := 32) hx hb d_PatternBookModel_over_11 (by decide) ?_
    refine lv_lshl (v := lshl_ (0:Int64) (32:Int32)) hx hb d_PatternBookModel_over_13 rfl ?_
    refine lv_aload_n hx hb d_PatternBookModel_over_14 rfl (lv_at hl 2 rfl) ?_
    refine va_get (D := D) (ci := 6) (v := .ref wa) (C := R_PatternBookModel) (T := F_PatternBookModel) (N := 11) hx hb hts i_PatternBookModel hown hK hP 0 rfl rfl 4 (by decide) (hts _ k_263) (fun _ h9 => h9) rfl d_PatternBookModel_over_15 ?_
    refine lv_iconst (v := 4) hx hb d_PatternBookModel_over_18 (by decide) ?_
    refine lv_iload_n hx hb d_PatternBookModel_over_19 rfl (lv_at hl 3 rfl) ?_
    refine lv_imul hx hb d_PatternBookModel_over_20 ?_
    refine W.eq (g2 := F0 m 21 ls [.int (8:Int32), .ref wa, .long (lshl_ (0:Int64) (32:Int32))]) rfl ?_
    refine lv_iload hx hb d_PatternBookModel_over_21 (lv_at hl 0 rfl) ?_
    refine lv_iadd hx hb d_PatternBookModel_over_23 ?_
    refine W.eq (g2 := F0 m 24 ls [.int (11:Int32), .ref wa, .long (lshl_ (0:Int64) (32:Int32))]) rfl ?_
    refine va_lald hx hb hK hP 1 0 rfl rfl (idx_in rfl) d_PatternBookModel_over_24 ?_
    refine W.eq (g2 := F0 m 25 ls [.long (w 11), .long (lshl_ (0:Int64) (32:Int32))]) rfl ?_
    refine lv_lor hx hb d_PatternBookModel_over_25 ?_
    refine lv_lstore (lv' := [(6, .long ((lshl_ (0:Int64) (32:Int32)) ||| (w 11))), (5, .int (3:Int32)), (3, .long (0:Int64)), (0, .ref mo), (1, .int (2:Int32)), (2, .int (1000:Int32))]) hx hb d_PatternBookModel_over_26 hl (by decide) rfl (fun ls hl => ?_)
    refine lv_aload_n hx hb d_PatternBookModel_over_28 rfl (lv_at hl 3 rfl) ?_
    refine va_get (D := D) (ci := 6) (v := .ref wa) (C := R_PatternBookModel) (T := F_PatternBookModel) (N := 11) hx hb hts i_PatternBookModel hown hK hP 0 rfl rfl 4 (by decide) (hts _ k_263) (fun _ h9 => h9) rfl d_PatternBookModel_over_29 ?_
    refine lv_iconst (v := 4) hx hb d_PatternBookModel_over_32 (by decide) ?_
    refine lv_iload_n hx hb d_PatternBookModel_over_33 rfl (lv_at hl 4 rfl) ?_
    refine lv_imul hx hb d_PatternBookModel_over_34 ?_
    refine W.eq (g2 := F0 m 35 ls [.int (8:Int32), .ref wa]) rfl ?_
    refine lv_iload hx hb d_PatternBookModel_over_35 (lv_at hl 1 rfl) ?_
    refine lv_iadd hx hb d_PatternBookModel_over_37 ?_
    refine W.eq (g2 := F0 m 38 ls [.int (11:Int32), .ref wa]) rfl ?_
    refine lv_lload hx hb d_PatternBookModel_over_38 (lv_at hl 0 rfl) ?_
    refine lv_iload_n hx hb d_PatternBookModel_over_40 rfl (lv_at hl 5 rfl) ?_
    refine lv_i2l (v := 1000) hx hb d_PatternBookModel_over_41 rfl ?_
    refine lv_ldiv hx hb d_PatternBookModel_over_42 (by decide) ?_
    refine va_last hx hb hK hP hD hS 1 0 rfl rfl (idx_in rfl) d_PatternBookModel_over_43 (fun H locs hP hD hS => ?_)
    have hP : va_P D classes [(mo, .inr (6, [.int co, .int kd, .int sg, .int ex, .ref wa, .long hi, .long lo, .long lh, .long ll, .ref sa, .ref ma])), (wa, .inl (cW, 12, .inr (.inl (vp_updL w 11 (((lshl_ (0:Int64) (32:Int32)) ||| (w 11)) / (1000:Int64))))))] H := hP
    have hD : va_D A [(mo, .inr (6, [.int co, .int kd, .int sg, .int ex, .ref wa, .long hi, .long lo, .long lh, .long ll, .ref sa, .ref ma])), (wa, .inl (cW, 12, .inr (.inl (vp_updL w 11 (((lshl_ (0:Int64) (32:Int32)) ||| (w 11)) / (1000:Int64))))))] := hD
    refine lv_lload hx hb d_PatternBookModel_over_44 (lv_at hl 0 rfl) ?_
    refine lv_iload_n hx hb d_PatternBookModel_over_46 rfl (lv_at hl 5 rfl) ?_
    refine lv_i2l (v := 1000) hx hb d_PatternBookModel_over_47 rfl ?_
    refine lv_lrem hx hb d_PatternBookModel_over_48 (by decide) ?_
    refine lv_topl (fun z2 hz2 => ?_)
    refine lv_lstore_n (lv' := [(3, .long z2), (6, .long ((lshl_ (0:Int64) (32:Int32)) ||| (w 11))), (5, .int (3:Int32)), (0, .ref mo), (1, .int (2:Int32)), (2, .int (1000:Int32))]) hx hb d_PatternBookModel_over_49 rfl hl (by decide) rfl (fun ls hl => ?_)
    refine lv_iinc (v := (2:Int32)) (lv' := [(5, .int (2:Int32)), (3, .long z2), (6, .long ((lshl_ (0:Int64) (32:Int32)) ||| (w 11))), (0, .ref mo), (1, .int (2:Int32)), (2, .int (1000:Int32))]) hx hb d_PatternBookModel_over_50 hl (k := 2) rfl rfl (by decide) rfl (fun ls hl => ?_)
    refine lv_goto (tgt := 5) hx hb d_PatternBookModel_over_53 (by decide) ?_
    refine lv_iload hx hb d_PatternBookModel_over_5 (lv_at hl 0 rfl) ?_
    refine lv_if_lt (tgt := 56) hx hb d_PatternBookModel_over_7 (by decide) (fun c_3 => ?_) (fun c_3 => ?_)
    · exact absurd c_3 (by decide)
    · refine lv_lload_n hx hb d_PatternBookModel_over_10 rfl (lv_at hl 1 rfl) ?_
      refine lv_bipush (v := 32) hx hb d_PatternBookModel_over_11 (by decide) ?_
      refine lv_lshl (v := lshl_ z2 (32:Int32)) hx hb d_PatternBookModel_over_13 rfl ?_
      refine lv_aload_n hx hb d_PatternBookModel_over_14 rfl (lv_at hl 3 rfl) ?_
      refine va_get (D := D) (ci := 6) (v := .ref wa) (C := R_PatternBookModel) (T := F_PatternBookModel) (N := 11) hx hb hts i_PatternBookModel hown hK hP 0 rfl rfl 4 (by decide) (hts _ k_263) (fun _ h9 => h9) rfl d_PatternBookModel_over_15 ?_
      refine lv_iconst (v := 4) hx hb d_PatternBookModel_over_18 (by decide) ?_
      refine lv_iload_n hx hb d_PatternBookModel_over_19 rfl (lv_at hl 4 rfl) ?_
      refine lv_imul hx hb d_PatternBookModel_over_20 ?_
      refine W.eq (g2 := F0 m 21 ls [.int (8:Int32), .ref wa, .long (lshl_ z2 (32:Int32))]) rfl ?_
      refine lv_iload hx hb d_PatternBookModel_over_21 (lv_at hl 0 rfl) ?_
      refine lv_iadd hx hb d_PatternBookModel_over_23 ?_
      refine W.eq (g2 := F0 m 24 ls [.int (10:Int32), .ref wa, .long (lshl_ z2 (32:Int32))]) rfl ?_
      refine va_lald hx hb hK hP 1 0 rfl rfl (idx_in rfl) d_PatternBookModel_over_24 ?_
      refine W.eq (g2 := F0 m 25 ls [.long (w 10), .long (lshl_ z2 (32:Int32))]) rfl ?_
      refine lv_lor hx hb d_PatternBookModel_over_25 ?_
      refine lv_lstore (lv' := [(6, .long ((lshl_ z2 (32:Int32)) ||| (w 10))), (5, .int (2:Int32)), (3, .long z2), (0, .ref mo), (1, .int (2:Int32)), (2, .int (1000:Int32))]) hx hb d_PatternBookModel_over_26 hl (by decide) rfl (fun ls hl => ?_)
      refine lv_aload_n hx hb d_PatternBookModel_over_28 rfl (lv_at hl 3 rfl) ?_
      refine va_get (D := D) (ci := 6) (v := .ref wa) (C := R_PatternBookModel) (T := F_PatternBookModel) (N := 11) hx hb hts i_PatternBookModel hown hK hP 0 rfl rfl 4 (by decide) (hts _ k_263) (fun _ h9 => h9) rfl d_PatternBookModel_over_29 ?_
      refine lv_iconst (v := 4) hx hb d_PatternBookModel_over_32 (by decide) ?_
      refine lv_iload_n hx hb d_PatternBookModel_over_33 rfl (lv_at hl 4 rfl) ?_
      refine lv_imul hx hb d_PatternBookModel_over_34 ?_
      refine W.eq (g2 := F0 m 35 ls [.int (8:Int32), .ref wa]) rfl ?_
      refine lv_iload hx hb d_PatternBookModel_over_35 (lv_at hl 1 rfl) ?_
      refine lv_iadd hx hb d_PatternBookModel_over_37 ?_
      refine W.eq (g2 := F0 m 38 ls [.int (10:Int32), .ref wa]) rfl ?_
      refine lv_lload hx hb d_PatternBookModel_over_38 (lv_at hl 0 rfl) ?_
      refine lv_iload_n hx hb d_PatternBookModel_over_40 rfl (lv_at hl 5 rfl) ?_
      refine lv_i2l (v := 1000) hx hb d_PatternBookModel_over_41 rfl ?_
      refine lv_ldiv hx hb d_PatternBookModel_over_42 (by decide) ?_
      refine va_last hx hb hK hP hD hS 1 0 rfl rfl (idx_in rfl) d_PatternBookModel_over_43 (fun H locs hP hD hS => ?_)
      have hP : va_P D classes [(mo, .inr (6, [.int co, .int kd, .int sg, .int ex, .ref wa, .long hi, .long lo, .long lh, .long ll, .ref sa, .ref ma])), (wa, .inl (cW, 12, .inr (.inl (vp_updL (vp_updL w 11 (((lshl_ (0:Int64) (32:Int32)) ||| (w 11)) / (1000:Int64))) 10 (((lshl_ z2 (32:Int32)) ||| (w 10)) / (1000:Int64))))))] H := hP
      have hD : va_D A [(mo, .inr (6, [.int co, .int kd, .int sg, .int ex, .ref wa, .long hi, .long lo, .long lh, .long ll, .ref sa, .ref ma])), (wa, .inl (cW, 12, .inr (.inl (vp_updL (vp_updL w 11 (((lshl_ (0:Int64) (32:Int32)) ||| (w 11)) / (1000:Int64))) 10 (((lshl_ z2 (32:Int32)) ||| (w 10)) / (1000:Int64))))))] := hD
      refine lv_lload hx hb d_PatternBookModel_over_44 (lv_at hl 0 rfl) ?_
      refine lv_iload_n hx hb d_PatternBookModel_over_46 rfl (lv_at hl 5 rfl) ?_
      refine lv_i2l (v := 1000) hx hb d_PatternBookModel_over_47 rfl ?_
      refine lv_lrem hx hb d_PatternBookModel_over_48 (by decide) ?_
      refine lv_topl (fun z4 hz4 => ?_)
      refine lv_lstore_n (lv' := [(3, .long z4), (6, .long ((lshl_ z2 (32:Int32)) ||| (w 10))), (5, .int (2:Int32)), (0, .ref mo), (1, .int (2:Int32)), (2, .int (1000:Int32))]) hx hb d_PatternBookModel_over_49 rfl hl (by decide) rfl (fun ls hl => ?_)
      refine lv_iinc (v := (1:Int32)) (lv' := [(5, .int (1:Int32)), (3, .long z4), (6, .long ((lshl_ z2 (32:Int32)) ||| (w 10))), (0, .ref mo), (1, .int (2:Int32)), (2, .int (1000:Int32))]) hx hb d_PatternBookModel_over_50 hl (k := 2) rfl rfl (by decide) rfl (fun ls hl => ?_)
      refine lv_goto (tgt := 5) hx hb d_PatternBookModel_over_53 (by decide) ?_
      refine lv_iload hx hb d_PatternBookModel_over_5 (lv_at hl 0 rfl) ?_
      refine lv_if_lt (tgt := 56) hx hb d_PatternBookModel_over_7 (by decide) (fun c_5 => ?_) (fun c_5 => ?_)
      · exact absurd c_5 (by decide)
      · refine lv_lload_n hx hb d_PatternBookModel_over_10 rfl (lv_at hl 1 rfl) ?_
        refine lv_bipush (v := 32) hx hb d_PatternBookModel_over_11 (by decide) ?_
        refine lv_lshl (v := lshl_ z4 (32:Int32)) hx hb d_PatternBookModel_over_13 rfl ?_
        refine lv_aload_n hx hb d_PatternBookModel_over_14 rfl (lv_at hl 3 rfl) ?_
        refine va_get (D := D) (ci := 6) (v := .ref wa) (C := R_PatternBookModel) (T := F_PatternBookModel) (N := 11) hx hb hts i_PatternBookModel hown hK hP 0 rfl rfl 4 (by decide) (hts _ k_263) (fun _ h9 => h9) rfl d_PatternBookModel_over_15 ?_
        refine lv_iconst (v := 4) hx hb d_PatternBookModel_over_18 (by decide) ?_
        refine lv_iload_n hx hb d_PatternBookModel_over_19 rfl (lv_at hl 4 rfl) ?_
        refine lv_imul hx hb d_PatternBookModel_over_20 ?_
        refine W.eq (g2 := F0 m 21 ls [.int (8:Int32), .ref wa, .long (lshl_ z4 (32:Int32))]) rfl ?_
        refine lv_iload hx hb d_PatternBookModel_over_21 (lv_at hl 0 rfl) ?_
        refine lv_iadd hx hb d_PatternBookModel_over_23 ?_
        refine W.eq (g2 := F0 m 24 ls [.int (9:Int32), .ref wa, .long (lshl_ z4 (32:Int32))]) rfl ?_
        refine va_lald hx hb hK hP 1 0 rfl rfl (idx_in rfl) d_PatternBookModel_over_24 ?_
        refine W.eq (g2 := F0 m 25 ls [.long (w 9), .long (lshl_ z4 (32:Int32))]) rfl ?_
        refine lv_lor hx hb d_PatternBookModel_over_25 ?_
        refine lv_lstore (lv' := [(6, .long ((lshl_ z4 (32:Int32)) ||| (w 9))), (5, .int (1:Int32)), (3, .long z4), (0, .ref mo), (1, .int (2:Int32)), (2, .int (1000:Int32))]) hx hb d_PatternBookModel_over_26 hl (by decide) rfl (fun ls hl => ?_)
        refine lv_aload_n hx hb d_PatternBookModel_over_28 rfl (lv_at hl 3 rfl) ?_
        refine va_get (D := D) (ci := 6) (v := .ref wa) (C := R_PatternBookModel) (T := F_PatternBookModel) (N := 11) hx hb hts i_PatternBookModel hown hK hP 0 rfl rfl 4 (by decide) (hts _ k_263) (fun _ h9 => h9) rfl d_PatternBookModel_over_29 ?_
        refine lv_iconst (v := 4) hx hb d_PatternBookModel_over_32 (by decide) ?_
        refine lv_iload_n hx hb d_PatternBookModel_over_33 rfl (lv_at hl 4 rfl) ?_
        refine lv_imul hx hb d_PatternBookModel_over_34 ?_
        refine W.eq (g2 := F0 m 35 ls [.int (8:Int32), .ref wa]) rfl ?_
        refine lv_iload hx hb d_PatternBookModel_over_35 (lv_at hl 1 rfl) ?_
        refine lv_iadd hx hb d_PatternBookModel_over_37 ?_
        refine W.eq (g2 := F0 m 38 ls [.int (9:Int32), .ref wa]) rfl ?_
        refine lv_lload hx hb d_PatternBookModel_over_38 (lv_at hl 0 rfl) ?_
        refine lv_iload_n hx hb d_PatternBookModel_over_40 rfl (lv_at hl 5 rfl) ?_
        refine lv_i2l (v := 1000) hx hb d_PatternBookModel_over_41 rfl ?_
        refine lv_ldiv hx hb d_PatternBookModel_over_42 (by decide) ?_
        refine va_last hx hb hK hP hD hS 1 0 rfl rfl (idx_in rfl) d_PatternBookModel_over_43 (fun H locs hP hD hS => ?_)
        have hP : va_P D classes [(mo, .inr (6, [.int co, .int kd, .int sg, .int ex, .ref wa, .long hi, .long lo, .long lh, .long ll, .ref sa, .ref ma])), (wa, .inl (cW, 12, .inr (.inl (vp_updL (vp_updL (vp_updL w 11 (((lshl_ (0:Int64) (32:Int32)) ||| (w 11)) / (1000:Int64))) 10 (((lshl_ z2 (32:Int32)) ||| (w 10)) / (1000:Int64))) 9 (((lshl_ z4 (32:Int32)) ||| (w 9)) / (1000:Int64))))))] H := hP
        have hD : va_D A [(mo, .inr (6, [.int co, .int kd, .int sg, .int ex, .ref wa, .long hi, .long lo, .long lh, .long ll, .ref sa, .ref ma])), (wa, .inl (cW, 12, .inr (.inl (vp_updL (vp_updL (vp_updL w 11 (((lshl_ (0:Int64) (32:Int32)) ||| (w 11)) / (1000:Int64))) 10 (((lshl_ z2 (32:Int32)) ||| (w 10)) / (1000:Int64))) 9 (((lshl_ z4 (32:Int32)) ||| (w 9)) / (1000:Int64))))))] := hD
        refine lv_lload hx hb d_PatternBookModel_over_44 (lv_at hl 0 rfl) ?_
        refine lv_iload_n hx hb d_PatternBookModel_over_46 rfl (lv_at hl 5 rfl) ?_
        refine lv_i2l (v := 1000) hx hb d_PatternBookModel_over_47 rfl ?_
        refine lv_lrem hx hb d_PatternBookModel_over_48 (by decide) ?_
        refine lv_topl (fun z6 hz6 => ?_)
        refine lv_lstore_n (lv' := [(3, .long z6), (6, .long ((lshl_ z4 (32:Int32)) ||| (w 9))), (5, .int (1:Int32)), (0, .ref mo), (1, .int (2:Int32)), (2, .int (1000:Int32))]) hx hb d_PatternBookModel_over_49 rfl hl (by decide) rfl (fun ls hl => ?_)
        refine lv_iinc (v := (0:Int32)) (lv' := [(5, .int (0:Int32)), (3, .long z6), (6, .long ((lshl_ z4 (32:Int32)) ||| (w 9))), (0, .ref mo), (1, .int (2:Int32)), (2, .int (1000:Int32))]) hx hb d_PatternBookModel_over_50 hl (k := 2) rfl rfl (by decide) rfl (fun ls hl => ?_)
        refine lv_goto (tgt := 5) hx hb d_PatternBookModel_over_53 (by decide) ?_
        refine lv_iload hx hb d_PatternBookModel_over_5 (lv_at hl 0 rfl) ?_
        refine lv_if_lt (tgt := 56) hx hb d_PatternBookModel_over_7 (by decide) (fun c_7 => ?_) (fun c_7 => ?_)
        · exact absurd c_7 (by decide)
        · refine lv_lload_n hx hb d_PatternBookModel_over_10 rfl (lv_at hl 1 rfl) ?_
          refine lv_bipush (v := 32) hx hb d_PatternBookModel_over_11 (by decide) ?_
          refine lv_lshl (v := lshl_ z6 (32:Int32)) hx hb d_PatternBookModel_over_13 rfl ?_
          refine lv_aload_n hx hb d_PatternBookModel_over_14 rfl (lv_at hl 3 rfl) ?_
          refine va_get (D := D) (ci := 6) (v := .ref wa) (C := R_PatternBookModel) (T := F_PatternBookModel) (N := 11) hx hb hts i_PatternBookModel hown hK hP 0 rfl rfl 4 (by decide) (hts _ k_263) (fun _ h9 => h9) rfl d_PatternBookModel_over_15 ?_
          refine lv_iconst (v := 4) hx hb d_PatternBookModel_over_18 (by decide) ?_
          refine lv_iload_n hx hb d_PatternBookModel_over_19 rfl (lv_at hl 4 rfl) ?_
          refine lv_imul hx hb d_PatternBookModel_over_20 ?_
          refine W.eq (g2 := F0 m 21 ls [.int (8:Int32), .ref wa, .long (lshl_ z6 (32:Int32))]) rfl ?_
          refine lv_iload hx hb d_PatternBookModel_over_21 (lv_at hl 0 rfl) ?_
          refine lv_iadd hx hb d_PatternBookModel_over_23 ?_
          refine W.eq (g2 := F0 m 24 ls [.int (8:Int32), .ref wa, .long (lshl_ z6 (32:Int32))]) rfl ?_
          refine va_lald hx hb hK hP 1 0 rfl rfl (idx_in rfl) d_PatternBookModel_over_24 ?_
          refine W.eq (g2 := F0 m 25 ls [.long (w 8), .long (lshl_ z6 (32:Int32))]) rfl ?_
          refine lv_lor hx hb d_PatternBookModel_over_25 ?_
          refine lv_lstore (lv' := [(6, .long ((lshl_ z6 (32:Int32)) ||| (w 8))), (5, .int (0:Int32)), (3, .long z6), (0, .ref mo), (1, .int (2:Int32)), (2, .int (1000:Int32))]) hx hb d_PatternBookModel_over_26 hl (by decide) rfl (fun ls hl => ?_)
          refine lv_aload_n hx hb d_PatternBookModel_over_28 rfl (lv_at hl 3 rfl) ?_
          refine va_get (D := D) (ci := 6) (v := .ref wa) (C := R_PatternBookModel) (T := F_PatternBookModel) (N := 11) hx hb hts i_PatternBookModel hown hK hP 0 rfl rfl 4 (by decide) (hts _ k_263) (fun _ h9 => h9) rfl d_PatternBookModel_over_29 ?_
          refine lv_iconst (v := 4) hx hb d_PatternBookModel_over_32 (by decide) ?_
          refine lv_iload_n hx hb d_PatternBookModel_over_33 rfl (lv_at hl 4 rfl) ?_
          refine lv_imul hx hb d_PatternBookModel_over_34 ?_
          refine W.eq (g2 := F0 m 35 ls [.int (8:Int32), .ref wa]) rfl ?_
          refine lv_iload hx hb d_PatternBookModel_over_35 (lv_at hl 1 rfl) ?_
          refine lv_iadd hx hb d_PatternBookModel_over_37 ?_
          refine W.eq (g2 := F0 m 38 ls [.int (8:Int32), .ref wa]) rfl ?_
          refine lv_lload hx hb d_PatternBookModel_over_38 (lv_at hl 0 rfl) ?_
          refine lv_iload_n hx hb d_PatternBookModel_over_40 rfl (lv_at hl 5 rfl) ?_
          refine lv_i2l (v := 1000) hx hb d_PatternBookModel_over_41 rfl ?_
          refine lv_ldiv hx hb d_PatternBookModel_over_42 (by decide) ?_
          refine va_last hx hb hK hP hD hS 1 0 rfl rfl (idx_in rfl) d_PatternBookModel_over_43 (fun H locs hP hD hS => ?_)
          have hP : va_P D classes [(mo, .inr (6, [.int co, .int kd, .int sg, .int ex, .ref wa, .long hi, .long lo, .long lh, .long ll, .ref sa, .ref ma])), (wa, .inl (cW, 12, .inr (.inl (vp_updL (vp_updL (vp_updL (vp_updL w 11 (((lshl_ (0:Int64) (32:Int32)) ||| (w 11)) / (1000:Int64))) 10 (((lshl_ z2 (32:Int32)) ||| (w 10)) / (1000:Int64))) 9 (((lshl_ z4 (32:Int32)) ||| (w 9)) / (1000:Int64))) 8 (((lshl_ z6 (32:Int32)) ||| (w 8)) / (1000:Int64))))))] H := hP
          have hD : va_D A [(mo, .inr (6, [.int co, .int kd, .int sg, .int ex, .ref wa, .long hi, .long lo, .long lh, .long ll, .ref sa, .ref ma])), (wa, .inl (cW, 12, .inr (.inl (vp_updL (vp_updL (vp_updL (vp_updL w 11 (((lshl_ (0:Int64) (32:Int32)) ||| (w 11)) / (1000:Int64))) 10 (((lshl_ z2 (32:Int32)) ||| (w 10)) / (1000:Int64))) 9 (((lshl_ z4 (32:Int32)) ||| (w 9)) / (1000:Int64))) 8 (((lshl_ z6 (32:Int32)) ||| (w 8)) / (1000:Int64))))))] := hD
          refine lv_lload hx hb d_PatternBookModel_over_44 (lv_at hl 0 rfl) ?_
          refine lv_iload_n hx hb d_PatternBookModel_over_46 rfl (lv_at hl 5 rfl) ?_
          refine lv_i2l (v := 1000) hx hb d_PatternBookModel_over_47 rfl ?_
          refine lv_lrem hx hb d_PatternBookModel_over_48 (by decide) ?_
          refine lv_topl (fun z8 hz8 => ?_)
          refine lv_lstore_n (lv' := [(3, .long z8), (6, .long ((lshl_ z6 (32:Int32)) ||| (w 8))), (5, .int (0:Int32)), (0, .ref mo), (1, .int (2:Int32)), (2, .int (1000:Int32))]) hx hb d_PatternBookModel_over_49 rfl hl (by decide) rfl (fun ls hl => ?_)
          refine lv_iinc (v := (-1:Int32)) (lv' := [(5, .int (-1:Int32)), (3, .long z8), (6, .long ((lshl_ z6 (32:Int32)) ||| (w 8))), (0, .ref mo), (1, .int (2:Int32)), (2, .int (1000:Int32))]) hx hb d_PatternBookModel_over_50 hl (k := 2) rfl rfl (by decide) rfl (fun ls hl => ?_)
          refine lv_goto (tgt := 5) hx hb d_PatternBookModel_over_53 (by decide) ?_
          refine lv_iload hx hb d_PatternBookModel_over_5 (lv_at hl 0 rfl) ?_
          refine lv_if_lt (tgt := 56) hx hb d_PatternBookModel_over_7 (by decide) (fun c_9 => ?_) (fun c_9 => ?_)
          · refine lv_lload_n hx hb d_PatternBookModel_over_56 rfl (lv_at hl 1 rfl) ?_
            refine lv_l2i hx hb d_PatternBookModel_over_57 rfl ?_
            refine W.iret hx hb hr ?_ hS.2.2 d_PatternBookModel_over_58
            exact uEnd ((Int64.toInt32 z8), (vp_updL (vp_updL (vp_updL (vp_updL w 11 (((lshl_ (0:Int64) (32:Int32)) ||| (w 11)) / (1000:Int64))) 10 (((lshl_ z2 (32:Int32)) ||| (w 10)) / (1000:Int64))) 9 (((lshl_ z4 (32:Int32)) ||| (w 9)) / (1000:Int64))) 8 (((lshl_ z6 (32:Int32)) ||| (w 8)) / (1000:Int64)))) (hP.sub [0, 1] rfl) (hK.sub [0] rfl) (hD.sub [0, 1] (by decide) rfl) hS (by have ez2 := hz2.symm; subst ez2; have ez4 := hz4.symm; subst ez4; have ez6 := hz6.symm; subst ez6; have ez8 := hz8.symm; subst ez8; exact (rfl).symm) rfl
          · exact absurd (by decide) c_9
set_option maxHeartbeats 4000000 in
set_option maxRecDepth 100000 in
/-- the loop of PatternBookModel.power -/
theorem lp_M_power1 (l : Launch) (D : va_G) (mo : Nat) (wa : Nat) (sa : Nat) (ma : Nat) (cW : ClassId) (x : Int32) (y : Int32) (co : Int32) (kd : Int32) (sg : Int32) (ex : Int32) (hi : Int64) (lo : Int64) (lh : Int64) (ll : Int64) (w : Nat → Int64) {p : Program} {e : Env} {s : State} {m : MethodId} {below : List Frame} {meth : Method} {c : Code} {A : Nat → Prop} {args : Array Value} {F : (Nat → Int64)} (hx : p.tables.exec = Jvm.exec) (hb : c.code = b_PatternBookModel_power) (hr : meth.sig.returnType = none) (hts : ∀ w ∈ wt, w.before args s = true) (hown : s.vm.findClass R_PatternBookModel = some m.cls) (hlocks : meth.locks = false) (hml : c.maxLocals = 5) (hA : ∀ q : Nat, s.heap.size ≤ q → A q) (hN : uN s) : ∀ (n : Nat) (x4 : Int32) (y1_a : (Nat → Int64)) (H : Heap) (locs : List Loc) (ls : Array Slot), mlk_M_power1 n y x4 → mlf_M_power1 n x y x4 y1_a = F → va_K D classes [(cW, .long)] s → va_P D classes [(mo, .inr (6, [.int co, .int kd, .int sg, .int ex, .ref wa, .long hi, .long lo, .long lh, .long ll, .ref sa, .ref ma])), (wa, .inl (cW, 12, .inr (.inl y1_a)))] H → va_D A [(mo, .inr (6, [.int co, .int kd, .int sg, .int ex, .ref wa, .long hi, .long lo, .long lh, .long ll, .ref sa, .ref ma])), (wa, .inl (cW, 12, .inr (.inl y1_a)))] → va_S A s.heap H locs → lv_has ls 5 [(4, .int x4), (0, .ref mo), (1, .int (1:Int32)), (2, .int x), (3, .int y)] → W p l e (headSpec (wsOf y_PatternBookModel_power b_PatternBookModel_power 5 none) ({ frames := 1, cells := 0, slots := 0, locals := 28 })).room s m args below meth c H locs (0) (0) (MQ below (uQ D classes (fun _ : (Nat → Int64) => none) (fun u => u = F) A (fun _ => [(cW, .long)]) (fun u => [(mo, .inr (6, [.int co, .int kd, .int sg, .int ex, .ref wa, .long hi, .long lo, .long lh, .long ll, .ref sa, .ref ma])), (wa, .inl (cW, 12, .inr (.inl u)))])) args s 0 0 A) (F0 m 9 ls []) := by
  intro n
  induction n with
  | zero => intro x4 y1_a H locs ls hk; exact (show False from hk).elim
  | succ n ih =>
    intro x4 y1_a H locs ls hk hF hK hP hD hS hl
    unfold mlk_M_power1 at hk
    refine lv_iload hx hb d_PatternBookModel_power_9 (lv_at hl 0 rfl) ?_
    refine lv_iload_n hx hb d_PatternBookModel_power_11 rfl (lv_at hl 4 rfl) ?_
    refine lv_icmp_ge (tgt := 28) hx hb d_PatternBookModel_power_12 (by decide) (fun c_2 => ?_) (fun c_2 => ?_)
    · refine W.vret hx hb hr ?_ hS.2.2 d_PatternBookModel_power_28
      exact uEnd y1_a (hP.sub [0, 1] rfl) (hK.sub [0] rfl) (hD.sub [0, 1] (by decide) rfl) hS (by  exact (show mlf_M_power1 (n + 1) x y x4 y1_a = _ from (if_pos c_2).trans (rfl)).symm.trans hF) rfl
    · have hk := hk.2 c_2
      refine lv_aload_n hx hb d_PatternBookModel_power_15 rfl (lv_at hl 1 rfl) ?_
      refine lv_iload_n hx hb d_PatternBookModel_power_16 rfl (lv_at hl 2 rfl) ?_
      refine lv_iload_n hx hb d_PatternBookModel_power_17 rfl (lv_at hl 3 rfl) ?_
      refine lv_iconst (v := 0) hx hb d_PatternBookModel_power_18 (by decide) ?_
      refine uCall (WR := []) (RT := []) (va_runV (As := [.int (1:Int32), .int x, .int (0:Int32)]) (rest := []) ⟨hx, hb, hml, hown, hts⟩ (c_M_times1 l D mo wa sa ma cW H.size x (0:Int32) co kd sg ex hi lo lh ll y1_a) ⟨uCB 3 hts k_269 k_257 k_270 (by decide +kernel) rfl rfl ⟨Nat.le_of_ble_eq_true rfl, Nat.le_of_ble_eq_true rfl⟩, hts _ k_271, hts _ k_272⟩ (uPreV (ci := 6) (q0 := 0) hK hP hD hN [0, 1] rfl (by decide) [0] rfl rfl rfl) rfl rfl hl.1 rfl (lv_room (Nat.le_of_ble_eq_true rfl)) d_PatternBookModel_power_19 ⟨(Nat.le_of_ble_eq_true rfl), (Nat.le_of_ble_eq_true rfl)⟩) hK hP hD hS hA [0, 1] [] rfl rfl (by decide) (by decide) [] rfl (fun u3 H locs hu3 hP hD hK hS => ?_)
      have hP : va_P D classes [(mo, .inr (6, [.int co, .int kd, .int sg, .int ex, .ref wa, .long hi, .long lo, .long lh, .long ll, .ref sa, .ref ma])), (wa, .inl (cW, 12, .inr (.inl u3)))] H := hP
      have hD : va_D A [(mo, .inr (6, [.int co, .int kd, .int sg, .int ex, .ref wa, .long hi, .long lo, .long lh, .long ll, .ref sa, .ref ma])), (wa, .inl (cW, 12, .inr (.inl u3)))] := hD
      have hK : va_K D classes [(cW, .long)] s := hK
      refine W.eq (g2 := F0 m 22 ls []) rfl ?_
      refine lv_iinc (v := (x4 + (1:Int32))) (lv' := [(4, .int (x4 + (1:Int32))), (0, .ref mo), (1, .int (1:Int32)), (2, .int x), (3, .int y)]) hx hb d_PatternBookModel_power_22 hl (k := 0) rfl rfl (by decide) rfl (fun ls hl => ?_)
      refine lv_goto (tgt := 9) hx hb d_PatternBookModel_power_25 (by decide) ?_
      exact ih (x4 + (1:Int32)) u3 _ _ _ hk (by have eu3 := hu3.symm; subst eu3; exact (show mlf_M_power1 (n + 1) x y x4 y1_a = _ from (if_neg c_2).trans (rfl)).symm.trans hF) (hK.sub [0] rfl) (hP.sub [0, 1] rfl) (hD.sub [0, 1] (by decide) rfl) hS (lv_sub hl [0, 1, 2, 3, 4] rfl)
set_option maxHeartbeats 4000000 in
set_option maxRecDepth 100000 in
/-- PatternBookModel.power(III)V -/
theorem c_M_power1 (l : Launch) (D : va_G) (mo : Nat) (wa : Nat) (sa : Nat) (ma : Nat) (cW : ClassId) (sz : Nat) (x : Int32) (y : Int32) (co : Int32) (kd : Int32) (sg : Int32) (ex : Int32) (hi : Int64) (lo : Int64) (lh : Int64) (ll : Int64) (w : Nat → Int64) (hk : mok_M_power1 y) : Met l y_PatternBookModel_power (wsOf y_PatternBookModel_power b_PatternBookModel_power 5 none) ({ frames := 1, cells := 0, slots := 0, locals := 28 }) (uP D classes [(mo, .inr (6, [.int co, .int kd, .int sg, .int ex, .ref wa, .long hi, .long lo, .long lh, .long ll, .ref sa, .ref ma])), (wa, .inl (cW, 12, .inr (.inl w)))] [(cW, .long)] sz [.ref mo, .int (1:Int32), .int x, .int y]) (uQ D classes (fun _ : (Nat → Int64) => none) (fun u => u = (sl m_M_power1) x y w) (va_A [(mo, .inr (6, [.int co, .int kd, .int sg, .int ex, .ref wa, .long hi, .long lo, .long lh, .long ll, .ref sa, .ref ma])), (wa, .inl (cW, 12, .inr (.inl w)))] sz) (fun _ => [(cW, .long)]) (fun u => [(mo, .inr (6, [.int co, .int kd, .int sg, .int ex, .ref wa, .long hi, .long lo, .long lh, .long ll, .ref sa, .ref ma])), (wa, .inl (cW, 12, .inr (.inl u)))])) 0 0 (va_A [(mo, .inr (6, [.int co, .int kd, .int sg, .int ex, .ref wa, .long hi, .long lo, .long lh, .long ll, .ref sa, .ref ma])), (wa, .inl (cW, 12, .inr (.inl w)))] sz) := by
  rw [sl_eq m_M_power1]
  refine uBegin (by decide +kernel) (Nat.le_of_ble_eq_true rfl) ?_
  intro p e s m below meth c A ls H locs hx hb hr hts hown hlocks hml hin hA hP hK hD hN hS hl
  have hl : lv_has ls 5 [(0, .ref mo), (1, .int (1:Int32)), (2, .int x), (3, .int y)] := hl
  unfold mok_M_power1 at hk
  refine lv_aload_n hx hb d_PatternBookModel_power_0 rfl (lv_at hl 0 rfl) ?_
  refine lv_iload_n hx hb d_PatternBookModel_power_1 rfl (lv_at hl 1 rfl) ?_
  refine lv_lconst (v := 1) hx hb d_PatternBookModel_power_2 (by decide) ?_
  refine uCall (WR := []) (RT := []) (va_runV (As := [.int (1:Int32), .long (1:Int64)]) (rest := []) ⟨hx, hb, hml, hown, hts⟩ (c_M_be1 l D mo wa sa ma cW H.size (1:Int64) co kd sg ex hi lo lh ll w) ⟨uCB 2 hts k_265 k_257 k_266 (by decide +kernel) rfl rfl ⟨Nat.le_of_ble_eq_true rfl, Nat.le_of_ble_eq_true rfl⟩, hts _ k_267, hts _ k_268⟩ (uPreV (ci := 6) (q0 := 0) hK hP hD hN [0, 1] rfl (by decide) [0] rfl rfl rfl) rfl rfl hl.1 rfl (lv_room (Nat.le_of_ble_eq_true rfl)) d_PatternBookModel_power_3 ⟨(Nat.le_of_ble_eq_true rfl), (Nat.le_of_ble_eq_true rfl)⟩) hK hP hD hS hA [0, 1] [] rfl rfl (by decide) (by decide) [] rfl (fun u1 H locs hu1 hP hD hK hS => ?_)
  have hP : va_P D classes [(mo, .inr (6, [.int co, .int kd, .int sg, .int ex, .ref wa, .long hi, .long lo, .long lh, .long ll, .ref sa, .ref ma])), (wa, .inl (cW, 12, .inr (.inl u1)))] H := hP
  have hD : va_D A [(mo, .inr (6, [.int co, .int kd, .int sg, .int ex, .ref wa, .long hi, .long lo, .long lh, .long ll, .ref sa, .ref ma])), (wa, .inl (cW, 12, .inr (.inl u1)))] := hD
  have hK : va_K D classes [(cW, .long)] s := hK
  refine W.eq (g2 := F0 m 6 ls []) rfl ?_
  refine lv_iconst (v := 0) hx hb d_PatternBookModel_power_6 (by decide) ?_
  refine lv_istore (lv' := [(4, .int (0:Int32)), (0, .ref mo), (1, .int (1:Int32)), (2, .int x), (3, .int y)]) hx hb d_PatternBookModel_power_7 hl (by decide) rfl (fun ls hl => ?_)
  exact lp_M_power1 l D mo wa sa ma cW x y co kd sg ex hi lo lh ll w hx hb hr hts hown hlocks hml hA hN 200 (0:Int32) u1 _ _ _ hk (by have eu1 := hu1.symm; subst eu1; exact (rfl).symm) hK hP hD hS hl
set_option maxHeartbeats 4000000 in
set_option maxRecDepth 100000 in
/-- PatternBookModel.isBelow(II)Z -/
theorem c_M_isBelow (l : Launch) (D : va_G) (mo : Nat) (wa : Nat) (sa : Nat) (ma : Nat) (cW : ClassId) (sz : Nat) (co : Int32) (kd : Int32) (sg : Int32) (ex : Int32) (hi : Int64) (lo : Int64) (lh : Int64) (ll : Int64) (w : Nat → Int64) : Met l y_PatternBookModel_isBelow (wsOf y_PatternBookModel_isBelow b_PatternBookModel_isBelow 4 (some .boolean)) ({ frames := 0, cells := 0, slots := 0, locals := 0 }) (uP D classes [(mo, .inr (6, [.int co, .int kd, .int sg, .int ex, .ref wa, .long hi, .long lo, .long lh, .long ll, .ref sa, .ref ma])), (wa, .inl (cW, 12, .inr (.inl w)))] [(cW, .long)] sz [.ref mo, .int (0:Int32), .int (1:Int32)]) (uQ D classes (fun u : Bool => some (.int (bI u))) (fun u => u = (sl m_M_isBelow) w) (va_A [(mo, .inr (6, [.int co, .int kd, .int sg, .int ex, .ref wa, .long hi, .long lo, .long lh, .long ll, .ref sa, .ref ma])), (wa, .inl (cW, 12, .inr (.inl w)))] sz) (fun _ => [(cW, .long)]) (fun u => [(mo, .inr (6, [.int co, .int kd, .int sg, .int ex, .ref wa, .long hi, .long lo, .long lh, .long ll, .ref sa, .ref ma])), (wa, .inl (cW, 12, .inr (.inl w)))])) 0 0 (va_A [(mo, .inr (6, [.int co, .int kd, .int sg, .int ex, .ref wa, .long hi, .long lo, .long lh, .long ll, .ref sa, .ref ma])), (wa, .inl (cW, 12, .inr (.inl w)))] sz) := by
  rw [sl_eq m_M_isBelow]
  refine uBegin (by decide +kernel) (Nat.le_of_ble_eq_true rfl) ?_
  intro p e s m below meth c A ls H locs hx hb hr hts hown hlocks hml hin hA hP hK hD hN hS hl
  have hl : lv_has ls 4 [(0, .ref mo), (1, .int (0:Int32)), (2, .int (1:Int32))] := hl
  refine lv_iconst (v := 3) hx hb d_PatternBookModel_isBelow_0 (by decide) ?_
  refine lv_istore_n (lv' := [(3, .int (3:Int32)), (0, .ref mo), (1, .int (0:Int32)), (2, .int (1:Int32))]) hx hb d_PatternBookModel_isBelow_1 rfl hl (by decide) rfl (fun ls hl => ?_)
  refine lv_iload_n hx hb d_PatternBookModel_isBelow_2 rfl (lv_at hl 0 rfl) ?_
  refine lv_if_lt (tgt := 66) hx hb d_PatternBookModel_isBelow_3 (by decide) (fun c_1 => ?_) (fun c_1 => ?_)
  · exact absurd c_1 (by decide)
  · refine lv_aload_n hx hb d_PatternBookModel_isBelow_6 rfl (lv_at hl 1 rfl) ?_
    refine va_get (D := D) (ci := 6) (v := .ref wa) (C := R_PatternBookModel) (T := F_PatternBookModel) (N := 11) hx hb hts i_PatternBookModel hown hK hP 0 rfl rfl 4 (by decide) (hts _ k_263) (fun _ h9 => h9) rfl d_PatternBookModel_isBelow_7 ?_
    refine lv_iconst (v := 4) hx hb d_PatternBookModel_isBelow_10 (by decide) ?_
    refine lv_iload_n hx hb d_PatternBookModel_isBelow_11 rfl (lv_at hl 2 rfl) ?_
    refine lv_imul hx hb d_PatternBookModel_isBelow_12 ?_
    refine W.eq (g2 := F0 m 13 ls [.int (0:Int32), .ref wa]) rfl ?_
    refine lv_iload_n hx hb d_PatternBookModel_isBelow_13 rfl (lv_at hl 0 rfl) ?_
    refine lv_iadd hx hb d_PatternBookModel_isBelow_14 ?_
    refine W.eq (g2 := F0 m 15 ls [.int (3:Int32), .ref wa]) rfl ?_
    refine va_lald hx hb hK hP 1 0 rfl rfl (idx_in rfl) d_PatternBookModel_isBelow_15 ?_
    refine W.eq (g2 := F0 m 16 ls [.long (w 3)]) rfl ?_
    refine lv_aload_n hx hb d_PatternBookModel_isBelow_16 rfl (lv_at hl 1 rfl) ?_
    refine va_get (D := D) (ci := 6) (v := .ref wa) (C := R_PatternBookModel) (T := F_PatternBookModel) (N := 11) hx hb hts i_PatternBookModel hown hK hP 0 rfl rfl 4 (by decide) (hts _ k_263) (fun _ h9 => h9) rfl d_PatternBookModel_isBelow_17 ?_
    refine lv_iconst (v := 4) hx hb d_PatternBookModel_isBelow_20 (by decide) ?_
    refine lv_iload_n hx hb d_PatternBookModel_isBelow_21 rfl (lv_at hl 3 rfl) ?_
    refine lv_imul hx hb d_PatternBookModel_isBelow_22 ?_
    refine W.eq (g2 := F0 m 23 ls [.int (4:Int32), .ref wa, .long (w 3)]) rfl ?_
    refine lv_iload_n hx hb d_PatternBookModel_isBelow_23 rfl (lv_at hl 0 rfl) ?_
    refine lv_iadd hx hb d_PatternBookModel_isBelow_24 ?_
    refine W.eq (g2 := F0 m 25 ls [.int (7:Int32), .ref wa, .long (w 3)]) rfl ?_
    refine va_lald hx hb hK hP 1 0 rfl rfl (idx_in rfl) d_PatternBookModel_isBelow_25 ?_
    refine W.eq (g2 := F0 m 26 ls [.long (w 7), .long (w 3)]) rfl ?_
    refine W.lcmp hx hb d_PatternBookModel_isBelow_26 ?_
    refine lv_if_eq (tgt := 60) hx hb d_PatternBookModel_isBelow_27 (by decide) (fun c_2 => ?_) (fun c_2 => ?_)
    · refine lv_iinc (v := (2:Int32)) (lv' := [(3, .int (2:Int32)), (0, .ref mo), (1, .int (0:Int32)), (2, .int (1:Int32))]) hx hb d_PatternBookModel_isBelow_60 hl (k := 0) rfl rfl (by decide) rfl (fun ls hl => ?_)
      refine lv_goto (tgt := 2) hx hb d_PatternBookModel_isBelow_63 (by decide) ?_
      refine lv_iload_n hx hb d_PatternBookModel_isBelow_2 rfl (lv_at hl 0 rfl) ?_
      refine lv_if_lt (tgt := 66) hx hb d_PatternBookModel_isBelow_3 (by decide) (fun c_3 => ?_) (fun c_3 => ?_)
      · exact absurd c_3 (by decide)
      · refine lv_aload_n hx hb d_PatternBookModel_isBelow_6 rfl (lv_at hl 1 rfl) ?_
        refine va_get (D := D) (ci := 6) (v := .ref wa) (C := R_PatternBookModel) (T := F_PatternBookModel) (N := 11) hx hb hts i_PatternBookModel hown hK hP 0 rfl rfl 4 (by decide) (hts _ k_263) (fun _ h9 => h9) rfl d_PatternBookModel_isBelow_7 ?_
        refine lv_iconst (v := 4) hx hb d_PatternBookModel_isBelow_10 (by decide) ?_
        refine lv_iload_n hx hb d_PatternBookModel_isBelow_11 rfl (lv_at hl 2 rfl) ?_
        refine lv_imul hx hb d_PatternBookModel_isBelow_12 ?_
        refine W.eq (g2 := F0 m 13 ls [.int (0:Int32), .ref wa]) rfl ?_
        refine lv_iload_n hx hb d_PatternBookModel_isBelow_13 rfl (lv_at hl 0 rfl) ?_
        refine lv_iadd hx hb d_PatternBookModel_isBelow_14 ?_
        refine W.eq (g2 := F0 m 15 ls [.int (2:Int32), .ref wa]) rfl ?_
        refine va_lald hx hb hK hP 1 0 rfl rfl (idx_in rfl) d_PatternBookModel_isBelow_15 ?_
        refine W.eq (g2 := F0 m 16 ls [.long (w 2)]) rfl ?_
        refine lv_aload_n hx hb d_PatternBookModel_isBelow_16 rfl (lv_at hl 1 rfl) ?_
        refine va_get (D := D) (ci := 6) (v := .ref wa) (C := R_PatternBookModel) (T := F_PatternBookModel) (N := 11) hx hb hts i_PatternBookModel hown hK hP 0 rfl rfl 4 (by decide) (hts _ k_263) (fun _ h9 => h9) rfl d_PatternBookModel_isBelow_17 ?_
        refine lv_iconst (v := 4) hx hb d_PatternBookModel_isBelow_20 (by decide) ?_
        refine lv_iload_n hx hb d_PatternBookModel_isBelow_21 rfl (lv_at hl 3 rfl) ?_
        refine lv_imul hx hb d_PatternBookModel_isBelow_22 ?_
        refine W.eq (g2 := F0 m 23 ls [.int (4:Int32), .ref wa, .long (w 2)]) rfl ?_
        refine lv_iload_n hx hb d_PatternBookModel_isBelow_23 rfl (lv_at hl 0 rfl) ?_
        refine lv_iadd hx hb d_PatternBookModel_isBelow_24 ?_
        refine W.eq (g2 := F0 m 25 ls [.int (6:Int32), .ref wa, .long (w 2)]) rfl ?_
        refine va_lald hx hb hK hP 1 0 rfl rfl (idx_in rfl) d_PatternBookModel_isBelow_25 ?_
        refine W.eq (g2 := F0 m 26 ls [.long (w 6), .long (w 2)]) rfl ?_
        refine W.lcmp hx hb d_PatternBookModel_isBelow_26 ?_
        refine lv_if_eq (tgt := 60) hx hb d_PatternBookModel_isBelow_27 (by decide) (fun c_4 => ?_) (fun c_4 => ?_)
        · refine lv_iinc (v := (1:Int32)) (lv' := [(3, .int (1:Int32)), (0, .ref mo), (1, .int (0:Int32)), (2, .int (1:Int32))]) hx hb d_PatternBookModel_isBelow_60 hl (k := 0) rfl rfl (by decide) rfl (fun ls hl => ?_)
          refine lv_goto (tgt := 2) hx hb d_PatternBookModel_isBelow_63 (by decide) ?_
          refine lv_iload_n hx hb d_PatternBookModel_isBelow_2 rfl (lv_at hl 0 rfl) ?_
          refine lv_if_lt (tgt := 66) hx hb d_PatternBookModel_isBelow_3 (by decide) (fun c_5 => ?_) (fun c_5 => ?_)
          · exact absurd c_5 (by decide)
          · refine lv_aload_n hx hb d_PatternBookModel_isBelow_6 rfl (lv_at hl 1 rfl) ?_
            refine va_get (D := D) (ci := 6) (v := .ref wa) (C := R_PatternBookModel) (T := F_PatternBookModel) (N := 11) hx hb hts i_PatternBookModel hown hK hP 0 rfl rfl 4 (by decide) (hts _ k_263) (fun _ h9 => h9) rfl d_PatternBookModel_isBelow_7 ?_
            refine lv_iconst (v := 4) hx hb d_PatternBookModel_isBelow_10 (by decide) ?_
            refine lv_iload_n hx hb d_PatternBookModel_isBelow_11 rfl (lv_at hl 2 rfl) ?_
            refine lv_imul hx hb d_PatternBookModel_isBelow_12 ?_
            refine W.eq (g2 := F0 m 13 ls [.int (0:Int32), .ref wa]) rfl ?_
            refine lv_iload_n hx hb d_PatternBookModel_isBelow_13 rfl (lv_at hl 0 rfl) ?_
            refine lv_iadd hx hb d_PatternBookModel_isBelow_14 ?_
            refine W.eq (g2 := F0 m 15 ls [.int (1:Int32), .ref wa]) rfl ?_
            refine va_lald hx hb hK hP 1 0 rfl rfl (idx_in rfl) d_PatternBookModel_isBelow_15 ?_
            refine W.eq (g2 := F0 m 16 ls [.long (w 1)]) rfl ?_
            refine lv_aload_n hx hb d_PatternBookModel_isBelow_16 rfl (lv_at hl 1 rfl) ?_
            refine va_get (D := D) (ci := 6) (v := .ref wa) (C := R_PatternBookModel) (T := F_PatternBookModel) (N := 11) hx hb hts i_PatternBookModel hown hK hP 0 rfl rfl 4 (by decide) (hts _ k_263) (fun _ h9 => h9) rfl d_PatternBookModel_isBelow_17 ?_
            refine lv_iconst (v := 4) hx hb d_PatternBookModel_isBelow_20 (by decide) ?_
            refine lv_iload_n hx hb d_PatternBookModel_isBelow_21 rfl (lv_at hl 3 rfl) ?_
            refine lv_imul hx hb d_PatternBookModel_isBelow_22 ?_
            refine W.eq (g2 := F0 m 23 ls [.int (4:Int32), .ref wa, .long (w 1)]) rfl ?_
            refine lv_iload_n hx hb d_PatternBookModel_isBelow_23 rfl (lv_at hl 0 rfl) ?_
            refine lv_iadd hx hb d_PatternBookModel_isBelow_24 ?_
            refine W.eq (g2 := F0 m 25 ls [.int (5:Int32), .ref wa, .long (w 1)]) rfl ?_
            refine va_lald hx hb hK hP 1 0 rfl rfl (idx_in rfl) d_PatternBookModel_isBelow_25 ?_
            refine W.eq (g2 := F0 m 26 ls [.long (w 5), .long (w 1)]) rfl ?_
            refine W.lcmp hx hb d_PatternBookModel_isBelow_26 ?_
            refine lv_if_eq (tgt := 60) hx hb d_PatternBookModel_isBelow_27 (by decide) (fun c_6 => ?_) (fun c_6 => ?_)
            · refine lv_iinc (v := (0:Int32)) (lv' := [(3, .int (0:Int32)), (0, .ref mo), (1, .int (0:Int32)), (2, .int (1:Int32))]) hx hb d_PatternBookModel_isBelow_60 hl (k := 0) rfl rfl (by decide) rfl (fun ls hl => ?_)
              refine lv_goto (tgt := 2) hx hb d_PatternBookModel_isBelow_63 (by decide) ?_
              refine lv_iload_n hx hb d_PatternBookModel_isBelow_2 rfl (lv_at hl 0 rfl) ?_
              refine lv_if_lt (tgt := 66) hx hb d_PatternBookModel_isBelow_3 (by decide) (fun c_7 => ?_) (fun c_7 => ?_)
              · exact absurd c_7 (by decide)
              · refine lv_aload_n hx hb d_PatternBookModel_isBelow_6 rfl (lv_at hl 1 rfl) ?_
                refine va_get (D := D) (ci := 6) (v := .ref wa) (C := R_PatternBookModel) (T := F_PatternBookModel) (N := 11) hx hb hts i_PatternBookModel hown hK hP 0 rfl rfl 4 (by decide) (hts _ k_263) (fun _ h9 => h9) rfl d_PatternBookModel_isBelow_7 ?_
                refine lv_iconst (v := 4) hx hb d_PatternBookModel_isBelow_10 (by decide) ?_
                refine lv_iload_n hx hb d_PatternBookModel_isBelow_11 rfl (lv_at hl 2 rfl) ?_
                refine lv_imul hx hb d_PatternBookModel_isBelow_12 ?_
                refine W.eq (g2 := F0 m 13 ls [.int (0:Int32), .ref wa]) rfl ?_
                refine lv_iload_n hx hb d_PatternBookModel_isBelow_13 rfl (lv_at hl 0 rfl) ?_
                refine lv_iadd hx hb d_PatternBookModel_isBelow_14 ?_
                refine W.eq (g2 := F0 m 15 ls [.int (0:Int32), .ref wa]) rfl ?_
                refine va_lald hx hb hK hP 1 0 rfl rfl (idx_in rfl) d_PatternBookModel_isBelow_15 ?_
                refine W.eq (g2 := F0 m 16 ls [.long (w 0)]) rfl ?_
                refine lv_aload_n hx hb d_PatternBookModel_isBelow_16 rfl (lv_at hl 1 rfl) ?_
                refine va_get (D := D) (ci := 6) (v := .ref wa) (C := R_PatternBookModel) (T := F_PatternBookModel) (N := 11) hx hb hts i_PatternBookModel hown hK hP 0 rfl rfl 4 (by decide) (hts _ k_263) (fun _ h9 => h9) rfl d_PatternBookModel_isBelow_17 ?_
                refine lv_iconst (v := 4) hx hb d_PatternBookModel_isBelow_20 (by decide) ?_
                refine lv_iload_n hx hb d_PatternBookModel_isBelow_21 rfl (lv_at hl 3 rfl) ?_
                refine lv_imul hx hb d_PatternBookModel_isBelow_22 ?_
                refine W.eq (g2 := F0 m 23 ls [.int (4:Int32), .ref wa, .long (w 0)]) rfl ?_
                refine lv_iload_n hx hb d_PatternBookModel_isBelow_23 rfl (lv_at hl 0 rfl) ?_
                refine lv_iadd hx hb d_PatternBookModel_isBelow_24 ?_
                refine W.eq (g2 := F0 m 25 ls [.int (4:Int32), .ref wa, .long (w 0)]) rfl ?_
                refine va_lald hx hb hK hP 1 0 rfl rfl (idx_in rfl) d_PatternBookModel_isBelow_25 ?_
                refine W.eq (g2 := F0 m 26 ls [.long (w 4), .long (w 0)]) rfl ?_
                refine W.lcmp hx hb d_PatternBookModel_isBelow_26 ?_
                refine lv_if_eq (tgt := 60) hx hb d_PatternBookModel_isBelow_27 (by decide) (fun c_8 => ?_) (fun c_8 => ?_)
                · refine lv_iinc (v := (-1:Int32)) (lv' := [(3, .int (-1:Int32)), (0, .ref mo), (1, .int (0:Int32)), (2, .int (1:Int32))]) hx hb d_PatternBookModel_isBelow_60 hl (k := 0) rfl rfl (by decide) rfl (fun ls hl => ?_)
                  refine lv_goto (tgt := 2) hx hb d_PatternBookModel_isBelow_63 (by decide) ?_
                  refine lv_iload_n hx hb d_PatternBookModel_isBelow_2 rfl (lv_at hl 0 rfl) ?_
                  refine lv_if_lt (tgt := 66) hx hb d_PatternBookModel_isBelow_3 (by decide) (fun c_9 => ?_) (fun c_9 => ?_)
                  · refine lv_iconst (v := 0) hx hb d_PatternBookModel_isBelow_66 (by decide) ?_
                    refine W.zret hx hb hr rfl ?_ hS.2.2 d_PatternBookModel_isBelow_67
                    exact uEnd false (hP.sub [0, 1] rfl) (hK.sub [0] rfl) (hD.sub [0, 1] (by decide) rfl) hS (by  exact ((if_pos c_2).trans ((if_pos c_4).trans ((if_pos c_6).trans ((if_pos c_8).trans (rfl))))).symm) rfl
                  · exact absurd (by decide) c_9
                · refine lv_aload_n hx hb d_PatternBookModel_isBelow_30 rfl (lv_at hl 1 rfl) ?_
                  refine va_get (D := D) (ci := 6) (v := .ref wa) (C := R_PatternBookModel) (T := F_PatternBookModel) (N := 11) hx hb hts i_PatternBookModel hown hK hP 0 rfl rfl 4 (by decide) (hts _ k_263) (fun _ h9 => h9) rfl d_PatternBookModel_isBelow_31 ?_
                  refine lv_iconst (v := 4) hx hb d_PatternBookModel_isBelow_34 (by decide) ?_
                  refine lv_iload_n hx hb d_PatternBookModel_isBelow_35 rfl (lv_at hl 2 rfl) ?_
                  refine lv_imul hx hb d_PatternBookModel_isBelow_36 ?_
                  refine W.eq (g2 := F0 m 37 ls [.int (0:Int32), .ref wa]) rfl ?_
                  refine lv_iload_n hx hb d_PatternBookModel_isBelow_37 rfl (lv_at hl 0 rfl) ?_
                  refine lv_iadd hx hb d_PatternBookModel_isBelow_38 ?_
                  refine W.eq (g2 := F0 m 39 ls [.int (0:Int32), .ref wa]) rfl ?_
                  refine va_lald hx hb hK hP 1 0 rfl rfl (idx_in rfl) d_PatternBookModel_isBelow_39 ?_
                  refine W.eq (g2 := F0 m 40 ls [.long (w 0)]) rfl ?_
                  refine lv_aload_n hx hb d_PatternBookModel_isBelow_40 rfl (lv_at hl 1 rfl) ?_
                  refine va_get (D := D) (ci := 6) (v := .ref wa) (C := R_PatternBookModel) (T := F_PatternBookModel) (N := 11) hx hb hts i_PatternBookModel hown hK hP 0 rfl rfl 4 (by decide) (hts _ k_263) (fun _ h9 => h9) rfl d_PatternBookModel_isBelow_41 ?_
                  refine lv_iconst (v := 4) hx hb d_PatternBookModel_isBelow_44 (by decide) ?_
                  refine lv_iload_n hx hb d_PatternBookModel_isBelow_45 rfl (lv_at hl 3 rfl) ?_
                  refine lv_imul hx hb d_PatternBookModel_isBelow_46 ?_
                  refine W.eq (g2 := F0 m 47 ls [.int (4:Int32), .ref wa, .long (w 0)]) rfl ?_
                  refine lv_iload_n hx hb d_PatternBookModel_isBelow_47 rfl (lv_at hl 0 rfl) ?_
                  refine lv_iadd hx hb d_PatternBookModel_isBelow_48 ?_
                  refine W.eq (g2 := F0 m 49 ls [.int (4:Int32), .ref wa, .long (w 0)]) rfl ?_
                  refine va_lald hx hb hK hP 1 0 rfl rfl (idx_in rfl) d_PatternBookModel_isBelow_49 ?_
                  refine W.eq (g2 := F0 m 50 ls [.long (w 4), .long (w 0)]) rfl ?_
                  refine W.lcmp hx hb d_PatternBookModel_isBelow_50 ?_
                  refine lv_if_ge (tgt := 58) hx hb d_PatternBookModel_isBelow_51 (by decide) (fun c_10 => ?_) (fun c_10 => ?_)
                  · refine lv_iconst (v := 0) hx hb d_PatternBookModel_isBelow_58 (by decide) ?_
                    refine W.zret hx hb hr rfl ?_ hS.2.2 d_PatternBookModel_isBelow_59
                    exact uEnd false (hP.sub [0, 1] rfl) (hK.sub [0] rfl) (hD.sub [0, 1] (by decide) rfl) hS (by  exact ((if_pos c_2).trans ((if_pos c_4).trans ((if_pos c_6).trans ((if_neg c_8).trans ((if_pos c_10).trans (rfl)))))).symm) rfl
                  · refine lv_iconst (v := 1) hx hb d_PatternBookModel_isBelow_54 (by decide) ?_
                    refine lv_goto (tgt := 59) hx hb d_PatternBookModel_isBelow_55 (by decide) ?_
                    refine W.zret hx hb hr rfl ?_ hS.2.2 d_PatternBookModel_isBelow_59
                    exact uEnd true (hP.sub [0, 1] rfl) (hK.sub [0] rfl) (hD.sub [0, 1] (by decide) rfl) hS (by  exact ((if_pos c_2).trans ((if_pos c_4).trans ((if_pos c_6).trans ((if_neg c_8).trans ((if_neg c_10).trans (rfl)))))).symm) rfl
            · refine lv_aload_n hx hb d_PatternBookModel_isBelow_30 rfl (lv_at hl 1 rfl) ?_
              refine va_get (D := D) (ci := 6) (v := .ref wa) (C := R_PatternBookModel) (T := F_PatternBookModel) (N := 11) hx hb hts i_PatternBookModel hown hK hP 0 rfl rfl 4 (by decide) (hts _ k_263) (fun _ h9 => h9) rfl d_PatternBookModel_isBelow_31 ?_
              refine lv_iconst (v := 4) hx hb d_PatternBookModel_isBelow_34 (by decide) ?_
              refine lv_iload_n hx hb d_PatternBookModel_isBelow_35 rfl (lv_at hl 2 rfl) ?_
              refine lv_imul hx hb d_PatternBookModel_isBelow_36 ?_
              refine W.eq (g2 := F0 m 37 ls [.int (0:Int32), .ref wa]) rfl ?_
              refine lv_iload_n hx hb d_PatternBookModel_isBelow_37 rfl (lv_at hl 0 rfl) ?_
              refine lv_iadd hx hb d_PatternBookModel_isBelow_38 ?_
              refine W.eq (g2 := F0 m 39 ls [.int (1:Int32), .ref wa]) rfl ?_
              refine va_lald hx hb hK hP 1 0 rfl rfl (idx_in rfl) d_PatternBookModel_isBelow_39 ?_
              refine W.eq (g2 := F0 m 40 ls [.long (w 1)]) rfl ?_
              refine lv_aload_n hx hb d_PatternBookModel_isBelow_40 rfl (lv_at hl 1 rfl) ?_
              refine va_get (D := D) (ci := 6) (v := .ref wa) (C := R_PatternBookModel) (T := F_PatternBookModel) (N := 11) hx hb hts i_PatternBookModel hown hK hP 0 rfl rfl 4 (by decide) (hts _ k_263) (fun _ h9 => h9) rfl d_PatternBookModel_isBelow_41 ?_
              refine lv_iconst (v := 4) hx hb d_PatternBookModel_isBelow_44 (by decide) ?_
              refine lv_iload_n hx hb d_PatternBookModel_isBelow_45 rfl (lv_at hl 3 rfl) ?_
              refine lv_imul hx hb d_PatternBookModel_isBelow_46 ?_
              refine W.eq (g2 := F0 m 47 ls [.int (4:Int32), .ref wa, .long (w 1)]) rfl ?_
              refine lv_iload_n hx hb d_PatternBookModel_isBelow_47 rfl (lv_at hl 0 rfl) ?_
              refine lv_iadd hx hb d_PatternBookModel_isBelow_48 ?_
              refine W.eq (g2 := F0 m 49 ls [.int (5:Int32), .ref wa, .long (w 1)]) rfl ?_
              refine va_lald hx hb hK hP 1 0 rfl rfl (idx_in rfl) d_PatternBookModel_isBelow_49 ?_
              refine W.eq (g2 := F0 m 50 ls [.long (w 5), .long (w 1)]) rfl ?_
              refine W.lcmp hx hb d_PatternBookModel_isBelow_50 ?_
              refine lv_if_ge (tgt := 58) hx hb d_PatternBookModel_isBelow_51 (by decide) (fun c_11 => ?_) (fun c_11 => ?_)
              · refine lv_iconst (v := 0) hx hb d_PatternBookModel_isBelow_58 (by decide) ?_
                refine W.zret hx hb hr rfl ?_ hS.2.2 d_PatternBookModel_isBelow_59
                exact uEnd false (hP.sub [0, 1] rfl) (hK.sub [0] rfl) (hD.sub [0, 1] (by decide) rfl) hS (by  exact ((if_pos c_2).trans ((if_pos c_4).trans ((if_neg c_6).trans ((if_pos c_11).trans (rfl))))).symm) rfl
              · refine lv_iconst (v := 1) hx hb d_PatternBookModel_isBelow_54 (by decide) ?_
                refine lv_goto (tgt := 59) hx hb d_PatternBookModel_isBelow_55 (by decide) ?_
                refine W.zret hx hb hr rfl ?_ hS.2.2 d_PatternBookModel_isBelow_59
                exact uEnd true (hP.sub [0, 1] rfl) (hK.sub [0] rfl) (hD.sub [0, 1] (by decide) rfl) hS (by  exact ((if_pos c_2).trans ((if_pos c_4).trans ((if_neg c_6).trans ((if_neg c_11).trans (rfl))))).symm) rfl
        · refine lv_aload_n hx hb d_PatternBookModel_isBelow_30 rfl (lv_at hl 1 rfl) ?_
          refine va_get (D := D) (ci := 6) (v := .ref wa) (C := R_PatternBookModel) (T := F_PatternBookModel) (N := 11) hx hb hts i_PatternBookModel hown hK hP 0 rfl rfl 4 (by decide) (hts _ k_263) (fun _ h9 => h9) rfl d_PatternBookModel_isBelow_31 ?_
          refine lv_iconst (v := 4) hx hb d_PatternBookModel_isBelow_34 (by decide) ?_
          refine lv_iload_n hx hb d_PatternBookModel_isBelow_35 rfl (lv_at hl 2 rfl) ?_
          refine lv_imul hx hb d_PatternBookModel_isBelow_36 ?_
          refine W.eq (g2 := F0 m 37 ls [.int (0:Int32), .ref wa]) rfl ?_
          refine lv_iload_n hx hb d_PatternBookModel_isBelow_37 rfl (lv_at hl 0 rfl) ?_
          refine lv_iadd hx hb d_PatternBookModel_isBelow_38 ?_
          refine W.eq (g2 := F0 m 39 ls [.int (2:Int32), .ref wa]) rfl ?_
          refine va_lald hx hb hK hP 1 0 rfl rfl (idx_in rfl) d_PatternBookModel_isBelow_39 ?_
          refine W.eq (g2 := F0 m 40 ls [.long (w 2)]) rfl ?_
          refine lv_aload_n hx hb d_PatternBookModel_isBelow_40 rfl (lv_at hl 1 rfl) ?_
          refine va_get (D := D) (ci := 6) (v := .ref wa) (C := R_PatternBookModel) (T := F_PatternBookModel) (N := 11) hx hb hts i_PatternBookModel hown hK hP 0 rfl rfl 4 (by decide) (hts _ k_263) (fun _ h9 => h9) rfl d_PatternBookModel_isBelow_41 ?_
          refine lv_iconst (v := 4) hx hb d_PatternBookModel_isBelow_44 (by decide) ?_
          refine lv_iload_n hx hb d_PatternBookModel_isBelow_45 rfl (lv_at hl 3 rfl) ?_
          refine lv_imul hx hb d_PatternBookModel_isBelow_46 ?_
          refine W.eq (g2 := F0 m 47 ls [.int (4:Int32), .ref wa, .long (w 2)]) rfl ?_
          refine lv_iload_n hx hb d_PatternBookModel_isBelow_47 rfl (lv_at hl 0 rfl) ?_
          refine lv_iadd hx hb d_PatternBookModel_isBelow_48 ?_
          refine W.eq (g2 := F0 m 49 ls [.int (6:Int32), .ref wa, .long (w 2)]) rfl ?_
          refine va_lald hx hb hK hP 1 0 rfl rfl (idx_in rfl) d_PatternBookModel_isBelow_49 ?_
          refine W.eq (g2 := F0 m 50 ls [.long (w 6), .long (w 2)]) rfl ?_
          refine W.lcmp hx hb d_PatternBookModel_isBelow_50 ?_
          refine lv_if_ge (tgt := 58) hx hb d_PatternBookModel_isBelow_51 (by decide) (fun c_12 => ?_) (fun c_12 => ?_)
          · refine lv_iconst (v := 0) hx hb d_PatternBookModel_isBelow_58 (by decide) ?_
            refine W.zret hx hb hr rfl ?_ hS.2.2 d_PatternBookModel_isBelow_59
            exact uEnd false (hP.sub [0, 1] rfl) (hK.sub [0] rfl) (hD.sub [0, 1] (by decide) rfl) hS (by  exact ((if_pos c_2).trans ((if_neg c_4).trans ((if_pos c_12).trans (rfl)))).symm) rfl
          · refine lv_iconst (v := 1) hx hb d_PatternBookModel_isBelow_54 (by decide) ?_
            refine lv_goto (tgt := 59) hx hb d_PatternBookModel_isBelow_55 (by decide) ?_
            refine W.zret hx hb hr rfl ?_ hS.2.2 d_PatternBookModel_isBelow_59
            exact uEnd true (hP.sub [0, 1] rfl) (hK.sub [0] rfl) (hD.sub [0, 1] (by decide) rfl) hS (by  exact ((if_pos c_2).trans ((if_neg c_4).trans ((if_neg c_12).trans (rfl)))).symm) rfl
    · refine lv_aload_n hx hb d_PatternBookModel_isBelow_30 rfl (lv_at hl 1 rfl) ?_
      refine va_get (D := D) (ci := 6) (v := .ref wa) (C := R_PatternBookModel) (T := F_PatternBookModel) (N := 11) hx hb hts i_PatternBookModel hown hK hP 0 rfl rfl 4 (by decide) (hts _ k_263) (fun _ h9 => h9) rfl d_PatternBookModel_isBelow_31 ?_
      refine lv_iconst (v := 4) hx hb d_PatternBookModel_isBelow_34 (by decide) ?_
      refine lv_iload_n hx hb d_PatternBookModel_isBelow_35 rfl (lv_at hl 2 rfl) ?_
      refine lv_imul hx hb d_PatternBookModel_isBelow_36 ?_
      refine W.eq (g2 := F0 m 37 ls [.int (0:Int32), .ref wa]) rfl ?_
      refine lv_iload_n hx hb d_PatternBookModel_isBelow_37 rfl (lv_at hl 0 rfl) ?_
      refine lv_iadd hx hb d_PatternBookModel_isBelow_38 ?_
      refine W.eq (g2 := F0 m 39 ls [.int (3:Int32), .ref wa]) rfl ?_
      refine va_lald hx hb hK hP 1 0 rfl rfl (idx_in rfl) d_PatternBookModel_isBelow_39 ?_
      refine W.eq (g2 := F0 m 40 ls [.long (w 3)]) rfl ?_
      refine lv_aload_n hx hb d_PatternBookModel_isBelow_40 rfl (lv_at hl 1 rfl) ?_
      refine va_get (D := D) (ci := 6) (v := .ref wa) (C := R_PatternBookModel) (T := F_PatternBookModel) (N := 11) hx hb hts i_PatternBookModel hown hK hP 0 rfl rfl 4 (by decide) (hts _ k_263) (fun _ h9 => h9) rfl d_PatternBookModel_isBelow_41 ?_
      refine lv_iconst (v := 4) hx hb d_PatternBookModel_isBelow_44 (by decide) ?_
      refine lv_iload_n hx hb d_PatternBookModel_isBelow_45 rfl (lv_at hl 3 rfl) ?_
      refine lv_imul hx hb d_PatternBookModel_isBelow_46 ?_
      refine W.eq (g2 := F0 m 47 ls [.int (4:Int32), .ref wa, .long (w 3)]) rfl ?_
      refine lv_iload_n hx hb d_PatternBookModel_isBelow_47 rfl (lv_at hl 0 rfl) ?_
      refine lv_iadd hx hb d_PatternBookModel_isBelow_48 ?_
      refine W.eq (g2 := F0 m 49 ls [.int (7:Int32), .ref wa, .long (w 3)]) rfl ?_
      refine va_lald hx hb hK hP 1 0 rfl rfl (idx_in rfl) d_PatternBookModel_isBelow_49 ?_
      refine W.eq (g2 := F0 m 50 ls [.long (w 7), .long (w 3)]) rfl ?_
      refine W.lcmp hx hb d_PatternBookModel_isBelow_50 ?_
      refine lv_if_ge (tgt := 58) hx hb d_PatternBookModel_isBelow_51 (by decide) (fun c_13 => ?_) (fun c_13 => ?_)
      · refine lv_iconst (v := 0) hx hb d_PatternBookModel_isBelow_58 (by decide) ?_
        refine W.zret hx hb hr rfl ?_ hS.2.2 d_PatternBookModel_isBelow_59
        exact uEnd false (hP.sub [0, 1] rfl) (hK.sub [0] rfl) (hD.sub [0, 1] (by decide) rfl) hS (by  exact ((if_neg c_2).trans ((if_pos c_13).trans (rfl))).symm) rfl
      · refine lv_iconst (v := 1) hx hb d_PatternBookModel_isBelow_54 (by decide) ?_
        refine lv_goto (tgt := 59) hx hb d_PatternBookModel_isBelow_55 (by decide) ?_
        refine W.zret hx hb hr rfl ?_ hS.2.2 d_PatternBookModel_isBelow_59
        exact uEnd true (hP.sub [0, 1] rfl) (hK.sub [0] rfl) (hD.sub [0, 1] (by decide) rfl) hS (by  exact ((if_neg c_2).trans ((if_neg c_13).trans (rfl))).symm) rfl
set_option maxHeartbeats 4000000 in
set_option maxRecDepth 100000 in
/-- PatternBookModel.isZero(I)Z -/
theorem c_M_isZero (l : Launch) (D : va_G) (mo : Nat) (wa : Nat) (sa : Nat) (ma : Nat) (cW : ClassId) (sz : Nat) (co : Int32) (kd : Int32) (sg : Int32) (ex : Int32) (hi : Int64) (lo : Int64) (lh : Int64) (ll : Int64) (w : Nat → Int64) : Met l y_PatternBookModel_isZero (wsOf y_PatternBookModel_isZero b_PatternBookModel_isZero 2 (some .boolean)) ({ frames := 0, cells := 0, slots := 0, locals := 0 }) (uP D classes [(mo, .inr (6, [.int co, .int kd, .int sg, .int ex, .ref wa, .long hi, .long lo, .long lh, .long ll, .ref sa, .ref ma])), (wa, .inl (cW, 12, .inr (.inl w)))] [(cW, .long)] sz [.ref mo, .int (0:Int32)]) (uQ D classes (fun u : Bool => some (.int (bI u))) (fun u => u = (sl m_M_isZero) w) (va_A [(mo, .inr (6, [.int co, .int kd, .int sg, .int ex, .ref wa, .long hi, .long lo, .long lh, .long ll, .ref sa, .ref ma])), (wa, .inl (cW, 12, .inr (.inl w)))] sz) (fun _ => [(cW, .long)]) (fun u => [(mo, .inr (6, [.int co, .int kd, .int sg, .int ex, .ref wa, .long hi, .long lo, .long lh, .long ll, .ref sa, .ref ma])), (wa, .inl (cW, 12, .inr (.inl w)))])) 0 0 (va_A [(mo, .inr (6, [.int co, .int kd, .int sg, .int ex, .ref wa, .long hi, .long lo, .long lh, .long ll, .ref sa, .ref ma])), (wa, .inl (cW, 12, .inr (.inl w)))] sz) := by
  rw [sl_eq m_M_isZero]
  refine uBegin (by decide +kernel) (Nat.le_of_ble_eq_true rfl) ?_
  intro p e s m below meth c A ls H locs hx hb hr hts hown hlocks hml hin hA hP hK hD hN hS hl
  have hl : lv_has ls 2 [(0, .ref mo), (1, .int (0:Int32))] := hl
  refine lv_aload_n hx hb d_PatternBookModel_isZero_0 rfl (lv_at hl 0 rfl) ?_
  refine va_get (D := D) (ci := 6) (v := .ref wa) (C := R_PatternBookModel) (T := F_PatternBookModel) (N := 11) hx hb hts i_PatternBookModel hown hK hP 0 rfl rfl 4 (by decide) (hts _ k_263) (fun _ h9 => h9) rfl d_PatternBookModel_isZero_1 ?_
  refine lv_iconst (v := 4) hx hb d_PatternBookModel_isZero_4 (by decide) ?_
  refine lv_iload_n hx hb d_PatternBookModel_isZero_5 rfl (lv_at hl 1 rfl) ?_
  refine lv_imul hx hb d_PatternBookModel_isZero_6 ?_
  refine W.eq (g2 := F0 m 7 ls [.int (0:Int32), .ref wa]) rfl ?_
  refine va_lald hx hb hK hP 1 0 rfl rfl (idx_in rfl) d_PatternBookModel_isZero_7 ?_
  refine W.eq (g2 := F0 m 8 ls [.long (w 0)]) rfl ?_
  refine lv_aload_n hx hb d_PatternBookModel_isZero_8 rfl (lv_at hl 0 rfl) ?_
  refine va_get (D := D) (ci := 6) (v := .ref wa) (C := R_PatternBookModel) (T := F_PatternBookModel) (N := 11) hx hb hts i_PatternBookModel hown hK hP 0 rfl rfl 4 (by decide) (hts _ k_263) (fun _ h9 => h9) rfl d_PatternBookModel_isZero_9 ?_
  refine lv_iconst (v := 4) hx hb d_PatternBookModel_isZero_12 (by decide) ?_
  refine lv_iload_n hx hb d_PatternBookModel_isZero_13 rfl (lv_at hl 1 rfl) ?_
  refine lv_imul hx hb d_PatternBookModel_isZero_14 ?_
  refine W.eq (g2 := F0 m 15 ls [.int (0:Int32), .ref wa, .long (w 0)]) rfl ?_
  refine lv_iconst (v := 1) hx hb d_PatternBookModel_isZero_15 (by decide) ?_
  refine lv_iadd hx hb d_PatternBookModel_isZero_16 ?_
  refine W.eq (g2 := F0 m 17 ls [.int (1:Int32), .ref wa, .long (w 0)]) rfl ?_
  refine va_lald hx hb hK hP 1 0 rfl rfl (idx_in rfl) d_PatternBookModel_isZero_17 ?_
  refine W.eq (g2 := F0 m 18 ls [.long (w 1), .long (w 0)]) rfl ?_
  refine lv_lor hx hb d_PatternBookModel_isZero_18 ?_
  refine lv_aload_n hx hb d_PatternBookModel_isZero_19 rfl (lv_at hl 0 rfl) ?_
  refine va_get (D := D) (ci := 6) (v := .ref wa) (C := R_PatternBookModel) (T := F_PatternBookModel) (N := 11) hx hb hts i_PatternBookModel hown hK hP 0 rfl rfl 4 (by decide) (hts _ k_263) (fun _ h9 => h9) rfl d_PatternBookModel_isZero_20 ?_
  refine lv_iconst (v := 4) hx hb d_PatternBookModel_isZero_23 (by decide) ?_
  refine lv_iload_n hx hb d_PatternBookModel_isZero_24 rfl (lv_at hl 1 rfl) ?_
  refine lv_imul hx hb d_PatternBookModel_isZero_25 ?_
  refine W.eq (g2 := F0 m 26 ls [.int (0:Int32), .ref wa, .long ((w 0) ||| (w 1))]) rfl ?_
  refine lv_iconst (v := 2) hx hb d_PatternBookModel_isZero_26 (by decide) ?_
  refine lv_iadd hx hb d_PatternBookModel_isZero_27 ?_
  refine W.eq (g2 := F0 m 28 ls [.int (2:Int32), .ref wa, .long ((w 0) ||| (w 1))]) rfl ?_
  refine va_lald hx hb hK hP 1 0 rfl rfl (idx_in rfl) d_PatternBookModel_isZero_28 ?_
  refine W.eq (g2 := F0 m 29 ls [.long (w 2), .long ((w 0) ||| (w 1))]) rfl ?_
  refine lv_lor hx hb d_PatternBookModel_isZero_29 ?_
  refine lv_aload_n hx hb d_PatternBookModel_isZero_30 rfl (lv_at hl 0 rfl) ?_
  refine va_get (D := D) (ci := 6) (v := .ref wa) (C := R_PatternBookModel) (T := F_PatternBookModel) (N := 11) hx hb hts i_PatternBookModel hown hK hP 0 rfl rfl 4 (by decide) (hts _ k_263) (fun _ h9 => h9) rfl d_PatternBookModel_isZero_31 ?_
  refine lv_iconst (v := 4) hx hb d_PatternBookModel_isZero_34 (by decide) ?_
  refine lv_iload_n hx hb d_PatternBookModel_isZero_35 rfl (lv_at hl 1 rfl) ?_
  refine lv_imul hx hb d_PatternBookModel_isZero_36 ?_
  refine W.eq (g2 := F0 m 37 ls [.int (0:Int32), .ref wa, .long (((w 0) ||| (w 1)) ||| (w 2))]) rfl ?_
  refine lv_iconst (v := 3) hx hb d_PatternBookModel_isZero_37 (by decide) ?_
  refine lv_iadd hx hb d_PatternBookModel_isZero_38 ?_
  refine W.eq (g2 := F0 m 39 ls [.int (3:Int32), .ref wa, .long (((w 0) ||| (w 1)) ||| (w 2))]) rfl ?_
  refine va_lald hx hb hK hP 1 0 rfl rfl (idx_in rfl) d_PatternBookModel_isZero_39 ?_
  refine W.eq (g2 := F0 m 40 ls [.long (w 3), .long (((w 0) ||| (w 1)) ||| (w 2))]) rfl ?_
  refine lv_lor hx hb d_PatternBookModel_isZero_40 ?_
  refine lv_lconst (v := 0) hx hb d_PatternBookModel_isZero_41 (by decide) ?_
  refine W.lcmp hx hb d_PatternBookModel_isZero_42 ?_
  refine lv_if_ne (tgt := 50) hx hb d_PatternBookModel_isZero_43 (by decide) (fun c_1 => ?_) (fun c_1 => ?_)
  · refine lv_iconst (v := 0) hx hb d_PatternBookModel_isZero_50 (by decide) ?_
    refine W.zret hx hb hr rfl ?_ hS.2.2 d_PatternBookModel_isZero_51
    exact uEnd false (hP.sub [0, 1] rfl) (hK.sub [0] rfl) (hD.sub [0, 1] (by decide) rfl) hS (by  exact ((if_neg c_1).trans (rfl)).symm) rfl
  · refine lv_iconst (v := 1) hx hb d_PatternBookModel_isZero_46 (by decide) ?_
    refine lv_goto (tgt := 51) hx hb d_PatternBookModel_isZero_47 (by decide) ?_
    refine W.zret hx hb hr rfl ?_ hS.2.2 d_PatternBookModel_isZero_51
    exact uEnd true (hP.sub [0, 1] rfl) (hK.sub [0] rfl) (hD.sub [0, 1] (by decide) rfl) hS (by  exact ((if_pos c_1).trans (rfl)).symm) rfl
set_option maxHeartbeats 4000000 in
set_option maxRecDepth 100000 in
/-- PatternBookModel.bitOf(II)I -/
theorem c_M_bitOf (l : Launch) (D : va_G) (mo : Nat) (wa : Nat) (sa : Nat) (ma : Nat) (cW : ClassId) (sz : Nat) (x : Int32) (co : Int32) (kd : Int32) (sg : Int32) (ex : Int32) (hi : Int64) (lo : Int64) (lh : Int64) (ll : Int64) (w : Nat → Int64) (hk : mok_M_bitOf x) : Met l y_PatternBookModel_bitOf (wsOf y_PatternBookModel_bitOf b_PatternBookModel_bitOf 3 (some .int)) ({ frames := 0, cells := 0, slots := 0, locals := 0 }) (uP D classes [(mo, .inr (6, [.int co, .int kd, .int sg, .int ex, .ref wa, .long hi, .long lo, .long lh, .long ll, .ref sa, .ref ma])), (wa, .inl (cW, 12, .inr (.inl w)))] [(cW, .long)] sz [.ref mo, .int (0:Int32), .int x]) (uQ D classes (fun u : Int32 => some (.int u)) (fun u => u = (sl m_M_bitOf) x w) (va_A [(mo, .inr (6, [.int co, .int kd, .int sg, .int ex, .ref wa, .long hi, .long lo, .long lh, .long ll, .ref sa, .ref ma])), (wa, .inl (cW, 12, .inr (.inl w)))] sz) (fun _ => [(cW, .long)]) (fun u => [(mo, .inr (6, [.int co, .int kd, .int sg, .int ex, .ref wa, .long hi, .long lo, .long lh, .long ll, .ref sa, .ref ma])), (wa, .inl (cW, 12, .inr (.inl w)))])) 0 0 (va_A [(mo, .inr (6, [.int co, .int kd, .int sg, .int ex, .ref wa, .long hi, .long lo, .long lh, .long ll, .ref sa, .ref ma])), (wa, .inl (cW, 12, .inr (.inl w)))] sz) := by
  rw [sl_eq m_M_bitOf]
  refine uBegin (by decide +kernel) (Nat.le_of_ble_eq_true rfl) ?_
  intro p e s m below meth c A ls H locs hx hb hr hts hown hlocks hml hin hA hP hK hD hN hS hl
  have hl : lv_has ls 3 [(0, .ref mo), (1, .int (0:Int32)), (2, .int x)] := hl
  unfold mok_M_bitOf at hk
  refine lv_aload_n hx hb d_PatternBookModel_bitOf_0 rfl (lv_at hl 0 rfl) ?_
  refine va_get (D := D) (ci := 6) (v := .ref wa) (C := R_PatternBookModel) (T := F_PatternBookModel) (N := 11) hx hb hts i_PatternBookModel hown hK hP 0 rfl rfl 4 (by decide) (hts _ k_263) (fun _ h9 => h9) rfl d_PatternBookModel_bitOf_1 ?_
  refine lv_iconst (v := 4) hx hb d_PatternBookModel_bitOf_4 (by decide) ?_
  refine lv_iload_n hx hb d_PatternBookModel_bitOf_5 rfl (lv_at hl 1 rfl) ?_
  refine lv_imul hx hb d_PatternBookModel_bitOf_6 ?_
  refine W.eq (g2 := F0 m 7 ls [.int (0:Int32), .ref wa]) rfl ?_
  refine lv_iload_n hx hb d_PatternBookModel_bitOf_7 rfl (lv_at hl 2 rfl) ?_
  refine lv_bipush (v := 32) hx hb d_PatternBookModel_bitOf_8 (by decide) ?_
  refine lv_idiv hx hb d_PatternBookModel_bitOf_10 (by decide) ?_
  refine lv_iadd hx hb d_PatternBookModel_bitOf_11 ?_
  have hq1 := hk
  refine va_lald hx hb hK hP 1 0 rfl rfl hq1 d_PatternBookModel_bitOf_12 ?_
  refine lv_iload_n hx hb d_PatternBookModel_bitOf_13 rfl (lv_at hl 2 rfl) ?_
  refine lv_bipush (v := 32) hx hb d_PatternBookModel_bitOf_14 (by decide) ?_
  refine lv_irem hx hb d_PatternBookModel_bitOf_16 (by decide) ?_
  refine lv_lshr (v := lshr_ (w (Int32.toNatClampNeg ((0:Int32) + (x / (32:Int32))))) (x - x / (32:Int32) * (32:Int32))) hx hb d_PatternBookModel_bitOf_17 rfl ?_
  refine lv_lconst (v := 1) hx hb d_PatternBookModel_bitOf_18 (by decide) ?_
  refine lv_land hx hb d_PatternBookModel_bitOf_19 ?_
  refine lv_l2i hx hb d_PatternBookModel_bitOf_20 rfl ?_
  refine W.iret hx hb hr ?_ hS.2.2 d_PatternBookModel_bitOf_21
  exact uEnd (Int64.toInt32 ((lshr_ (w (Int32.toNatClampNeg ((0:Int32) + (x / (32:Int32))))) (x - x / (32:Int32) * (32:Int32))) &&& (1:Int64))) (hP.sub [0, 1] rfl) (hK.sub [0] rfl) (hD.sub [0, 1] (by decide) rfl) hS rfl rfl
set_option maxHeartbeats 4000000 in
set_option maxRecDepth 100000 in
/-- PatternBookModel.bit(I)I -/
theorem c_M_bit (l : Launch) (D : va_G) (mo : Nat) (wa : Nat) (sa : Nat) (ma : Nat) (sz : Nat) (x : Int32) (co : Int32) (kd : Int32) (sg : Int32) (ex : Int32) (hi : Int64) (lo : Int64) (lh : Int64) (ll : Int64) : Met l y_PatternBookModel_bit (wsOf y_PatternBookModel_bit b_PatternBookModel_bit 2 (some .int)) ({ frames := 0, cells := 0, slots := 0, locals := 0 }) (uP D classes [(mo, .inr (6, [.int co, .int kd, .int sg, .int ex, .ref wa, .long hi, .long lo, .long lh, .long ll, .ref sa, .ref ma]))] [] sz [.ref mo, .int x]) (uQ D classes (fun u : Int32 => some (.int u)) (fun u => u = (sl m_M_bit) x lh ll) (va_A [(mo, .inr (6, [.int co, .int kd, .int sg, .int ex, .ref wa, .long hi, .long lo, .long lh, .long ll, .ref sa, .ref ma]))] sz) (fun _ => []) (fun u => [(mo, .inr (6, [.int co, .int kd, .int sg, .int ex, .ref wa, .long hi, .long lo, .long lh, .long ll, .ref sa, .ref ma]))])) 0 0 (va_A [(mo, .inr (6, [.int co, .int kd, .int sg, .int ex, .ref wa, .long hi, .long lo, .long lh, .long ll, .ref sa, .ref ma]))] sz) := by
  rw [sl_eq m_M_bit]
  refine uBegin (by decide +kernel) (Nat.le_of_ble_eq_true rfl) ?_
  intro p e s m below meth c A ls H locs hx hb hr hts hown hlocks hml hin hA hP hK hD hN hS hl
  have hl : lv_has ls 2 [(0, .ref mo), (1, .int x)] := hl
  refine lv_iload_n hx hb d_PatternBookModel_bit_0 rfl (lv_at hl 1 rfl) ?_
  refine lv_bipush (v := 64) hx hb d_PatternBookModel_bit_1 (by decide) ?_
  refine lv_icmp_ge (tgt := 15) hx hb d_PatternBookModel_bit_3 (by decide) (fun c_1 => ?_) (fun c_1 => ?_)
  · refine lv_aload_n hx hb d_PatternBookModel_bit_15 rfl (lv_at hl 0 rfl) ?_
    refine va_get (D := D) (ci := 6) (v := .long lh) (C := R_PatternBookModel) (T := F_PatternBookModel) (N := 11) hx hb hts i_PatternBookModel hown hK hP 0 rfl rfl 7 (by decide) (hts _ k_273) (fun _ h9 => h9) rfl d_PatternBookModel_bit_16 ?_
    refine lv_iload_n hx hb d_PatternBookModel_bit_19 rfl (lv_at hl 1 rfl) ?_
    refine lv_bipush (v := 64) hx hb d_PatternBookModel_bit_20 (by decide) ?_
    refine lv_isub hx hb d_PatternBookModel_bit_22 ?_
    refine lv_lushr (v := lushr_ lh (x - (64:Int32))) hx hb d_PatternBookModel_bit_23 rfl ?_
    refine lv_lconst (v := 1) hx hb d_PatternBookModel_bit_24 (by decide) ?_
    refine lv_land hx hb d_PatternBookModel_bit_25 ?_
    refine lv_l2i hx hb d_PatternBookModel_bit_26 rfl ?_
    refine W.iret hx hb hr ?_ hS.2.2 d_PatternBookModel_bit_27
    exact uEnd (Int64.toInt32 ((lushr_ lh (x - (64:Int32))) &&& (1:Int64))) (hP.sub [0] rfl) (hK.sub [] rfl) (hD.sub [0] (by decide) rfl) hS (by  exact ((if_pos c_1).trans (rfl)).symm) rfl
  · refine lv_aload_n hx hb d_PatternBookModel_bit_6 rfl (lv_at hl 0 rfl) ?_
    refine va_get (D := D) (ci := 6) (v := .long ll) (C := R_PatternBookModel) (T := F_PatternBookModel) (N := 11) hx hb hts i_PatternBookModel hown hK hP 0 rfl rfl 8 (by decide) (hts _ k_274) (fun _ h9 => h9) rfl d_PatternBookModel_bit_7 ?_
    refine lv_iload_n hx hb d_PatternBookModel_bit_10 rfl (lv_at hl 1 rfl) ?_
    refine lv_lushr (v := lushr_ ll x) hx hb d_PatternBookModel_bit_11 rfl ?_
    refine lv_goto (tgt := 24) hx hb d_PatternBookModel_bit_12 (by decide) ?_
    refine lv_lconst (v := 1) hx hb d_PatternBookModel_bit_24 (by decide) ?_
    refine lv_land hx hb d_PatternBookModel_bit_25 ?_
    refine lv_l2i hx hb d_PatternBookModel_bit_26 rfl ?_
    refine W.iret hx hb hr ?_ hS.2.2 d_PatternBookModel_bit_27
    exact uEnd (Int64.toInt32 ((lushr_ ll x) &&& (1:Int64))) (hP.sub [0] rfl) (hK.sub [] rfl) (hD.sub [0] (by decide) rfl) hS (by  exact ((if_neg c_1).trans (rfl)).symm) rfl
set_option maxHeartbeats 4000000 in
set_option maxRecDepth 100000 in
/-- the loop of PatternBookModel.field -/
theorem lp_M_field (l : Launch) (D : va_G) (mo : Nat) (wa : Nat) (sa : Nat) (ma : Nat) (x : Int32) (y : Int32) (co : Int32) (kd : Int32) (sg : Int32) (ex : Int32) (hi : Int64) (lo : Int64) (lh : Int64) (ll : Int64) {p : Program} {e : Env} {s : State} {m : MethodId} {below : List Frame} {meth : Method} {c : Code} {A : Nat → Prop} {args : Array Value} {F : Int32} (hx : p.tables.exec = Jvm.exec) (hb : c.code = b_PatternBookModel_field) (hr : meth.sig.returnType = (some .int)) (hts : ∀ w ∈ wt, w.before args s = true) (hown : s.vm.findClass R_PatternBookModel = some m.cls) (hlocks : meth.locks = false) (hml : c.maxLocals = 5) (hA : ∀ q : Nat, s.heap.size ≤ q → A q) (hN : uN s) : ∀ (n : Nat) (x4 : Int32) (x3 : Int32) (H : Heap) (locs : List Loc) (ls : Array Slot), mlk_M_field n x4 → mlf_M_field n x lh ll x4 x3 = F → va_K D classes [] s → va_P D classes [(mo, .inr (6, [.int co, .int kd, .int sg, .int ex, .ref wa, .long hi, .long lo, .long lh, .long ll, .ref sa, .ref ma]))] H → va_D A [(mo, .inr (6, [.int co, .int kd, .int sg, .int ex, .ref wa, .long hi, .long lo, .long lh, .long ll, .ref sa, .ref ma]))] → va_S A s.heap H locs → lv_has ls 5 [(4, .int x4), (3, .int x3), (0, .ref mo), (1, .int x), (2, .int y)] → W p l e (headSpec (wsOf y_PatternBookModel_field b_PatternBookModel_field 5 (some .int)) ({ frames := 1, cells := 0, slots := 0, locals := 21 })).room s m args below meth c H locs (0) (0) (MQ below (uQ D classes (fun u : Int32 => some (.int u)) (fun u => u = F) A (fun _ => []) (fun u => [(mo, .inr (6, [.int co, .int kd, .int sg, .int ex, .ref wa, .long hi, .long lo, .long lh, .long ll, .ref sa, .ref ma]))])) args s 0 0 A) (F0 m 7 ls []) := by
  intro n
  induction n with
  | zero => intro x4 x3 H locs ls hk; exact (show False from hk).elim
  | succ n ih =>
    intro x4 x3 H locs ls hk hF hK hP hD hS hl
    unfold mlk_M_field at hk
    refine lv_iload hx hb d_PatternBookModel_field_7 (lv_at hl 0 rfl) ?_
    refine lv_if_lt (tgt := 31) hx hb d_PatternBookModel_field_9 (by decide) (fun c_1 => ?_) (fun c_1 => ?_)
    · refine lv_iload_n hx hb d_PatternBookModel_field_31 rfl (lv_at hl 1 rfl) ?_
      refine W.iret hx hb hr ?_ hS.2.2 d_PatternBookModel_field_32
      exact uEnd x3 (hP.sub [0] rfl) (hK.sub [] rfl) (hD.sub [0] (by decide) rfl) hS (by  exact (show mlf_M_field (n + 1) x lh ll x4 x3 = _ from (if_pos c_1).trans (rfl)).symm.trans hF) rfl
    · have hk := hk.2 c_1
      refine lv_iconst (v := 2) hx hb d_PatternBookModel_field_12 (by decide) ?_
      refine lv_iload_n hx hb d_PatternBookModel_field_13 rfl (lv_at hl 1 rfl) ?_
      refine lv_imul hx hb d_PatternBookModel_field_14 ?_
      refine lv_aload_n hx hb d_PatternBookModel_field_15 rfl (lv_at hl 2 rfl) ?_
      refine lv_iload_n hx hb d_PatternBookModel_field_16 rfl (lv_at hl 3 rfl) ?_
      refine lv_iload hx hb d_PatternBookModel_field_17 (lv_at hl 0 rfl) ?_
      refine lv_iadd hx hb d_PatternBookModel_field_19 ?_
      refine uCall (WR := []) (RT := []) (va_runV (As := [.int (x + x4)]) (rest := [.int ((2:Int32) * x3)]) ⟨hx, hb, hml, hown, hts⟩ (c_M_bit l D mo wa sa ma H.size (x + x4) co kd sg ex hi lo lh ll) ⟨uCB 1 hts k_275 k_257 k_276 (by decide +kernel) rfl rfl ⟨Nat.le_of_ble_eq_true rfl, Nat.le_of_ble_eq_true rfl⟩, hts _ k_277, hts _ k_278⟩ (uPreV (ci := 6) (q0 := 0) hK hP hD hN [0] rfl (by decide) [] rfl rfl rfl) rfl rfl hl.1 rfl (lv_room (Nat.le_of_ble_eq_true rfl)) d_PatternBookModel_field_20 ⟨(Nat.le_of_ble_eq_true rfl), (Nat.le_of_ble_eq_true rfl)⟩) hK hP hD hS hA [0] [] rfl rfl (by decide) (by decide) [] rfl (fun u2 H locs hu2 hP hD hK hS => ?_)
      have hP : va_P D classes [(mo, .inr (6, [.int co, .int kd, .int sg, .int ex, .ref wa, .long hi, .long lo, .long lh, .long ll, .ref sa, .ref ma]))] H := hP
      have hD : va_D A [(mo, .inr (6, [.int co, .int kd, .int sg, .int ex, .ref wa, .long hi, .long lo, .long lh, .long ll, .ref sa, .ref ma]))] := hD
      have hK : va_K D classes [] s := hK
      refine W.eq (g2 := F0 m 23 ls [.int u2, .int ((2:Int32) * x3)]) rfl ?_
      refine lv_iadd hx hb d_PatternBookModel_field_23 ?_
      refine lv_istore_n (lv' := [(3, .int (((2:Int32) * x3) + u2)), (4, .int x4), (0, .ref mo), (1, .int x), (2, .int y)]) hx hb d_PatternBookModel_field_24 rfl hl (by decide) rfl (fun ls hl => ?_)
      refine lv_iinc (v := (x4 + (-1:Int32))) (lv' := [(4, .int (x4 + (-1:Int32))), (3, .int (((2:Int32) * x3) + u2)), (0, .ref mo), (1, .int x), (2, .int y)]) hx hb d_PatternBookModel_field_25 hl (k := 1) rfl rfl (by decide) rfl (fun ls hl => ?_)
      refine lv_goto (tgt := 7) hx hb d_PatternBookModel_field_28 (by decide) ?_
      exact ih (x4 + (-1:Int32)) (((2:Int32) * x3) + u2) _ _ _ hk (by have eu2 := hu2.symm; subst eu2; exact (show mlf_M_field (n + 1) x lh ll x4 x3 = _ from (if_neg c_1).trans (rfl)).symm.trans hF) (hK.sub [] rfl) (hP.sub [0] rfl) (hD.sub [0] (by decide) rfl) hS (lv_sub hl [0, 1, 2, 3, 4] rfl)
set_option maxHeartbeats 4000000 in
set_option maxRecDepth 100000 in
/-- PatternBookModel.field(II)I -/
theorem c_M_field (l : Launch) (D : va_G) (mo : Nat) (wa : Nat) (sa : Nat) (ma : Nat) (sz : Nat) (x : Int32) (y : Int32) (co : Int32) (kd : Int32) (sg : Int32) (ex : Int32) (hi : Int64) (lo : Int64) (lh : Int64) (ll : Int64) (hk : mok_M_field y) : Met l y_PatternBookModel_field (wsOf y_PatternBookModel_field b_PatternBookModel_field 5 (some .int)) ({ frames := 1, cells := 0, slots := 0, locals := 21 }) (uP D classes [(mo, .inr (6, [.int co, .int kd, .int sg, .int ex, .ref wa, .long hi, .long lo, .long lh, .long ll, .ref sa, .ref ma]))] [] sz [.ref mo, .int x, .int y]) (uQ D classes (fun u : Int32 => some (.int u)) (fun u => u = (sl m_M_field) x y lh ll) (va_A [(mo, .inr (6, [.int co, .int kd, .int sg, .int ex, .ref wa, .long hi, .long lo, .long lh, .long ll, .ref sa, .ref ma]))] sz) (fun _ => []) (fun u => [(mo, .inr (6, [.int co, .int kd, .int sg, .int ex, .ref wa, .long hi, .long lo, .long lh, .long ll, .ref sa, .ref ma]))])) 0 0 (va_A [(mo, .inr (6, [.int co, .int kd, .int sg, .int ex, .ref wa, .long hi, .long lo, .long lh, .long ll, .ref sa, .ref ma]))] sz) := by
  rw [sl_eq m_M_field]
  refine uBegin (by decide +kernel) (Nat.le_of_ble_eq_true rfl) ?_
  intro p e s m below meth c A ls H locs hx hb hr hts hown hlocks hml hin hA hP hK hD hN hS hl
  have hl : lv_has ls 5 [(0, .ref mo), (1, .int x), (2, .int y)] := hl
  unfold mok_M_field at hk
  refine lv_iconst (v := 0) hx hb d_PatternBookModel_field_0 (by decide) ?_
  refine lv_istore_n (lv' := [(3, .int (0:Int32)), (0, .ref mo), (1, .int x), (2, .int y)]) hx hb d_PatternBookModel_field_1 rfl hl (by decide) rfl (fun ls hl => ?_)
  refine lv_iload_n hx hb d_PatternBookModel_field_2 rfl (lv_at hl 3 rfl) ?_
  refine lv_iconst (v := 1) hx hb d_PatternBookModel_field_3 (by decide) ?_
  refine lv_isub hx hb d_PatternBookModel_field_4 ?_
  refine lv_istore (lv' := [(4, .int (y - (1:Int32))), (3, .int (0:Int32)), (0, .ref mo), (1, .int x), (2, .int y)]) hx hb d_PatternBookModel_field_5 hl (by decide) rfl (fun ls hl => ?_)
  exact lp_M_field l D mo wa sa ma x y co kd sg ex hi lo lh ll hx hb hr hts hown hlocks hml hA hN 200 (y - (1:Int32)) (0:Int32) _ _ _ hk (by  exact (rfl).symm) hK hP hD hS hl
set_option maxHeartbeats 4000000 in
set_option maxRecDepth 100000 in
/-- the loop of PatternBookModel.take -/
theorem lp_M_take (l : Launch) (D : va_G) (mo : Nat) (wa : Nat) (sa : Nat) (ma : Nat) (cW : ClassId) (x : Int32) (y : Int32) (co : Int32) (kd : Int32) (sg : Int32) (ex : Int32) (hi : Int64) (lo : Int64) (lh : Int64) (ll : Int64) (w : Nat → Int64) {p : Program} {e : Env} {s : State} {m : MethodId} {below : List Frame} {meth : Method} {c : Code} {A : Nat → Prop} {args : Array Value} {F : (Nat → Int64)} (hx : p.tables.exec = Jvm.exec) (hb : c.code = b_PatternBookModel_take) (hr : meth.sig.returnType = none) (hts : ∀ w ∈ wt, w.before args s = true) (hown : s.vm.findClass R_PatternBookModel = some m.cls) (hlocks : meth.locks = false) (hml : c.maxLocals = 4) (hA : ∀ q : Nat, s.heap.size ≤ q → A q) (hN : uN s) : ∀ (n : Nat) (x3 : Int32) (y1_a : (Nat → Int64)) (H : Heap) (locs : List Loc) (ls : Array Slot), mlk_M_take n x3 → mlf_M_take n x lh ll x3 y1_a = F → va_K D classes [(cW, .long)] s → va_P D classes [(mo, .inr (6, [.int co, .int kd, .int sg, .int ex, .ref wa, .long hi, .long lo, .long lh, .long ll, .ref sa, .ref ma])), (wa, .inl (cW, 12, .inr (.inl y1_a)))] H → va_D A [(mo, .inr (6, [.int co, .int kd, .int sg, .int ex, .ref wa, .long hi, .long lo, .long lh, .long ll, .ref sa, .ref ma])), (wa, .inl (cW, 12, .inr (.inl y1_a)))] → va_S A s.heap H locs → lv_has ls 4 [(3, .int x3), (0, .ref mo), (1, .int x), (2, .int y)] → W p l e (headSpec (wsOf y_PatternBookModel_take b_PatternBookModel_take 4 none) ({ frames := 1, cells := 0, slots := 0, locals := 28 })).room s m args below meth c H locs (0) (0) (MQ below (uQ D classes (fun _ : (Nat → Int64) => none) (fun u => u = F) A (fun _ => [(cW, .long)]) (fun u => [(mo, .inr (6, [.int co, .int kd, .int sg, .int ex, .ref wa, .long hi, .long lo, .long lh, .long ll, .ref sa, .ref ma])), (wa, .inl (cW, 12, .inr (.inl u)))])) args s 0 0 A) (F0 m 10 ls []) := by
  intro n
  induction n with
  | zero => intro x3 y1_a H locs ls hk; exact (show False from hk).elim
  | succ n ih =>
    intro x3 y1_a H locs ls hk hF hK hP hD hS hl
    unfold mlk_M_take at hk
    refine lv_iload_n hx hb d_PatternBookModel_take_10 rfl (lv_at hl 0 rfl) ?_
    refine lv_if_lt (tgt := 33) hx hb d_PatternBookModel_take_11 (by decide) (fun c_2 => ?_) (fun c_2 => ?_)
    · refine W.vret hx hb hr ?_ hS.2.2 d_PatternBookModel_take_33
      exact uEnd y1_a (hP.sub [0, 1] rfl) (hK.sub [0] rfl) (hD.sub [0, 1] (by decide) rfl) hS (by  exact (show mlf_M_take (n + 1) x lh ll x3 y1_a = _ from (if_pos c_2).trans (rfl)).symm.trans hF) rfl
    · have hk := hk.2 c_2
      refine lv_aload_n hx hb d_PatternBookModel_take_14 rfl (lv_at hl 1 rfl) ?_
      refine lv_iconst (v := 0) hx hb d_PatternBookModel_take_15 (by decide) ?_
      refine lv_iconst (v := 2) hx hb d_PatternBookModel_take_16 (by decide) ?_
      refine lv_aload_n hx hb d_PatternBookModel_take_17 rfl (lv_at hl 1 rfl) ?_
      refine lv_iload_n hx hb d_PatternBookModel_take_18 rfl (lv_at hl 2 rfl) ?_
      refine lv_iload_n hx hb d_PatternBookModel_take_19 rfl (lv_at hl 0 rfl) ?_
      refine lv_iadd hx hb d_PatternBookModel_take_20 ?_
      refine uCall (WR := [(wa, .inl (cW, 12, .inr (.inl y1_a)))]) (RT := [(cW, .long)]) (va_runV (As := [.int (x + x3)]) (rest := [.int (2:Int32), .int (0:Int32), .ref mo]) ⟨hx, hb, hml, hown, hts⟩ (c_M_bit l D mo wa sa ma H.size (x + x3) co kd sg ex hi lo lh ll) ⟨uCB 1 hts k_275 k_257 k_276 (by decide +kernel) rfl rfl ⟨Nat.le_of_ble_eq_true rfl, Nat.le_of_ble_eq_true rfl⟩, hts _ k_277, hts _ k_278⟩ (uPreV (ci := 6) (q0 := 0) hK hP hD hN [0] rfl (by decide) [] rfl rfl rfl) rfl rfl hl.1 rfl (lv_room (Nat.le_of_ble_eq_true rfl)) d_PatternBookModel_take_21 ⟨(Nat.le_of_ble_eq_true rfl), (Nat.le_of_ble_eq_true rfl)⟩) hK hP hD hS hA [0] [1] rfl rfl (by decide) (by decide) [0] rfl (fun u3 H locs hu3 hP hD hK hS => ?_)
      have hP : va_P D classes [(wa, .inl (cW, 12, .inr (.inl y1_a))), (mo, .inr (6, [.int co, .int kd, .int sg, .int ex, .ref wa, .long hi, .long lo, .long lh, .long ll, .ref sa, .ref ma]))] H := hP
      have hD : va_D A [(wa, .inl (cW, 12, .inr (.inl y1_a))), (mo, .inr (6, [.int co, .int kd, .int sg, .int ex, .ref wa, .long hi, .long lo, .long lh, .long ll, .ref sa, .ref ma]))] := hD
      have hK : va_K D classes [(cW, .long)] s := hK
      refine W.eq (g2 := F0 m 24 ls [.int u3, .int (2:Int32), .int (0:Int32), .ref mo]) rfl ?_
      refine uCall (WR := []) (RT := []) (va_runV (As := [.int (0:Int32), .int (2:Int32), .int u3]) (rest := []) ⟨hx, hb, hml, hown, hts⟩ (c_M_times0 l D mo wa sa ma cW H.size (2:Int32) u3 co kd sg ex hi lo lh ll y1_a) ⟨uCB 3 hts k_269 k_257 k_270 (by decide +kernel) rfl rfl ⟨Nat.le_of_ble_eq_true rfl, Nat.le_of_ble_eq_true rfl⟩, hts _ k_271, hts _ k_272⟩ (uPreV (ci := 6) (q0 := 1) hK hP hD hN [1, 0] rfl (by decide) [0] rfl rfl rfl) rfl rfl hl.1 rfl (lv_room (Nat.le_of_ble_eq_true rfl)) d_PatternBookModel_take_24 ⟨(Nat.le_of_ble_eq_true rfl), (Nat.le_of_ble_eq_true rfl)⟩) hK hP hD hS hA [1, 0] [] rfl rfl (by decide) (by decide) [] rfl (fun u4 H locs hu4 hP hD hK hS => ?_)
      have hP : va_P D classes [(mo, .inr (6, [.int co, .int kd, .int sg, .int ex, .ref wa, .long hi, .long lo, .long lh, .long ll, .ref sa, .ref ma])), (wa, .inl (cW, 12, .inr (.inl u4)))] H := hP
      have hD : va_D A [(mo, .inr (6, [.int co, .int kd, .int sg, .int ex, .ref wa, .long hi, .long lo, .long lh, .long ll, .ref sa, .ref ma])), (wa, .inl (cW, 12, .inr (.inl u4)))] := hD
      have hK : va_K D classes [(cW, .long)] s := hK
      refine W.eq (g2 := F0 m 27 ls []) rfl ?_
      refine lv_iinc (v := (x3 + (-1:Int32))) (lv' := [(3, .int (x3 + (-1:Int32))), (0, .ref mo), (1, .int x), (2, .int y)]) hx hb d_PatternBookModel_take_27 hl (k := 0) rfl rfl (by decide) rfl (fun ls hl => ?_)
      refine lv_goto (tgt := 10) hx hb d_PatternBookModel_take_30 (by decide) ?_
      exact ih (x3 + (-1:Int32)) u4 _ _ _ hk (by have eu3 := hu3.symm; subst eu3; have eu4 := hu4.symm; subst eu4; exact (show mlf_M_take (n + 1) x lh ll x3 y1_a = _ from (if_neg c_2).trans (rfl)).symm.trans hF) (hK.sub [0] rfl) (hP.sub [0, 1] rfl) (hD.sub [0, 1] (by decide) rfl) hS (lv_sub hl [0, 1, 2, 3] rfl)
set_option maxHeartbeats 4000000 in
set_option maxRecDepth 100000 in
/-- PatternBookModel.take(II)V -/
theorem c_M_take (l : Launch) (D : va_G) (mo : Nat) (wa : Nat) (sa : Nat) (ma : Nat) (cW : ClassId) (sz : Nat) (x : Int32) (y : Int32) (co : Int32) (kd : Int32) (sg : Int32) (ex : Int32) (hi : Int64) (lo : Int64) (lh : Int64) (ll : Int64) (w : Nat → Int64) (hk : mok_M_take y) : Met l y_PatternBookModel_take (wsOf y_PatternBookModel_take b_PatternBookModel_take 4 none) ({ frames := 1, cells := 0, slots := 0, locals := 28 }) (uP D classes [(mo, .inr (6, [.int co, .int kd, .int sg, .int ex, .ref wa, .long hi, .long lo, .long lh, .long ll, .ref sa, .ref ma])), (wa, .inl (cW, 12, .inr (.inl w)))] [(cW, .long)] sz [.ref mo, .int x, .int y]) (uQ D classes (fun _ : (Nat → Int64) => none) (fun u => u = (sl m_M_take) x y lh ll w) (va_A [(mo, .inr (6, [.int co, .int kd, .int sg, .int ex, .ref wa, .long hi, .long lo, .long lh, .long ll, .ref sa, .ref ma])), (wa, .inl (cW, 12, .inr (.inl w)))] sz) (fun _ => [(cW, .long)]) (fun u => [(mo, .inr (6, [.int co, .int kd, .int sg, .int ex, .ref wa, .long hi, .long lo, .long lh, .long ll, .ref sa, .ref ma])), (wa, .inl (cW, 12, .inr (.inl u)))])) 0 0 (va_A [(mo, .inr (6, [.int co, .int kd, .int sg, .int ex, .ref wa, .long hi, .long lo, .long lh, .long ll, .ref sa, .ref ma])), (wa, .inl (cW, 12, .inr (.inl w)))] sz) := by
  rw [sl_eq m_M_take]
  refine uBegin (by decide +kernel) (Nat.le_of_ble_eq_true rfl) ?_
  intro p e s m below meth c A ls H locs hx hb hr hts hown hlocks hml hin hA hP hK hD hN hS hl
  have hl : lv_has ls 4 [(0, .ref mo), (1, .int x), (2, .int y)] := hl
  unfold mok_M_take at hk
  refine lv_aload_n hx hb d_PatternBookModel_take_0 rfl (lv_at hl 0 rfl) ?_
  refine lv_iconst (v := 0) hx hb d_PatternBookModel_take_1 (by decide) ?_
  refine lv_lconst (v := 0) hx hb d_PatternBookModel_take_2 (by decide) ?_
  refine uCall (WR := []) (RT := []) (va_runV (As := [.int (0:Int32), .long (0:Int64)]) (rest := []) ⟨hx, hb, hml, hown, hts⟩ (c_M_be0 l D mo wa sa ma cW H.size (0:Int64) co kd sg ex hi lo lh ll w) ⟨uCB 2 hts k_265 k_257 k_266 (by decide +kernel) rfl rfl ⟨Nat.le_of_ble_eq_true rfl, Nat.le_of_ble_eq_true rfl⟩, hts _ k_267, hts _ k_268⟩ (uPreV (ci := 6) (q0 := 0) hK hP hD hN [0, 1] rfl (by decide) [0] rfl rfl rfl) rfl rfl hl.1 rfl (lv_room (Nat.le_of_ble_eq_true rfl)) d_PatternBookModel_take_3 ⟨(Nat.le_of_ble_eq_true rfl), (Nat.le_of_ble_eq_true rfl)⟩) hK hP hD hS hA [0, 1] [] rfl rfl (by decide) (by decide) [] rfl (fun u1 H locs hu1 hP hD hK hS => ?_)
  have hP : va_P D classes [(mo, .inr (6, [.int co, .int kd, .int sg, .int ex, .ref wa, .long hi, .long lo, .long lh, .long ll, .ref sa, .ref ma])), (wa, .inl (cW, 12, .inr (.inl u1)))] H := hP
  have hD : va_D A [(mo, .inr (6, [.int co, .int kd, .int sg, .int ex, .ref wa, .long hi, .long lo, .long lh, .long ll, .ref sa, .ref ma])), (wa, .inl (cW, 12, .inr (.inl u1)))] := hD
  have hK : va_K D classes [(cW, .long)] s := hK
  refine W.eq (g2 := F0 m 6 ls []) rfl ?_
  refine lv_iload_n hx hb d_PatternBookModel_take_6 rfl (lv_at hl 2 rfl) ?_
  refine lv_iconst (v := 1) hx hb d_PatternBookModel_take_7 (by decide) ?_
  refine lv_isub hx hb d_PatternBookModel_take_8 ?_
  refine lv_istore_n (lv' := [(3, .int (y - (1:Int32))), (0, .ref mo), (1, .int x), (2, .int y)]) hx hb d_PatternBookModel_take_9 rfl hl (by decide) rfl (fun ls hl => ?_)
  exact lp_M_take l D mo wa sa ma cW x y co kd sg ex hi lo lh ll w hx hb hr hts hown hlocks hml hA hN 200 (y - (1:Int32)) u1 _ _ _ hk (by have eu1 := hu1.symm; subst eu1; exact (rfl).symm) hK hP hD hS hl
set_option maxHeartbeats 4000000 in
set_option maxRecDepth 100000 in
/-- PatternBookModel.set(II)V -/
theorem c_M_set (l : Launch) (D : va_G) (mo : Nat) (wa : Nat) (sa : Nat) (ma : Nat) (sz : Nat) (x : Int32) (y : Int32) (co : Int32) (kd : Int32) (sg : Int32) (ex : Int32) (hi : Int64) (lo : Int64) (lh : Int64) (ll : Int64) : Met l y_PatternBookModel_set (wsOf y_PatternBookModel_set b_PatternBookModel_set 3 none) ({ frames := 0, cells := 0, slots := 0, locals := 0 }) (uP D classes [(mo, .inr (6, [.int co, .int kd, .int sg, .int ex, .ref wa, .long hi, .long lo, .long lh, .long ll, .ref sa, .ref ma]))] [] sz [.ref mo, .int x, .int y]) (uQ D classes (fun _ : Int64 × Int64 => none) (fun u => u = (sl m_M_set) x y lh ll) (va_A [(mo, .inr (6, [.int co, .int kd, .int sg, .int ex, .ref wa, .long hi, .long lo, .long lh, .long ll, .ref sa, .ref ma]))] sz) (fun _ => []) (fun u => [(mo, .inr (6, [.int co, .int kd, .int sg, .int ex, .ref wa, .long hi, .long lo, .long u.1, .long u.2, .ref sa, .ref ma]))])) 0 0 (va_A [(mo, .inr (6, [.int co, .int kd, .int sg, .int ex, .ref wa, .long hi, .long lo, .long lh, .long ll, .ref sa, .ref ma]))] sz) := by
  rw [sl_eq m_M_set]
  refine uBegin (by decide +kernel) (Nat.le_of_ble_eq_true rfl) ?_
  intro p e s m below meth c A ls H locs hx hb hr hts hown hlocks hml hin hA hP hK hD hN hS hl
  have hl : lv_has ls 3 [(0, .ref mo), (1, .int x), (2, .int y)] := hl
  refine lv_iload_n hx hb d_PatternBookModel_set_0 rfl (lv_at hl 1 rfl) ?_
  refine lv_bipush (v := 64) hx hb d_PatternBookModel_set_1 (by decide) ?_
  refine lv_icmp_ge (tgt := 22) hx hb d_PatternBookModel_set_3 (by decide) (fun c_1 => ?_) (fun c_1 => ?_)
  · refine lv_aload_n hx hb d_PatternBookModel_set_22 rfl (lv_at hl 0 rfl) ?_
    refine lv_dup hx hb d_PatternBookModel_set_23 rfl ?_
    refine va_get (D := D) (ci := 6) (v := .long lh) (C := R_PatternBookModel) (T := F_PatternBookModel) (N := 11) hx hb hts i_PatternBookModel hown hK hP 0 rfl rfl 7 (by decide) (hts _ k_273) (fun _ h9 => h9) rfl d_PatternBookModel_set_24 ?_
    refine lv_iload_n hx hb d_PatternBookModel_set_27 rfl (lv_at hl 2 rfl) ?_
    refine lv_i2l hx hb d_PatternBookModel_set_28 rfl ?_
    refine lv_iload_n hx hb d_PatternBookModel_set_29 rfl (lv_at hl 1 rfl) ?_
    refine lv_bipush (v := 64) hx hb d_PatternBookModel_set_30 (by decide) ?_
    refine lv_isub hx hb d_PatternBookModel_set_32 ?_
    refine lv_lshl (v := lshl_ (Int32.toInt64 y) (x - (64:Int32))) hx hb d_PatternBookModel_set_33 rfl ?_
    refine lv_lor hx hb d_PatternBookModel_set_34 ?_
    refine va_put (D := D) (ci := 6) (v := .long (lh ||| (lshl_ (Int32.toInt64 y) (x - (64:Int32))))) (ty := .long) (C := R_PatternBookModel) (T := F_PatternBookModel) (N := 11) hx hb hts i_PatternBookModel t_PatternBookModel t_PatternBookModel_ok n_PatternBookModel hown hK hP hD hS 0 rfl rfl 7 (by decide) (hts _ k_273) (fun _ h9 => h9) rfl (by decide +kernel) rfl rfl (Nat.le_of_ble_eq_true rfl) d_PatternBookModel_set_35 (fun H locs hP hD hS => ?_)
    have hP : va_P D classes [(mo, .inr (6, [.int co, .int kd, .int sg, .int ex, .ref wa, .long hi, .long lo, .long (lh ||| (lshl_ (Int32.toInt64 y) (x - (64:Int32)))), .long ll, .ref sa, .ref ma]))] H := hP
    have hD : va_D A [(mo, .inr (6, [.int co, .int kd, .int sg, .int ex, .ref wa, .long hi, .long lo, .long (lh ||| (lshl_ (Int32.toInt64 y) (x - (64:Int32)))), .long ll, .ref sa, .ref ma]))] := hD
    refine W.vret hx hb hr ?_ hS.2.2 d_PatternBookModel_set_38
    exact uEnd ((lh ||| (lshl_ (Int32.toInt64 y) (x - (64:Int32)))), ll) (hP.sub [0] rfl) (hK.sub [] rfl) (hD.sub [0] (by decide) rfl) hS (by  exact ((if_pos c_1).trans (rfl)).symm) rfl
  · refine lv_aload_n hx hb d_PatternBookModel_set_6 rfl (lv_at hl 0 rfl) ?_
    refine lv_dup hx hb d_PatternBookModel_set_7 rfl ?_
    refine va_get (D := D) (ci := 6) (v := .long ll) (C := R_PatternBookModel) (T := F_PatternBookModel) (N := 11) hx hb hts i_PatternBookModel hown hK hP 0 rfl rfl 8 (by decide) (hts _ k_274) (fun _ h9 => h9) rfl d_PatternBookModel_set_8 ?_
    refine lv_iload_n hx hb d_PatternBookModel_set_11 rfl (lv_at hl 2 rfl) ?_
    refine lv_i2l hx hb d_PatternBookModel_set_12 rfl ?_
    refine lv_iload_n hx hb d_PatternBookModel_set_13 rfl (lv_at hl 1 rfl) ?_
    refine lv_lshl (v := lshl_ (Int32.toInt64 y) x) hx hb d_PatternBookModel_set_14 rfl ?_
    refine lv_lor hx hb d_PatternBookModel_set_15 ?_
    refine va_put (D := D) (ci := 6) (v := .long (ll ||| (lshl_ (Int32.toInt64 y) x))) (ty := .long) (C := R_PatternBookModel) (T := F_PatternBookModel) (N := 11) hx hb hts i_PatternBookModel t_PatternBookModel t_PatternBookModel_ok n_PatternBookModel hown hK hP hD hS 0 rfl rfl 8 (by decide) (hts _ k_274) (fun _ h9 => h9) rfl (by decide +kernel) rfl rfl (Nat.le_of_ble_eq_true rfl) d_PatternBookModel_set_16 (fun H locs hP hD hS => ?_)
    have hP : va_P D classes [(mo, .inr (6, [.int co, .int kd, .int sg, .int ex, .ref wa, .long hi, .long lo, .long lh, .long (ll ||| (lshl_ (Int32.toInt64 y) x)), .ref sa, .ref ma]))] H := hP
    have hD : va_D A [(mo, .inr (6, [.int co, .int kd, .int sg, .int ex, .ref wa, .long hi, .long lo, .long lh, .long (ll ||| (lshl_ (Int32.toInt64 y) x)), .ref sa, .ref ma]))] := hD
    refine lv_goto (tgt := 38) hx hb d_PatternBookModel_set_19 (by decide) ?_
    refine W.vret hx hb hr ?_ hS.2.2 d_PatternBookModel_set_38
    exact uEnd (lh, (ll ||| (lshl_ (Int32.toInt64 y) x))) (hP.sub [0] rfl) (hK.sub [] rfl) (hD.sub [0] (by decide) rfl) hS (by  exact ((if_neg c_1).trans (rfl)).symm) rfl
set_option maxHeartbeats 4000000 in
set_option maxRecDepth 100000 in
/-- the loop of PatternBookModel.lay -/
theorem lp_M_lay (l : Launch) (D : va_G) (mo : Nat) (wa : Nat) (sa : Nat) (ma : Nat) (x : Int32) (y : Int32) (z : Int32) (co : Int32) (kd : Int32) (sg : Int32) (ex : Int32) (hi : Int64) (lo : Int64) (lh : Int64) (ll : Int64) {p : Program} {e : Env} {s : State} {m : MethodId} {below : List Frame} {meth : Method} {c : Code} {A : Nat → Prop} {args : Array Value} {F : Int64 × Int64} (hx : p.tables.exec = Jvm.exec) (hb : c.code = b_PatternBookModel_lay) (hr : meth.sig.returnType = none) (hts : ∀ w ∈ wt, w.before args s = true) (hown : s.vm.findClass R_PatternBookModel = some m.cls) (hlocks : meth.locks = false) (hml : c.maxLocals = 5) (hA : ∀ q : Nat, s.heap.size ≤ q → A q) (hN : uN s) : ∀ (n : Nat) (x4 : Int32) (y0_7 : Int64) (y0_8 : Int64) (H : Heap) (locs : List Loc) (ls : Array Slot), mlk_M_lay n z x4 → mlf_M_lay n x y z x4 y0_7 y0_8 = F → va_K D classes [] s → va_P D classes [(mo, .inr (6, [.int co, .int kd, .int sg, .int ex, .ref wa, .long hi, .long lo, .long y0_7, .long y0_8, .ref sa, .ref ma]))] H → va_D A [(mo, .inr (6, [.int co, .int kd, .int sg, .int ex, .ref wa, .long hi, .long lo, .long y0_7, .long y0_8, .ref sa, .ref ma]))] → va_S A s.heap H locs → lv_has ls 5 [(4, .int x4), (0, .ref mo), (1, .int x), (2, .int y), (3, .int z)] → W p l e (headSpec (wsOf y_PatternBookModel_lay b_PatternBookModel_lay 5 none) ({ frames := 1, cells := 0, slots := 0, locals := 22 })).room s m args below meth c H locs (0) (0) (MQ below (uQ D classes (fun _ : Int64 × Int64 => none) (fun u => u = F) A (fun _ => []) (fun u => [(mo, .inr (6, [.int co, .int kd, .int sg, .int ex, .ref wa, .long hi, .long lo, .long u.1, .long u.2, .ref sa, .ref ma]))])) args s 0 0 A) (F0 m 3 ls []) := by
  intro n
  induction n with
  | zero => intro x4 y0_7 y0_8 H locs ls hk; exact (show False from hk).elim
  | succ n ih =>
    intro x4 y0_7 y0_8 H locs ls hk hF hK hP hD hS hl
    unfold mlk_M_lay at hk
    refine lv_iload hx hb d_PatternBookModel_lay_3 (lv_at hl 0 rfl) ?_
    refine lv_iload_n hx hb d_PatternBookModel_lay_5 rfl (lv_at hl 4 rfl) ?_
    refine lv_icmp_ge (tgt := 29) hx hb d_PatternBookModel_lay_6 (by decide) (fun c_1 => ?_) (fun c_1 => ?_)
    · refine W.vret hx hb hr ?_ hS.2.2 d_PatternBookModel_lay_29
      exact uEnd (y0_7, y0_8) (hP.sub [0] rfl) (hK.sub [] rfl) (hD.sub [0] (by decide) rfl) hS (by  exact (show mlf_M_lay (n + 1) x y z x4 y0_7 y0_8 = _ from (if_pos c_1).trans (rfl)).symm.trans hF) rfl
    · have hk := hk.2 c_1
      refine lv_aload_n hx hb d_PatternBookModel_lay_9 rfl (lv_at hl 1 rfl) ?_
      refine lv_iload_n hx hb d_PatternBookModel_lay_10 rfl (lv_at hl 3 rfl) ?_
      refine lv_iload hx hb d_PatternBookModel_lay_11 (lv_at hl 0 rfl) ?_
      refine lv_iadd hx hb d_PatternBookModel_lay_13 ?_
      refine lv_iload_n hx hb d_PatternBookModel_lay_14 rfl (lv_at hl 2 rfl) ?_
      refine lv_iload hx hb d_PatternBookModel_lay_15 (lv_at hl 0 rfl) ?_
      refine lv_ishr hx hb d_PatternBookModel_lay_17 ?_
      refine lv_iconst (v := 1) hx hb d_PatternBookModel_lay_18 (by decide) ?_
      refine lv_iand hx hb d_PatternBookModel_lay_19 ?_
      refine uCall (WR := []) (RT := []) (va_runV (As := [.int (y + x4), .int ((x >>> (x4 &&& 31)) &&& (1:Int32))]) (rest := []) ⟨hx, hb, hml, hown, hts⟩ (c_M_set l D mo wa sa ma H.size (y + x4) ((x >>> (x4 &&& 31)) &&& (1:Int32)) co kd sg ex hi lo y0_7 y0_8) ⟨uCB 2 hts k_279 k_257 k_280 (by decide +kernel) rfl rfl ⟨Nat.le_of_ble_eq_true rfl, Nat.le_of_ble_eq_true rfl⟩, hts _ k_281, hts _ k_282⟩ (uPreV (ci := 6) (q0 := 0) hK hP hD hN [0] rfl (by decide) [] rfl rfl rfl) rfl rfl hl.1 rfl (lv_room (Nat.le_of_ble_eq_true rfl)) d_PatternBookModel_lay_20 ⟨(Nat.le_of_ble_eq_true rfl), (Nat.le_of_ble_eq_true rfl)⟩) hK hP hD hS hA [0] [] rfl rfl (by decide) (by decide) [] rfl (fun u2 H locs hu2 hP hD hK hS => ?_)
      have hP : va_P D classes [(mo, .inr (6, [.int co, .int kd, .int sg, .int ex, .ref wa, .long hi, .long lo, .long u2.1, .long u2.2, .ref sa, .ref ma]))] H := hP
      have hD : va_D A [(mo, .inr (6, [.int co, .int kd, .int sg, .int ex, .ref wa, .long hi, .long lo, .long u2.1, .long u2.2, .ref sa, .ref ma]))] := hD
      have hK : va_K D classes [] s := hK
      refine W.eq (g2 := F0 m 23 ls []) rfl ?_
      refine lv_iinc (v := (x4 + (1:Int32))) (lv' := [(4, .int (x4 + (1:Int32))), (0, .ref mo), (1, .int x), (2, .int y), (3, .int z)]) hx hb d_PatternBookModel_lay_23 hl (k := 0) rfl rfl (by decide) rfl (fun ls hl => ?_)
      refine lv_goto (tgt := 3) hx hb d_PatternBookModel_lay_26 (by decide) ?_
      exact ih (x4 + (1:Int32)) u2.1 u2.2 _ _ _ hk (by have eu2 := hu2.symm; subst eu2; exact (show mlf_M_lay (n + 1) x y z x4 y0_7 y0_8 = _ from (if_neg c_1).trans (rfl)).symm.trans hF) (hK.sub [] rfl) (hP.sub [0] rfl) (hD.sub [0] (by decide) rfl) hS (lv_sub hl [0, 1, 2, 3, 4] rfl)
set_option maxHeartbeats 4000000 in
set_option maxRecDepth 100000 in
/-- PatternBookModel.lay(III)V -/
theorem c_M_lay (l : Launch) (D : va_G) (mo : Nat) (wa : Nat) (sa : Nat) (ma : Nat) (sz : Nat) (x : Int32) (y : Int32) (z : Int32) (co : Int32) (kd : Int32) (sg : Int32) (ex : Int32) (hi : Int64) (lo : Int64) (lh : Int64) (ll : Int64) (hk : mok_M_lay z) : Met l y_PatternBookModel_lay (wsOf y_PatternBookModel_lay b_PatternBookModel_lay 5 none) ({ frames := 1, cells := 0, slots := 0, locals := 22 }) (uP D classes [(mo, .inr (6, [.int co, .int kd, .int sg, .int ex, .ref wa, .long hi, .long lo, .long lh, .long ll, .ref sa, .ref ma]))] [] sz [.ref mo, .int x, .int y, .int z]) (uQ D classes (fun _ : Int64 × Int64 => none) (fun u => u = (sl m_M_lay) x y z lh ll) (va_A [(mo, .inr (6, [.int co, .int kd, .int sg, .int ex, .ref wa, .long hi, .long lo, .long lh, .long ll, .ref sa, .ref ma]))] sz) (fun _ => []) (fun u => [(mo, .inr (6, [.int co, .int kd, .int sg, .int ex, .ref wa, .long hi, .long lo, .long u.1, .long u.2, .ref sa, .ref ma]))])) 0 0 (va_A [(mo, .inr (6, [.int co, .int kd, .int sg, .int ex, .ref wa, .long hi, .long lo, .long lh, .long ll, .ref sa, .ref ma]))] sz) := by
  rw [sl_eq m_M_lay]
  refine uBegin (by decide +kernel) (Nat.le_of_ble_eq_true rfl) ?_
  intro p e s m below meth c A ls H locs hx hb hr hts hown hlocks hml hin hA hP hK hD hN hS hl
  have hl : lv_has ls 5 [(0, .ref mo), (1, .int x), (2, .int y), (3, .int z)] := hl
  unfold mok_M_lay at hk
  refine lv_iconst (v := 0) hx hb d_PatternBookModel_lay_0 (by decide) ?_
  refine lv_istore (lv' := [(4, .int (0:Int32)), (0, .ref mo), (1, .int x), (2, .int y), (3, .int z)]) hx hb d_PatternBookModel_lay_1 hl (by decide) rfl (fun ls hl => ?_)
  exact lp_M_lay l D mo wa sa ma x y z co kd sg ex hi lo lh ll hx hb hr hts hown hlocks hml hA hN 200 (0:Int32) lh ll _ _ _ hk (by  exact (rfl).symm) hK hP hD hS hl
set_option maxHeartbeats 4000000 in
set_option maxRecDepth 100000 in
/-- the loop of PatternBookModel.layNumber -/
theorem lp_M_layNumber (l : Launch) (D : va_G) (mo : Nat) (wa : Nat) (sa : Nat) (ma : Nat) (cW : ClassId) (x : Int32) (y : Int32) (co : Int32) (kd : Int32) (sg : Int32) (ex : Int32) (hi : Int64) (lo : Int64) (lh : Int64) (ll : Int64) (w : Nat → Int64) {p : Program} {e : Env} {s : State} {m : MethodId} {below : List Frame} {meth : Method} {c : Code} {A : Nat → Prop} {args : Array Value} {F : Int64 × Int64} (hx : p.tables.exec = Jvm.exec) (hb : c.code = b_PatternBookModel_layNumber) (hr : meth.sig.returnType = none) (hts : ∀ w ∈ wt, w.before args s = true) (hown : s.vm.findClass R_PatternBookModel = some m.cls) (hlocks : meth.locks = false) (hml : c.maxLocals = 4) (hA : ∀ q : Nat, s.heap.size ≤ q → A q) (hN : uN s) : ∀ (n : Nat) (x3 : Int32) (y0_7 : Int64) (y0_8 : Int64) (H : Heap) (locs : List Loc) (ls : Array Slot), mlk_M_layNumber n y x3 → mlf_M_layNumber n x y w x3 y0_7 y0_8 = F → va_K D classes [(cW, .long)] s → va_P D classes [(mo, .inr (6, [.int co, .int kd, .int sg, .int ex, .ref wa, .long hi, .long lo, .long y0_7, .long y0_8, .ref sa, .ref ma])), (wa, .inl (cW, 12, .inr (.inl w)))] H → va_D A [(mo, .inr (6, [.int co, .int kd, .int sg, .int ex, .ref wa, .long hi, .long lo, .long y0_7, .long y0_8, .ref sa, .ref ma])), (wa, .inl (cW, 12, .inr (.inl w)))] → va_S A s.heap H locs → lv_has ls 4 [(3, .int x3), (0, .ref mo), (1, .int x), (2, .int y)] → W p l e (headSpec (wsOf y_PatternBookModel_layNumber b_PatternBookModel_layNumber 4 none) ({ frames := 1, cells := 0, slots := 0, locals := 22 })).room s m args below meth c H locs (0) (0) (MQ below (uQ D classes (fun _ : Int64 × Int64 => none) (fun u => u = F) A (fun _ => [(cW, .long)]) (fun u => [(mo, .inr (6, [.int co, .int kd, .int sg, .int ex, .ref wa, .long hi, .long lo, .long u.1, .long u.2, .ref sa, .ref ma])), (wa, .inl (cW, 12, .inr (.inl w)))])) args s 0 0 A) (F0 m 2 ls []) := by
  intro n
  induction n with
  | zero => intro x3 y0_7 y0_8 H locs ls hk; exact (show False from hk).elim
  | succ n ih =>
    intro x3 y0_7 y0_8 H locs ls hk hF hK hP hD hS hl
    unfold mlk_M_layNumber at hk
    refine lv_iload_n hx hb d_PatternBookModel_layNumber_2 rfl (lv_at hl 0 rfl) ?_
    refine lv_iload_n hx hb d_PatternBookModel_layNumber_3 rfl (lv_at hl 3 rfl) ?_
    refine lv_icmp_ge (tgt := 26) hx hb d_PatternBookModel_layNumber_4 (by decide) (fun c_1 => ?_) (fun c_1 => ?_)
    · refine W.vret hx hb hr ?_ hS.2.2 d_PatternBookModel_layNumber_26
      exact uEnd (y0_7, y0_8) (hP.sub [0, 1] rfl) (hK.sub [0] rfl) (hD.sub [0, 1] (by decide) rfl) hS (by  exact (show mlf_M_layNumber (n + 1) x y w x3 y0_7 y0_8 = _ from (if_pos c_1).trans (rfl)).symm.trans hF) rfl
    · have hk := hk.2 c_1
      refine lv_aload_n hx hb d_PatternBookModel_layNumber_7 rfl (lv_at hl 1 rfl) ?_
      refine lv_iload_n hx hb d_PatternBookModel_layNumber_8 rfl (lv_at hl 2 rfl) ?_
      refine lv_iload_n hx hb d_PatternBookModel_layNumber_9 rfl (lv_at hl 0 rfl) ?_
      refine lv_iadd hx hb d_PatternBookModel_layNumber_10 ?_
      refine lv_aload_n hx hb d_PatternBookModel_layNumber_11 rfl (lv_at hl 1 rfl) ?_
      refine lv_iconst (v := 0) hx hb d_PatternBookModel_layNumber_12 (by decide) ?_
      refine lv_iload_n hx hb d_PatternBookModel_layNumber_13 rfl (lv_at hl 0 rfl) ?_
      have ho2 := hk.1
      have hk := hk.2
      refine uCall (WR := []) (RT := []) (va_runV (As := [.int (0:Int32), .int x3]) (rest := [.int (x + x3), .ref mo]) ⟨hx, hb, hml, hown, hts⟩ (c_M_bitOf l D mo wa sa ma cW H.size x3 co kd sg ex hi lo y0_7 y0_8 w ho2) ⟨uCB 2 hts k_283 k_257 k_284 (by decide +kernel) rfl rfl ⟨Nat.le_of_ble_eq_true rfl, Nat.le_of_ble_eq_true rfl⟩, hts _ k_285, hts _ k_286⟩ (uPreV (ci := 6) (q0 := 0) hK hP hD hN [0, 1] rfl (by decide) [0] rfl rfl rfl) rfl rfl hl.1 rfl (lv_room (Nat.le_of_ble_eq_true rfl)) d_PatternBookModel_layNumber_14 ⟨(Nat.le_of_ble_eq_true rfl), (Nat.le_of_ble_eq_true rfl)⟩) hK hP hD hS hA [0, 1] [] rfl rfl (by decide) (by decide) [] rfl (fun u2 H locs hu2 hP hD hK hS => ?_)
      have hP : va_P D classes [(mo, .inr (6, [.int co, .int kd, .int sg, .int ex, .ref wa, .long hi, .long lo, .long y0_7, .long y0_8, .ref sa, .ref ma])), (wa, .inl (cW, 12, .inr (.inl w)))] H := hP
      have hD : va_D A [(mo, .inr (6, [.int co, .int kd, .int sg, .int ex, .ref wa, .long hi, .long lo, .long y0_7, .long y0_8, .ref sa, .ref ma])), (wa, .inl (cW, 12, .inr (.inl w)))] := hD
      have hK : va_K D classes [(cW, .long)] s := hK
      refine W.eq (g2 := F0 m 17 ls [.int u2, .int (x + x3), .ref mo]) rfl ?_
      refine uCall (WR := [(wa, .inl (cW, 12, .inr (.inl w)))]) (RT := [(cW, .long)]) (va_runV (As := [.int (x + x3), .int u2]) (rest := []) ⟨hx, hb, hml, hown, hts⟩ (c_M_set l D mo wa sa ma H.size (x + x3) u2 co kd sg ex hi lo y0_7 y0_8) ⟨uCB 2 hts k_279 k_257 k_280 (by decide +kernel) rfl rfl ⟨Nat.le_of_ble_eq_true rfl, Nat.le_of_ble_eq_true rfl⟩, hts _ k_281, hts _ k_282⟩ (uPreV (ci := 6) (q0 := 0) hK hP hD hN [0] rfl (by decide) [] rfl rfl rfl) rfl rfl hl.1 rfl (lv_room (Nat.le_of_ble_eq_true rfl)) d_PatternBookModel_layNumber_17 ⟨(Nat.le_of_ble_eq_true rfl), (Nat.le_of_ble_eq_true rfl)⟩) hK hP hD hS hA [0] [1] rfl rfl (by decide) (by decide) [0] rfl (fun u3 H locs hu3 hP hD hK hS => ?_)
      have hP : va_P D classes [(wa, .inl (cW, 12, .inr (.inl w))), (mo, .inr (6, [.int co, .int kd, .int sg, .int ex, .ref wa, .long hi, .long lo, .long u3.1, .long u3.2, .ref sa, .ref ma]))] H := hP
      have hD : va_D A [(wa, .inl (cW, 12, .inr (.inl w))), (mo, .inr (6, [.int co, .int kd, .int sg, .int ex, .ref wa, .long hi, .long lo, .long u3.1, .long u3.2, .ref sa, .ref ma]))] := hD
      have hK : va_K D classes [(cW, .long)] s := hK
      refine W.eq (g2 := F0 m 20 ls []) rfl ?_
      refine lv_iinc (v := (x3 + (1:Int32))) (lv' := [(3, .int (x3 + (1:Int32))), (0, .ref mo), (1, .int x), (2, .int y)]) hx hb d_PatternBookModel_layNumber_20 hl (k := 0) rfl rfl (by decide) rfl (fun ls hl => ?_)
      refine lv_goto (tgt := 2) hx hb d_PatternBookModel_layNumber_23 (by decide) ?_
      exact ih (x3 + (1:Int32)) u3.1 u3.2 _ _ _ hk (by have eu2 := hu2.symm; subst eu2; have eu3 := hu3.symm; subst eu3; exact (show mlf_M_layNumber (n + 1) x y w x3 y0_7 y0_8 = _ from (if_neg c_1).trans (rfl)).symm.trans hF) (hK.sub [0] rfl) (hP.sub [1, 0] rfl) (hD.sub [1, 0] (by decide) rfl) hS (lv_sub hl [0, 1, 2, 3] rfl)
set_option maxHeartbeats 4000000 in
set_option maxRecDepth 100000 in
/-- PatternBookModel.layNumber(II)V -/
theorem c_M_layNumber (l : Launch) (D : va_G) (mo : Nat) (wa : Nat) (sa : Nat) (ma : Nat) (cW : ClassId) (sz : Nat) (x : Int32) (y : Int32) (co : Int32) (kd : Int32) (sg : Int32) (ex : Int32) (hi : Int64) (lo : Int64) (lh : Int64) (ll : Int64) (w : Nat → Int64) (hk : mok_M_layNumber y) : Met l y_PatternBookModel_layNumber (wsOf y_PatternBookModel_layNumber b_PatternBookModel_layNumber 4 none) ({ frames := 1, cells := 0, slots := 0, locals := 22 }) (uP D classes [(mo, .inr (6, [.int co, .int kd, .int sg, .int ex, .ref wa, .long hi, .long lo, .long lh, .long ll, .ref sa, .ref ma])), (wa, .inl (cW, 12, .inr (.inl w)))] [(cW, .long)] sz [.ref mo, .int x, .int y]) (uQ D classes (fun _ : Int64 × Int64 => none) (fun u => u = (sl m_M_layNumber) x y lh ll w) (va_A [(mo, .inr (6, [.int co, .int kd, .int sg, .int ex, .ref wa, .long hi, .long lo, .long lh, .long ll, .ref sa, .ref ma])), (wa, .inl (cW, 12, .inr (.inl w)))] sz) (fun _ => [(cW, .long)]) (fun u => [(mo, .inr (6, [.int co, .int kd, .int sg, .int ex, .ref wa, .long hi, .long lo, .long u.1, .long u.2, .ref sa, .ref ma])), (wa, .inl (cW, 12, .inr (.inl w)))])) 0 0 (va_A [(mo, .inr (6, [.int co, .int kd, .int sg, .int ex, .ref wa, .long hi, .long lo, .long lh, .long ll, .ref sa, .ref ma])), (wa, .inl (cW, 12, .inr (.inl w)))] sz) := by
  rw [sl_eq m_M_layNumber]
  refine uBegin (by decide +kernel) (Nat.le_of_ble_eq_true rfl) ?_
  intro p e s m below meth c A ls H locs hx hb hr hts hown hlocks hml hin hA hP hK hD hN hS hl
  have hl : lv_has ls 4 [(0, .ref mo), (1, .int x), (2, .int y)] := hl
  unfold mok_M_layNumber at hk
  refine lv_iconst (v := 0) hx hb d_PatternBookModel_layNumber_0 (by decide) ?_
  refine lv_istore_n (lv' := [(3, .int (0:Int32)), (0, .ref mo), (1, .int x), (2, .int y)]) hx hb d_PatternBookModel_layNumber_1 rfl hl (by decide) rfl (fun ls hl => ?_)
  exact lp_M_layNumber l D mo wa sa ma cW x y co kd sg ex hi lo lh ll w hx hb hr hts hown hlocks hml hA hN 200 (0:Int32) lh ll _ _ _ hk (by  exact (rfl).symm) hK hP hD hS hl
