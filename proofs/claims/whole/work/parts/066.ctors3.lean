set_option maxHeartbeats 4000000 in
set_option maxRecDepth 100000 in
/-- PatternBookModel.bitsOf(I)[I -/
theorem c_C_M_bitsOf (l : Launch) (D : va_G)  (sz : Nat) (x : Int32) : Met l y_PatternBookModel_bitsOf (wsOf y_PatternBookModel_bitsOf b_PatternBookModel_bitsOf 3 (some (.array .int))) ({ frames := 0, cells := 1, slots := 10, locals := 0 }) (uP D classes [] [] sz [.int x]) (uQ D classes (fun u : ((Nat → Int32)) × Nat × ClassId => some (.ref u.2.1)) (fun u => u.1 = (sl m_C_M_bitsOf) x) (va_A [] sz) (fun u => [(u.2.2, .int)]) (fun u => [(u.2.1, .inl (u.2.2, 10, .inl u.1))])) 1 10 (va_A [] sz) := by
  rw [sl_eq m_C_M_bitsOf]
  refine uBegin (by decide +kernel) (Nat.le_of_ble_eq_true rfl) ?_
  intro p e s m below meth c A ls H locs hx hb hr hts hown hlocks hml hin hA hP hK hD hN hS hl
  have hl : lv_has ls 3 [(0, .int x)] := hl
  refine lv_bipush (v := 10) hx hb d_PatternBookModel_bitsOf_0 (by decide) ?_
  refine va_newa (atype := .int) (ty := .int) (N' := 10) (a0 := (10, .inl (fun _ => 0))) hx hb (hts _ k_470) rfl hK hP hD hS hA (fun _ => rfl) (by decide) rfl (by decide) (Nat.le_of_ble_eq_true rfl) (Nat.le_of_ble_eq_true rfl) d_PatternBookModel_bitsOf_2 (fun q_1 cA2 H hK hP hD hS => ?_)
  have hP : va_P D classes [(q_1, .inl (cA2, 10, .inl (fun _ => 0)))] H := hP
  have hD : va_D A [(q_1, .inl (cA2, 10, .inl (fun _ => 0)))] := hD
  have hK : va_K D classes [(cA2, .int)] s := hK
  refine W.widen (k := 1) (n := 10) (Nat.le_of_ble_eq_true rfl) (Nat.le_of_ble_eq_true rfl) ?_
  refine lv_astore_n (lv' := [(1, .ref q_1), (0, .int x)]) hx hb d_PatternBookModel_bitsOf_4 rfl hl (by decide) rfl (fun ls hl => ?_)
  refine lv_iconst (v := 0) hx hb d_PatternBookModel_bitsOf_5 (by decide) ?_
  refine lv_istore_n (lv' := [(2, .int (0:Int32)), (1, .ref q_1), (0, .int x)]) hx hb d_PatternBookModel_bitsOf_6 rfl hl (by decide) rfl (fun ls hl => ?_)
  refine lv_iload_n hx hb d_PatternBookModel_bitsOf_7 rfl (lv_at hl 0 rfl) ?_
  refine lv_bipush (v := 10) hx hb d_PatternBookModel_bitsOf_8 (by decide) ?_
  refine lv_icmp_ge (tgt := 27) hx hb d_PatternBookModel_bitsOf_10 (by decide) (fun c_3 => ?_) (fun c_3 => ?_)
  · exact absurd c_3 (by decide)
  · refine lv_aload_n hx hb d_PatternBookModel_bitsOf_13 rfl (lv_at hl 1 rfl) ?_
    refine lv_iload_n hx hb d_PatternBookModel_bitsOf_14 rfl (lv_at hl 0 rfl) ?_
    refine lv_iload_n hx hb d_PatternBookModel_bitsOf_15 rfl (lv_at hl 2 rfl) ?_
    refine lv_iload_n hx hb d_PatternBookModel_bitsOf_16 rfl (lv_at hl 0 rfl) ?_
    refine lv_ishr hx hb d_PatternBookModel_bitsOf_17 ?_
    refine lv_iconst (v := 1) hx hb d_PatternBookModel_bitsOf_18 (by decide) ?_
    refine lv_iand hx hb d_PatternBookModel_bitsOf_19 ?_
    refine va_iast hx hb hK hP hD hS 0 0 rfl rfl (idx_in rfl) d_PatternBookModel_bitsOf_20 (fun H locs hP hD hS => ?_)
    have hP : va_P D classes [(q_1, .inl (cA2, 10, .inl (upd (fun _ => 0) 0 ((x >>> ((0:Int32) &&& 31)) &&& (1:Int32)))))] H := hP
    have hD : va_D A [(q_1, .inl (cA2, 10, .inl (upd (fun _ => 0) 0 ((x >>> ((0:Int32) &&& 31)) &&& (1:Int32)))))] := hD
    refine lv_iinc (v := (1:Int32)) (lv' := [(2, .int (1:Int32)), (1, .ref q_1), (0, .int x)]) hx hb d_PatternBookModel_bitsOf_21 hl (k := 0) rfl rfl (by decide) rfl (fun ls hl => ?_)
    refine lv_goto (tgt := 7) hx hb d_PatternBookModel_bitsOf_24 (by decide) ?_
    refine lv_iload_n hx hb d_PatternBookModel_bitsOf_7 rfl (lv_at hl 0 rfl) ?_
    refine lv_bipush (v := 10) hx hb d_PatternBookModel_bitsOf_8 (by decide) ?_
    refine lv_icmp_ge (tgt := 27) hx hb d_PatternBookModel_bitsOf_10 (by decide) (fun c_4 => ?_) (fun c_4 => ?_)
    · exact absurd c_4 (by decide)
    · refine lv_aload_n hx hb d_PatternBookModel_bitsOf_13 rfl (lv_at hl 1 rfl) ?_
      refine lv_iload_n hx hb d_PatternBookModel_bitsOf_14 rfl (lv_at hl 0 rfl) ?_
      refine lv_iload_n hx hb d_PatternBookModel_bitsOf_15 rfl (lv_at hl 2 rfl) ?_
      refine lv_iload_n hx hb d_PatternBookModel_bitsOf_16 rfl (lv_at hl 0 rfl) ?_
      refine lv_ishr hx hb d_PatternBookModel_bitsOf_17 ?_
      refine lv_iconst (v := 1) hx hb d_PatternBookModel_bitsOf_18 (by decide) ?_
      refine lv_iand hx hb d_PatternBookModel_bitsOf_19 ?_
      refine va_iast hx hb hK hP hD hS 0 0 rfl rfl (idx_in rfl) d_PatternBookModel_bitsOf_20 (fun H locs hP hD hS => ?_)
      have hP : va_P D classes [(q_1, .inl (cA2, 10, .inl (upd (upd (fun _ => 0) 0 ((x >>> ((0:Int32) &&& 31)) &&& (1:Int32))) 1 ((x >>> ((1:Int32) &&& 31)) &&& (1:Int32)))))] H := hP
      have hD : va_D A [(q_1, .inl (cA2, 10, .inl (upd (upd (fun _ => 0) 0 ((x >>> ((0:Int32) &&& 31)) &&& (1:Int32))) 1 ((x >>> ((1:Int32) &&& 31)) &&& (1:Int32)))))] := hD
      refine lv_iinc (v := (2:Int32)) (lv' := [(2, .int (2:Int32)), (1, .ref q_1), (0, .int x)]) hx hb d_PatternBookModel_bitsOf_21 hl (k := 0) rfl rfl (by decide) rfl (fun ls hl => ?_)
      refine lv_goto (tgt := 7) hx hb d_PatternBookModel_bitsOf_24 (by decide) ?_
      refine lv_iload_n hx hb d_PatternBookModel_bitsOf_7 rfl (lv_at hl 0 rfl) ?_
      refine lv_bipush (v := 10) hx hb d_PatternBookModel_bitsOf_8 (by decide) ?_
      refine lv_icmp_ge (tgt := 27) hx hb d_PatternBookModel_bitsOf_10 (by decide) (fun c_5 => ?_) (fun c_5 => ?_)
      · exact absurd c_5 (by decide)
      · refine lv_aload_n hx hb d_PatternBookModel_bitsOf_13 rfl (lv_at hl 1 rfl) ?_
        refine lv_iload_n hx hb d_PatternBookModel_bitsOf_14 rfl (lv_at hl 0 rfl) ?_
        refine lv_iload_n hx hb d_PatternBookModel_bitsOf_15 rfl (lv_at hl 2 rfl) ?_
        refine lv_iload_n hx hb d_PatternBookModel_bitsOf_16 rfl (lv_at hl 0 rfl) ?_
        refine lv_ishr hx hb d_PatternBookModel_bitsOf_17 ?_
        refine lv_iconst (v := 1) hx hb d_PatternBookModel_bitsOf_18 (by decide) ?_
        refine lv_iand hx hb d_PatternBookModel_bitsOf_19 ?_
        refine va_iast hx hb hK hP hD hS 0 0 rfl rfl (idx_in rfl) d_PatternBookModel_bitsOf_20 (fun H locs hP hD hS => ?_)
        have hP : va_P D classes [(q_1, .inl (cA2, 10, .inl (upd (upd (upd (fun _ => 0) 0 ((x >>> ((0:Int32) &&& 31)) &&& (1:Int32))) 1 ((x >>> ((1:Int32) &&& 31)) &&& (1:Int32))) 2 ((x >>> ((2:Int32) &&& 31)) &&& (1:Int32)))))] H := hP
        have hD : va_D A [(q_1, .inl (cA2, 10, .inl (upd (upd (upd (fun _ => 0) 0 ((x >>> ((0:Int32) &&& 31)) &&& (1:Int32))) 1 ((x >>> ((1:Int32) &&& 31)) &&& (1:Int32))) 2 ((x >>> ((2:Int32) &&& 31)) &&& (1:Int32)))))] := hD
        refine lv_iinc (v := (3:Int32)) (lv' := [(2, .int (3:Int32)), (1, .ref q_1), (0, .int x)]) hx hb d_PatternBookModel_bitsOf_21 hl (k := 0) rfl rfl (by decide) rfl (fun ls hl => ?_)
        refine lv_goto (tgt := 7) hx hb d_PatternBookModel_bitsOf_24 (by decide) ?_
        refine lv_iload_n hx hb d_PatternBookModel_bitsOf_7 rfl (lv_at hl 0 rfl) ?_
        refine lv_bipush (v := 10) hx hb d_PatternBookModel_bitsOf_8 (by decide) ?_
        refine lv_icmp_ge (tgt := 27) hx hb d_PatternBookModel_bitsOf_10 (by decide) (fun c_6 => ?_) (fun c_6 => ?_)
        · exact absurd c_6 (by decide)
        · refine lv_aload_n hx hb d_PatternBookModel_bitsOf_13 rfl (lv_at hl 1 rfl) ?_
          refine lv_iload_n hx hb d_PatternBookModel_bitsOf_14 rfl (lv_at hl 0 rfl) ?_
          refine lv_iload_n hx hb d_PatternBookModel_bitsOf_15 rfl (lv_at hl 2 rfl) ?_
          refine lv_iload_n hx hb d_PatternBookModel_bitsOf_16 rfl (lv_at hl 0 rfl) ?_
          refine lv_ishr hx hb d_PatternBookModel_bitsOf_17 ?_
          refine lv_iconst (v := 1) hx hb d_PatternBookModel_bitsOf_18 (by decide) ?_
          refine lv_iand hx hb d_PatternBookModel_bitsOf_19 ?_
          refine va_iast hx hb hK hP hD hS 0 0 rfl rfl (idx_in rfl) d_PatternBookModel_bitsOf_20 (fun H locs hP hD hS => ?_)
          have hP : va_P D classes [(q_1, .inl (cA2, 10, .inl (upd (upd (upd (upd (fun _ => 0) 0 ((x >>> ((0:Int32) &&& 31)) &&& (1:Int32))) 1 ((x >>> ((1:Int32) &&& 31)) &&& (1:Int32))) 2 ((x >>> ((2:Int32) &&& 31)) &&& (1:Int32))) 3 ((x >>> ((3:Int32) &&& 31)) &&& (1:Int32)))))] H := hP
          have hD : va_D A [(q_1, .inl (cA2, 10, .inl (upd (upd (upd (upd (fun _ => 0) 0 ((x >>> ((0:Int32) &&& 31)) &&& (1:Int32))) 1 ((x >>> ((1:Int32) &&& 31)) &&& (1:Int32))) 2 ((x >>> ((2:Int32) &&& 31)) &&& (1:Int32))) 3 ((x >>> ((3:Int32) &&& 31)) &&& (1:Int32)))))] := hD
          refine lv_iinc (v := (4:Int32)) (lv' := [(2, .int (4:Int32)), (1, .ref q_1), (0, .int x)]) hx hb d_PatternBookModel_bitsOf_21 hl (k := 0) rfl rfl (by decide) rfl (fun ls hl => ?_)
          refine lv_goto (tgt := 7) hx hb d_PatternBookModel_bitsOf_24 (by decide) ?_
          refine lv_iload_n hx hb d_PatternBookModel_bitsOf_7 rfl (lv_at hl 0 rfl) ?_
          refine lv_bipush (v := 10) hx hb d_PatternBookModel_bitsOf_8 (by decide) ?_
          refine lv_icmp_ge (tgt := 27) hx hb d_PatternBookModel_bitsOf_10 (by decide) (fun c_7 => ?_) (fun c_7 => ?_)
          · exact absurd c_7 (by decide)
          · refine lv_aload_n hx hb d_PatternBookModel_bitsOf_13 rfl (lv_at hl 1 rfl) ?_
            refine lv_iload_n hx hb d_PatternBookModel_bitsOf_14 rfl (lv_at hl 0 rfl) ?_
            refine lv_iload_n hx hb d_PatternBookModel_bitsOf_15 rfl (lv_at hl 2 rfl) ?_
            refine lv_iload_n hx hb d_PatternBookModel_bitsOf_16 rfl (lv_at hl 0 rfl) ?_
            refine lv_ishr hx hb d_PatternBookModel_bitsOf_17 ?_
            refine lv_iconst (v := 1) hx hb d_PatternBookModel_bitsOf_18 (by decide) ?_
            refine lv_iand hx hb d_PatternBookModel_bitsOf_19 ?_
            refine va_iast hx hb hK hP hD hS 0 0 rfl rfl (idx_in rfl) d_PatternBookModel_bitsOf_20 (fun H locs hP hD hS => ?_)
            have hP : va_P D classes [(q_1, .inl (cA2, 10, .inl (upd (upd (upd (upd (upd (fun _ => 0) 0 ((x >>> ((0:Int32) &&& 31)) &&& (1:Int32))) 1 ((x >>> ((1:Int32) &&& 31)) &&& (1:Int32))) 2 ((x >>> ((2:Int32) &&& 31)) &&& (1:Int32))) 3 ((x >>> ((3:Int32) &&& 31)) &&& (1:Int32))) 4 ((x >>> ((4:Int32) &&& 31)) &&& (1:Int32)))))] H := hP
            have hD : va_D A [(q_1, .inl (cA2, 10, .inl (upd (upd (upd (upd (upd (fun _ => 0) 0 ((x >>> ((0:Int32) &&& 31)) &&& (1:Int32))) 1 ((x >>> ((1:Int32) &&& 31)) &&& (1:Int32))) 2 ((x >>> ((2:Int32) &&& 31)) &&& (1:Int32))) 3 ((x >>> ((3:Int32) &&& 31)) &&& (1:Int32))) 4 ((x >>> ((4:Int32) &&& 31)) &&& (1:Int32)))))] := hD
            refine lv_iinc (v := (5:Int32)) (lv' := [(2, .int (5:Int32)), (1, .ref q_1), (0, .int x)]) hx hb d_PatternBookModel_bitsOf_21 hl (k := 0) rfl rfl (by decide) rfl (fun ls hl => ?_)
            refine lv_goto (tgt := 7) hx hb d_PatternBookModel_bitsOf_24 (by decide) ?_
            refine lv_iload_n hx hb d_PatternBookModel_bitsOf_7 rfl (lv_at hl 0 rfl) ?_
            refine lv_bipush (v := 10) hx hb d_PatternBookModel_bitsOf_8 (by decide) ?_
            refine lv_icmp_ge (tgt := 27) hx hb d_PatternBookModel_bitsOf_10 (by decide) (fun c_8 => ?_) (fun c_8 => ?_)
            · exact absurd c_8 (by decide)
            · refine lv_aload_n hx hb d_PatternBookModel_bitsOf_13 rfl (lv_at hl 1 rfl) ?_
              refine lv_iload_n hx hb d_PatternBookModel_bitsOf_14 rfl (lv_at hl 0 rfl) ?_
              refine lv_iload_n hx hb d_PatternBookModel_bitsOf_15 rfl (lv_at hl 2 rfl) ?_
              refine lv_iload_n hx hb d_PatternBookModel_bitsOf_16 rfl (lv_at hl 0 rfl) ?_
              refine lv_ishr hx hb d_PatternBookModel_bitsOf_17 ?_
              refine lv_iconst (v := 1) hx hb d_PatternBookModel_bitsOf_18 (by decide) ?_
              refine lv_iand hx hb d_PatternBookModel_bitsOf_19 ?_
              refine va_iast hx hb hK hP hD hS 0 0 rfl rfl (idx_in rfl) d_PatternBookModel_bitsOf_20 (fun H locs hP hD hS => ?_)
              have hP : va_P D classes [(q_1, .inl (cA2, 10, .inl (upd (upd (upd (upd (upd (upd (fun _ => 0) 0 ((x >>> ((0:Int32) &&& 31)) &&& (1:Int32))) 1 ((x >>> ((1:Int32) &&& 31)) &&& (1:Int32))) 2 ((x >>> ((2:Int32) &&& 31)) &&& (1:Int32))) 3 ((x >>> ((3:Int32) &&& 31)) &&& (1:Int32))) 4 ((x >>> ((4:Int32) &&& 31)) &&& (1:Int32))) 5 ((x >>> ((5:Int32) &&& 31)) &&& (1:Int32)))))] H := hP
              have hD : va_D A [(q_1, .inl (cA2, 10, .inl (upd (upd (upd (upd (upd (upd (fun _ => 0) 0 ((x >>> ((0:Int32) &&& 31)) &&& (1:Int32))) 1 ((x >>> ((1:Int32) &&& 31)) &&& (1:Int32))) 2 ((x >>> ((2:Int32) &&& 31)) &&& (1:Int32))) 3 ((x >>> ((3:Int32) &&& 31)) &&& (1:Int32))) 4 ((x >>> ((4:Int32) &&& 31)) &&& (1:Int32))) 5 ((x >>> ((5:Int32) &&& 31)) &&& (1:Int32)))))] := hD
              refine lv_iinc (v := (6:Int32)) (lv' := [(2, .int (6:Int32)), (1, .ref q_1), (0, .int x)]) hx hb d_PatternBookModel_bitsOf_21 hl (k := 0) rfl rfl (by decide) rfl (fun ls hl => ?_)
              refine lv_goto (tgt := 7) hx hb d_PatternBookModel_bitsOf_24 (by decide) ?_
              refine lv_iload_n hx hb d_PatternBookModel_bitsOf_7 rfl (lv_at hl 0 rfl) ?_
              refine lv_bipush (v := 10) hx hb d_PatternBookModel_bitsOf_8 (by decide) ?_
              refine lv_icmp_ge (tgt := 27) hx hb d_PatternBookModel_bitsOf_10 (by decide) (fun c_9 => ?_) (fun c_9 => ?_)
              · exact absurd c_9 (by decide)
              · refine lv_aload_n hx hb d_PatternBookModel_bitsOf_13 rfl (lv_at hl 1 rfl) ?_
                refine lv_iload_n hx hb d_PatternBookModel_bitsOf_14 rfl (lv_at hl 0 rfl) ?_
                refine lv_iload_n hx hb d_PatternBookModel_bitsOf_15 rfl (lv_at hl 2 rfl) ?_
                refine lv_iload_n hx hb d_PatternBookModel_bitsOf_16 rfl (lv_at hl 0 rfl) ?_
                refine lv_ishr hx hb d_PatternBookModel_bitsOf_17 ?_
                refine lv_iconst (v := 1) hx hb d_PatternBookModel_bitsOf_18 (by decide) ?_
                refine lv_iand hx hb d_PatternBookModel_bitsOf_19 ?_
                refine va_iast hx hb hK hP hD hS 0 0 rfl rfl (idx_in rfl) d_PatternBookModel_bitsOf_20 (fun H locs hP hD hS => ?_)
                have hP : va_P D classes [(q_1, .inl (cA2, 10, .inl (upd (upd (upd (upd (upd (upd (upd (fun _ => 0) 0 ((x >>> ((0:Int32) &&& 31)) &&& (1:Int32))) 1 ((x >>> ((1:Int32) &&& 31)) &&& (1:Int32))) 2 ((x >>> ((2:Int32) &&& 31)) &&& (1:Int32))) 3 ((x >>> ((3:Int32) &&& 31)) &&& (1:Int32))) 4 ((x >>> ((4:Int32) &&& 31)) &&& (1:Int32))) 5 ((x >>> ((5:Int32) &&& 31)) &&& (1:Int32))) 6 ((x >>> ((6:Int32) &&& 31)) &&& (1:Int32)))))] H := hP
                have hD : va_D A [(q_1, .inl (cA2, 10, .inl (upd (upd (upd (upd (upd (upd (upd (fun _ => 0) 0 ((x >>> ((0:Int32) &&& 31)) &&& (1:Int32))) 1 ((x >>> ((1:Int32) &&& 31)) &&& (1:Int32))) 2 ((x >>> ((2:Int32) &&& 31)) &&& (1:Int32))) 3 ((x >>> ((3:Int32) &&& 31)) &&& (1:Int32))) 4 ((x >>> ((4:Int32) &&& 31)) &&& (1:Int32))) 5 ((x >>> ((5:Int32) &&& 31)) &&& (1:Int32))) 6 ((x >>> ((6:Int32) &&& 31)) &&& (1:Int32)))))] := hD
                refine lv_iinc (v := (7:Int32)) (lv' := [(2, .int (7:Int32)), (1, .ref q_1), (0, .int x)]) hx hb d_PatternBookModel_bitsOf_21 hl (k := 0) rfl rfl (by decide) rfl (fun ls hl => ?_)
                refine lv_goto (tgt := 7) hx hb d_PatternBookModel_bitsOf_24 (by decide) ?_
                refine lv_iload_n hx hb d_PatternBookModel_bitsOf_7 rfl (lv_at hl 0 rfl) ?_
                refine lv_bipush (v := 10) hx hb d_PatternBookModel_bitsOf_8 (by decide) ?_
                refine lv_icmp_ge (tgt := 27) hx hb d_PatternBookModel_bitsOf_10 (by decide) (fun c_10 => ?_) (fun c_10 => ?_)
                · exact absurd c_10 (by decide)
                · refine lv_aload_n hx hb d_PatternBookModel_bitsOf_13 rfl (lv_at hl 1 rfl) ?_
                  refine lv_iload_n hx hb d_PatternBookModel_bitsOf_14 rfl (lv_at hl 0 rfl) ?_
                  refine lv_iload_n hx hb d_PatternBookModel_bitsOf_15 rfl (lv_at hl 2 rfl) ?_
                  refine lv_iload_n hx hb d_PatternBookModel_bitsOf_16 rfl (lv_at hl 0 rfl) ?_
                  refine lv_ishr hx hb d_PatternBookModel_bitsOf_17 ?_
                  refine lv_iconst (v := 1) hx hb d_PatternBookModel_bitsOf_18 (by decide) ?_
                  refine lv_iand hx hb d_PatternBookModel_bitsOf_19 ?_
                  refine va_iast hx hb hK hP hD hS 0 0 rfl rfl (idx_in rfl) d_PatternBookModel_bitsOf_20 (fun H locs hP hD hS => ?_)
                  have hP : va_P D classes [(q_1, .inl (cA2, 10, .inl (upd (upd (upd (upd (upd (upd (upd (upd (fun _ => 0) 0 ((x >>> ((0:Int32) &&& 31)) &&& (1:Int32))) 1 ((x >>> ((1:Int32) &&& 31)) &&& (1:Int32))) 2 ((x >>> ((2:Int32) &&& 31)) &&& (1:Int32))) 3 ((x >>> ((3:Int32) &&& 31)) &&& (1:Int32))) 4 ((x >>> ((4:Int32) &&& 31)) &&& (1:Int32))) 5 ((x >>> ((5:Int32) &&& 31)) &&& (1:Int32))) 6 ((x >>> ((6:Int32) &&& 31)) &&& (1:Int32))) 7 ((x >>> ((7:Int32) &&& 31)) &&& (1:Int32)))))] H := hP
                  have hD : va_D A [(q_1, .inl (cA2, 10, .inl (upd (upd (upd (upd (upd (upd (upd (upd (fun _ => 0) 0 ((x >>> ((0:Int32) &&& 31)) &&& (1:Int32))) 1 ((x >>> ((1:Int32) &&& 31)) &&& (1:Int32))) 2 ((x >>> ((2:Int32) &&& 31)) &&& (1:Int32))) 3 ((x >>> ((3:Int32) &&& 31)) &&& (1:Int32))) 4 ((x >>> ((4:Int32) &&& 31)) &&& (1:Int32))) 5 ((x >>> ((5:Int32) &&& 31)) &&& (1:Int32))) 6 ((x >>> ((6:Int32) &&& 31)) &&& (1:Int32))) 7 ((x >>> ((7:Int32) &&& 31)) &&& (1:Int32)))))] := hD
                  refine lv_iinc (v := (8:Int32)) (lv' := [(2, .int (8:Int32)), (1, .ref q_1), (0, .int x)]) hx hb d_PatternBookModel_bitsOf_21 hl (k := 0) rfl rfl (by decide) rfl (fun ls hl => ?_)
                  refine lv_goto (tgt := 7) hx hb d_PatternBookModel_bitsOf_24 (by decide) ?_
                  refine lv_iload_n hx hb d_PatternBookModel_bitsOf_7 rfl (lv_at hl 0 rfl) ?_
                  refine lv_bipush (v := 10) hx hb d_PatternBookModel_bitsOf_8 (by decide) ?_
                  refine lv_icmp_ge (tgt := 27) hx hb d_PatternBookModel_bitsOf_10 (by decide) (fun c_11 => ?_) (fun c_11 => ?_)
                  · exact absurd c_11 (by decide)
                  · refine lv_aload_n hx hb d_PatternBookModel_bitsOf_13 rfl (lv_at hl 1 rfl) ?_
                    refine lv_iload_n hx hb d_PatternBookModel_bitsOf_14 rfl (lv_at hl 0 rfl) ?_
                    refine lv_iload_n hx hb d_PatternBookModel_bitsOf_15 rfl (lv_at hl 2 rfl) ?_
                    refine lv_iload_n hx hb d_PatternBookModel_bitsOf_16 rfl (lv_at hl 0 rfl) ?_
                    refine lv_ishr hx hb d_PatternBookModel_bitsOf_17 ?_
                    refine lv_iconst (v := 1) hx hb d_PatternBookModel_bitsOf_18 (by decide) ?_
                    refine lv_iand hx hb d_PatternBookModel_bitsOf_19 ?_
                    refine va_iast hx hb hK hP hD hS 0 0 rfl rfl (idx_in rfl) d_PatternBookModel_bitsOf_20 (fun H locs hP hD hS => ?_)
                    have hP : va_P D classes [(q_1, .inl (cA2, 10, .inl (upd (upd (upd (upd (upd (upd (upd (upd (upd (fun _ => 0) 0 ((x >>> ((0:Int32) &&& 31)) &&& (1:Int32))) 1 ((x >>> ((1:Int32) &&& 31)) &&& (1:Int32))) 2 ((x >>> ((2:Int32) &&& 31)) &&& (1:Int32))) 3 ((x >>> ((3:Int32) &&& 31)) &&& (1:Int32))) 4 ((x >>> ((4:Int32) &&& 31)) &&& (1:Int32))) 5 ((x >>> ((5:Int32) &&& 31)) &&& (1:Int32))) 6 ((x >>> ((6:Int32) &&& 31)) &&& (1:Int32))) 7 ((x >>> ((7:Int32) &&& 31)) &&& (1:Int32))) 8 ((x >>> ((8:Int32) &&& 31)) &&& (1:Int32)))))] H := hP
                    have hD : va_D A [(q_1, .inl (cA2, 10, .inl (upd (upd (upd (upd (upd (upd (upd (upd (upd (fun _ => 0) 0 ((x >>> ((0:Int32) &&& 31)) &&& (1:Int32))) 1 ((x >>> ((1:Int32) &&& 31)) &&& (1:Int32))) 2 ((x >>> ((2:Int32) &&& 31)) &&& (1:Int32))) 3 ((x >>> ((3:Int32) &&& 31)) &&& (1:Int32))) 4 ((x >>> ((4:Int32) &&& 31)) &&& (1:Int32))) 5 ((x >>> ((5:Int32) &&& 31)) &&& (1:Int32))) 6 ((x >>> ((6:Int32) &&& 31)) &&& (1:Int32))) 7 ((x >>> ((7:Int32) &&& 31)) &&& (1:Int32))) 8 ((x >>> ((8:Int32) &&& 31)) &&& (1:Int32)))))] := hD
                    refine lv_iinc (v := (9:Int32)) (lv' := [(2, .int (9:Int32)), (1, .ref q_1), (0, .int x)]) hx hb d_PatternBookModel_bitsOf_21 hl (k := 0) rfl rfl (by decide) rfl (fun ls hl => ?_)
                    refine lv_goto (tgt := 7) hx hb d_PatternBookModel_bitsOf_24 (by decide) ?_
                    refine lv_iload_n hx hb d_PatternBookModel_bitsOf_7 rfl (lv_at hl 0 rfl) ?_
                    refine lv_bipush (v := 10) hx hb d_PatternBookModel_bitsOf_8 (by decide) ?_
                    refine lv_icmp_ge (tgt := 27) hx hb d_PatternBookModel_bitsOf_10 (by decide) (fun c_12 => ?_) (fun c_12 => ?_)
                    · exact absurd c_12 (by decide)
                    · refine lv_aload_n hx hb d_PatternBookModel_bitsOf_13 rfl (lv_at hl 1 rfl) ?_
                      refine lv_iload_n hx hb d_PatternBookModel_bitsOf_14 rfl (lv_at hl 0 rfl) ?_
                      refine lv_iload_n hx hb d_PatternBookModel_bitsOf_15 rfl (lv_at hl 2 rfl) ?_
                      refine lv_iload_n hx hb d_PatternBookModel_bitsOf_16 rfl (lv_at hl 0 rfl) ?_
                      refine lv_ishr hx hb d_PatternBookModel_bitsOf_17 ?_
                      refine lv_iconst (v := 1) hx hb d_PatternBookModel_bitsOf_18 (by decide) ?_
                      refine lv_iand hx hb d_PatternBookModel_bitsOf_19 ?_
                      refine va_iast hx hb hK hP hD hS 0 0 rfl rfl (idx_in rfl) d_PatternBookModel_bitsOf_20 (fun H locs hP hD hS => ?_)
                      have hP : va_P D classes [(q_1, .inl (cA2, 10, .inl (upd (upd (upd (upd (upd (upd (upd (upd (upd (upd (fun _ => 0) 0 ((x >>> ((0:Int32) &&& 31)) &&& (1:Int32))) 1 ((x >>> ((1:Int32) &&& 31)) &&& (1:Int32))) 2 ((x >>> ((2:Int32) &&& 31)) &&& (1:Int32))) 3 ((x >>> ((3:Int32) &&& 31)) &&& (1:Int32))) 4 ((x >>> ((4:Int32) &&& 31)) &&& (1:Int32))) 5 ((x >>> ((5:Int32) &&& 31)) &&& (1:Int32))) 6 ((x >>> ((6:Int32) &&& 31)) &&& (1:Int32))) 7 ((x >>> ((7:Int32) &&& 31)) &&& (1:Int32))) 8 ((x >>> ((8:Int32) &&& 31)) &&& (1:Int32))) 9 ((x >>> ((9:Int32) &&& 31)) &&& (1:Int32)))))] H := hP
                      have hD : va_D A [(q_1, .inl (cA2, 10, .inl (upd (upd (upd (upd (upd (upd (upd (upd (upd (upd (fun _ => 0) 0 ((x >>> ((0:Int32) &&& 31)) &&& (1:Int32))) 1 ((x >>> ((1:Int32) &&& 31)) &&& (1:Int32))) 2 ((x >>> ((2:Int32) &&& 31)) &&& (1:Int32))) 3 ((x >>> ((3:Int32) &&& 31)) &&& (1:Int32))) 4 ((x >>> ((4:Int32) &&& 31)) &&& (1:Int32))) 5 ((x >>> ((5:Int32) &&& 31)) &&& (1:Int32))) 6 ((x >>> ((6:Int32) &&& 31)) &&& (1:Int32))) 7 ((x >>> ((7:Int32) &&& 31)) &&& (1:Int32))) 8 ((x >>> ((8:Int32) &&& 31)) &&& (1:Int32))) 9 ((x >>> ((9:Int32) &&& 31)) &&& (1:Int32)))))] := hD
                      refine lv_iinc (v := (10:Int32)) (lv' := [(2, .int (10:Int32)), (1, .ref q_1), (0, .int x)]) hx hb d_PatternBookModel_bitsOf_21 hl (k := 0) rfl rfl (by decide) rfl (fun ls hl => ?_)
                      refine lv_goto (tgt := 7) hx hb d_PatternBookModel_bitsOf_24 (by decide) ?_
                      refine lv_iload_n hx hb d_PatternBookModel_bitsOf_7 rfl (lv_at hl 0 rfl) ?_
                      refine lv_bipush (v := 10) hx hb d_PatternBookModel_bitsOf_8 (by decide) ?_
                      refine lv_icmp_ge (tgt := 27) hx hb d_PatternBookModel_bitsOf_10 (by decide) (fun c_13 => ?_) (fun c_13 => ?_)
                      · refine lv_aload_n hx hb d_PatternBookModel_bitsOf_27 rfl (lv_at hl 1 rfl) ?_
                        refine W.aret hx hb hr (Or.inr ⟨_, rfl⟩) (Or.inr ⟨_, rfl⟩) ?_ hS.2.2 d_PatternBookModel_bitsOf_28
                        exact uEnd ((upd (upd (upd (upd (upd (upd (upd (upd (upd (upd (fun _ => 0) 0 ((x >>> ((0:Int32) &&& 31)) &&& (1:Int32))) 1 ((x >>> ((1:Int32) &&& 31)) &&& (1:Int32))) 2 ((x >>> ((2:Int32) &&& 31)) &&& (1:Int32))) 3 ((x >>> ((3:Int32) &&& 31)) &&& (1:Int32))) 4 ((x >>> ((4:Int32) &&& 31)) &&& (1:Int32))) 5 ((x >>> ((5:Int32) &&& 31)) &&& (1:Int32))) 6 ((x >>> ((6:Int32) &&& 31)) &&& (1:Int32))) 7 ((x >>> ((7:Int32) &&& 31)) &&& (1:Int32))) 8 ((x >>> ((8:Int32) &&& 31)) &&& (1:Int32))) 9 ((x >>> ((9:Int32) &&& 31)) &&& (1:Int32))), q_1, cA2) (hP.sub [0] rfl) (hK.sub [0] rfl) (hD.sub [0] (by decide) rfl) hS rfl rfl
                      · exact absurd (by decide) c_13
set_option maxHeartbeats 4000000 in
set_option maxRecDepth 100000 in
/-- PatternBookModel.spell(I)I -/
theorem c_C_M_spell (l : Launch) (D : va_G)  (sz : Nat) (x : Int32) : Met l y_PatternBookModel_spell (wsOf y_PatternBookModel_spell b_PatternBookModel_spell 16 (some .int)) ({ frames := 1, cells := 1, slots := 10, locals := 22 }) (uP D classes [] [] sz [.int x]) (uQ D classes (fun u : Int32 => some (.int u)) (fun u => u = (sl m_C_M_spell) x) (va_A [] sz) (fun _ => []) (fun u => [])) 1 10 (va_A [] sz) := by
  rw [sl_eq m_C_M_spell]
  refine uBegin (by decide +kernel) (Nat.le_of_ble_eq_true rfl) ?_
  intro p e s m below meth c A ls H locs hx hb hr hts hown hlocks hml hin hA hP hK hD hN hS hl
  have hl : lv_has ls 16 [(0, .int x)] := hl
  refine lv_iload_n hx hb d_PatternBookModel_spell_0 rfl (lv_at hl 0 rfl) ?_
  refine uCall (WR := []) (RT := []) (va_runS (As := [.int x]) (rest := []) ⟨hx, hb, hml, hown, hts⟩ (c_C_M_bitsOf l D H.size x) ⟨uCB 1 hts k_471 k_257 k_472 (by decide +kernel) rfl rfl ⟨Nat.le_of_ble_eq_true rfl, Nat.le_of_ble_eq_true rfl⟩, hts _ k_473⟩ (uPreS hK hP hD hN [] rfl (by decide) [] rfl) rfl rfl hl.1 rfl (lv_room (Nat.le_of_ble_eq_true rfl)) d_PatternBookModel_spell_1 ⟨(Nat.le_of_ble_eq_true rfl), (Nat.le_of_ble_eq_true rfl)⟩) hK hP hD hS hA [] [] rfl rfl (by decide) (by decide) [] rfl (fun u1 H locs hu1 hP hD hK hS => ?_)
  obtain ⟨v2, q_3, cA4⟩ := u1
  have hv2 : v2 = ((sl m_C_M_bitsOf) x) := hu1
  have hP : va_P D classes [(q_3, .inl (cA4, 10, .inl v2))] H := hP
  have hD : va_D A [(q_3, .inl (cA4, 10, .inl v2))] := hD
  have hK : va_K D classes [(cA4, .int)] s := hK
  refine W.eq (g2 := F0 m 4 ls [.ref q_3]) rfl ?_
  refine W.widen (k := 1) (n := 10) (Nat.le_of_ble_eq_true rfl) (Nat.le_of_ble_eq_true rfl) ?_
  refine lv_astore_n (lv' := [(1, .ref q_3), (0, .int x)]) hx hb d_PatternBookModel_spell_4 rfl hl (by decide) rfl (fun ls hl => ?_)
  refine lv_aload_n hx hb d_PatternBookModel_spell_5 rfl (lv_at hl 0 rfl) ?_
  refine lv_bipush (v := 9) hx hb d_PatternBookModel_spell_6 (by decide) ?_
  refine va_iald hx hb hK hP 0 0 rfl rfl (idx_in rfl) d_PatternBookModel_spell_8 ?_
  refine W.eq (g2 := F0 m 9 ls [.int (v2 9)]) rfl ?_
  refine lv_istore_n (lv' := [(2, .int (v2 9)), (1, .ref q_3), (0, .int x)]) hx hb d_PatternBookModel_spell_9 rfl hl (by decide) rfl (fun ls hl => ?_)
  refine lv_aload_n hx hb d_PatternBookModel_spell_10 rfl (lv_at hl 1 rfl) ?_
  refine lv_bipush (v := 8) hx hb d_PatternBookModel_spell_11 (by decide) ?_
  refine va_iald hx hb hK hP 0 0 rfl rfl (idx_in rfl) d_PatternBookModel_spell_13 ?_
  refine W.eq (g2 := F0 m 14 ls [.int (v2 8)]) rfl ?_
  refine lv_istore_n (lv' := [(3, .int (v2 8)), (2, .int (v2 9)), (1, .ref q_3), (0, .int x)]) hx hb d_PatternBookModel_spell_14 rfl hl (by decide) rfl (fun ls hl => ?_)
  refine lv_aload_n hx hb d_PatternBookModel_spell_15 rfl (lv_at hl 2 rfl) ?_
  refine lv_bipush (v := 7) hx hb d_PatternBookModel_spell_16 (by decide) ?_
  refine va_iald hx hb hK hP 0 0 rfl rfl (idx_in rfl) d_PatternBookModel_spell_18 ?_
  refine W.eq (g2 := F0 m 19 ls [.int (v2 7)]) rfl ?_
  refine lv_istore (lv' := [(4, .int (v2 7)), (3, .int (v2 8)), (2, .int (v2 9)), (1, .ref q_3), (0, .int x)]) hx hb d_PatternBookModel_spell_19 hl (by decide) rfl (fun ls hl => ?_)
  refine lv_aload_n hx hb d_PatternBookModel_spell_21 rfl (lv_at hl 3 rfl) ?_
  refine lv_bipush (v := 6) hx hb d_PatternBookModel_spell_22 (by decide) ?_
  refine va_iald hx hb hK hP 0 0 rfl rfl (idx_in rfl) d_PatternBookModel_spell_24 ?_
  refine W.eq (g2 := F0 m 25 ls [.int (v2 6)]) rfl ?_
  refine lv_istore (lv' := [(5, .int (v2 6)), (4, .int (v2 7)), (3, .int (v2 8)), (2, .int (v2 9)), (1, .ref q_3), (0, .int x)]) hx hb d_PatternBookModel_spell_25 hl (by decide) rfl (fun ls hl => ?_)
  refine lv_aload_n hx hb d_PatternBookModel_spell_27 rfl (lv_at hl 4 rfl) ?_
  refine lv_iconst (v := 5) hx hb d_PatternBookModel_spell_28 (by decide) ?_
  refine va_iald hx hb hK hP 0 0 rfl rfl (idx_in rfl) d_PatternBookModel_spell_29 ?_
  refine W.eq (g2 := F0 m 30 ls [.int (v2 5)]) rfl ?_
  refine lv_istore (lv' := [(6, .int (v2 5)), (5, .int (v2 6)), (4, .int (v2 7)), (3, .int (v2 8)), (2, .int (v2 9)), (1, .ref q_3), (0, .int x)]) hx hb d_PatternBookModel_spell_30 hl (by decide) rfl (fun ls hl => ?_)
  refine lv_aload_n hx hb d_PatternBookModel_spell_32 rfl (lv_at hl 5 rfl) ?_
  refine lv_iconst (v := 4) hx hb d_PatternBookModel_spell_33 (by decide) ?_
  refine va_iald hx hb hK hP 0 0 rfl rfl (idx_in rfl) d_PatternBookModel_spell_34 ?_
  refine W.eq (g2 := F0 m 35 ls [.int (v2 4)]) rfl ?_
  refine lv_istore (lv' := [(7, .int (v2 4)), (6, .int (v2 5)), (5, .int (v2 6)), (4, .int (v2 7)), (3, .int (v2 8)), (2, .int (v2 9)), (1, .ref q_3), (0, .int x)]) hx hb d_PatternBookModel_spell_35 hl (by decide) rfl (fun ls hl => ?_)
  refine lv_aload_n hx hb d_PatternBookModel_spell_37 rfl (lv_at hl 6 rfl) ?_
  refine lv_iconst (v := 2) hx hb d_PatternBookModel_spell_38 (by decide) ?_
  refine va_iald hx hb hK hP 0 0 rfl rfl (idx_in rfl) d_PatternBookModel_spell_39 ?_
  refine W.eq (g2 := F0 m 40 ls [.int (v2 2)]) rfl ?_
  refine lv_istore (lv' := [(8, .int (v2 2)), (7, .int (v2 4)), (6, .int (v2 5)), (5, .int (v2 6)), (4, .int (v2 7)), (3, .int (v2 8)), (2, .int (v2 9)), (1, .ref q_3), (0, .int x)]) hx hb d_PatternBookModel_spell_40 hl (by decide) rfl (fun ls hl => ?_)
  refine lv_aload_n hx hb d_PatternBookModel_spell_42 rfl (lv_at hl 7 rfl) ?_
  refine lv_iconst (v := 1) hx hb d_PatternBookModel_spell_43 (by decide) ?_
  refine va_iald hx hb hK hP 0 0 rfl rfl (idx_in rfl) d_PatternBookModel_spell_44 ?_
  refine W.eq (g2 := F0 m 45 ls [.int (v2 1)]) rfl ?_
  refine lv_istore (lv' := [(9, .int (v2 1)), (8, .int (v2 2)), (7, .int (v2 4)), (6, .int (v2 5)), (5, .int (v2 6)), (4, .int (v2 7)), (3, .int (v2 8)), (2, .int (v2 9)), (1, .ref q_3), (0, .int x)]) hx hb d_PatternBookModel_spell_45 hl (by decide) rfl (fun ls hl => ?_)
  refine lv_aload_n hx hb d_PatternBookModel_spell_47 rfl (lv_at hl 8 rfl) ?_
  refine lv_iconst (v := 0) hx hb d_PatternBookModel_spell_48 (by decide) ?_
  refine va_iald hx hb hK hP 0 0 rfl rfl (idx_in rfl) d_PatternBookModel_spell_49 ?_
  refine W.eq (g2 := F0 m 50 ls [.int (v2 0)]) rfl ?_
  refine lv_istore (lv' := [(10, .int (v2 0)), (9, .int (v2 1)), (8, .int (v2 2)), (7, .int (v2 4)), (6, .int (v2 5)), (5, .int (v2 6)), (4, .int (v2 7)), (3, .int (v2 8)), (2, .int (v2 9)), (1, .ref q_3), (0, .int x)]) hx hb d_PatternBookModel_spell_50 hl (by decide) rfl (fun ls hl => ?_)
  refine lv_iconst (v := 4) hx hb d_PatternBookModel_spell_52 (by decide) ?_
  refine lv_iload_n hx hb d_PatternBookModel_spell_53 rfl (lv_at hl 8 rfl) ?_
  refine lv_imul hx hb d_PatternBookModel_spell_54 ?_
  refine lv_iconst (v := 2) hx hb d_PatternBookModel_spell_55 (by decide) ?_
  refine lv_iload_n hx hb d_PatternBookModel_spell_56 rfl (lv_at hl 7 rfl) ?_
  refine lv_imul hx hb d_PatternBookModel_spell_57 ?_
  refine lv_iadd hx hb d_PatternBookModel_spell_58 ?_
  refine lv_iload hx hb d_PatternBookModel_spell_59 (lv_at hl 6 rfl) ?_
  refine lv_iadd hx hb d_PatternBookModel_spell_61 ?_
  refine lv_istore (lv' := [(11, .int ((((4:Int32) * (v2 9)) + ((2:Int32) * (v2 8))) + (v2 7))), (10, .int (v2 0)), (9, .int (v2 1)), (8, .int (v2 2)), (7, .int (v2 4)), (6, .int (v2 5)), (5, .int (v2 6)), (4, .int (v2 7)), (3, .int (v2 8)), (2, .int (v2 9)), (1, .ref q_3), (0, .int x)]) hx hb d_PatternBookModel_spell_62 hl (by decide) rfl (fun ls hl => ?_)
  refine lv_iconst (v := 4) hx hb d_PatternBookModel_spell_64 (by decide) ?_
  refine lv_iload hx hb d_PatternBookModel_spell_65 (lv_at hl 6 rfl) ?_
  refine lv_imul hx hb d_PatternBookModel_spell_67 ?_
  refine lv_iconst (v := 2) hx hb d_PatternBookModel_spell_68 (by decide) ?_
  refine lv_iload hx hb d_PatternBookModel_spell_69 (lv_at hl 5 rfl) ?_
  refine lv_imul hx hb d_PatternBookModel_spell_71 ?_
  refine lv_iadd hx hb d_PatternBookModel_spell_72 ?_
  refine lv_iload hx hb d_PatternBookModel_spell_73 (lv_at hl 4 rfl) ?_
  refine lv_iadd hx hb d_PatternBookModel_spell_75 ?_
  refine lv_istore (lv' := [(12, .int ((((4:Int32) * (v2 6)) + ((2:Int32) * (v2 5))) + (v2 4))), (11, .int ((((4:Int32) * (v2 9)) + ((2:Int32) * (v2 8))) + (v2 7))), (10, .int (v2 0)), (9, .int (v2 1)), (8, .int (v2 2)), (7, .int (v2 4)), (6, .int (v2 5)), (5, .int (v2 6)), (4, .int (v2 7)), (3, .int (v2 8)), (2, .int (v2 9)), (1, .ref q_3), (0, .int x)]) hx hb d_PatternBookModel_spell_76 hl (by decide) rfl (fun ls hl => ?_)
  refine lv_iconst (v := 4) hx hb d_PatternBookModel_spell_78 (by decide) ?_
  refine lv_iload_n hx hb d_PatternBookModel_spell_79 rfl (lv_at hl 10 rfl) ?_
  refine lv_imul hx hb d_PatternBookModel_spell_80 ?_
  refine lv_iconst (v := 2) hx hb d_PatternBookModel_spell_81 (by decide) ?_
  refine lv_iload_n hx hb d_PatternBookModel_spell_82 rfl (lv_at hl 9 rfl) ?_
  refine lv_imul hx hb d_PatternBookModel_spell_83 ?_
  refine lv_iadd hx hb d_PatternBookModel_spell_84 ?_
  refine lv_iload hx hb d_PatternBookModel_spell_85 (lv_at hl 5 rfl) ?_
  refine lv_iadd hx hb d_PatternBookModel_spell_87 ?_
  refine lv_istore (lv' := [(13, .int ((((4:Int32) * (v2 9)) + ((2:Int32) * (v2 8))) + (v2 4))), (12, .int ((((4:Int32) * (v2 6)) + ((2:Int32) * (v2 5))) + (v2 4))), (11, .int ((((4:Int32) * (v2 9)) + ((2:Int32) * (v2 8))) + (v2 7))), (10, .int (v2 0)), (9, .int (v2 1)), (8, .int (v2 2)), (7, .int (v2 4)), (6, .int (v2 5)), (5, .int (v2 6)), (4, .int (v2 7)), (3, .int (v2 8)), (2, .int (v2 9)), (1, .ref q_3), (0, .int x)]) hx hb d_PatternBookModel_spell_88 hl (by decide) rfl (fun ls hl => ?_)
  refine lv_iconst (v := 4) hx hb d_PatternBookModel_spell_90 (by decide) ?_
  refine lv_iload_n hx hb d_PatternBookModel_spell_91 rfl (lv_at hl 11 rfl) ?_
  refine lv_imul hx hb d_PatternBookModel_spell_92 ?_
  refine lv_iconst (v := 2) hx hb d_PatternBookModel_spell_93 (by decide) ?_
  refine lv_iload_n hx hb d_PatternBookModel_spell_94 rfl (lv_at hl 10 rfl) ?_
  refine lv_imul hx hb d_PatternBookModel_spell_95 ?_
  refine lv_iadd hx hb d_PatternBookModel_spell_96 ?_
  refine lv_iload hx hb d_PatternBookModel_spell_97 (lv_at hl 3 rfl) ?_
  refine lv_iadd hx hb d_PatternBookModel_spell_99 ?_
  refine lv_istore (lv' := [(14, .int ((((4:Int32) * (v2 9)) + ((2:Int32) * (v2 8))) + (v2 0))), (13, .int ((((4:Int32) * (v2 9)) + ((2:Int32) * (v2 8))) + (v2 4))), (12, .int ((((4:Int32) * (v2 6)) + ((2:Int32) * (v2 5))) + (v2 4))), (11, .int ((((4:Int32) * (v2 9)) + ((2:Int32) * (v2 8))) + (v2 7))), (10, .int (v2 0)), (9, .int (v2 1)), (8, .int (v2 2)), (7, .int (v2 4)), (6, .int (v2 5)), (5, .int (v2 6)), (4, .int (v2 7)), (3, .int (v2 8)), (2, .int (v2 9)), (1, .ref q_3), (0, .int x)]) hx hb d_PatternBookModel_spell_100 hl (by decide) rfl (fun ls hl => ?_)
  refine lv_iconst (v := 4) hx hb d_PatternBookModel_spell_102 (by decide) ?_
  refine lv_iload hx hb d_PatternBookModel_spell_103 (lv_at hl 9 rfl) ?_
  refine lv_imul hx hb d_PatternBookModel_spell_105 ?_
  refine lv_iconst (v := 2) hx hb d_PatternBookModel_spell_106 (by decide) ?_
  refine lv_iload hx hb d_PatternBookModel_spell_107 (lv_at hl 8 rfl) ?_
  refine lv_imul hx hb d_PatternBookModel_spell_109 ?_
  refine lv_iadd hx hb d_PatternBookModel_spell_110 ?_
  refine lv_iload hx hb d_PatternBookModel_spell_111 (lv_at hl 4 rfl) ?_
  refine lv_iadd hx hb d_PatternBookModel_spell_113 ?_
  refine lv_istore (lv' := [(15, .int ((((4:Int32) * (v2 6)) + ((2:Int32) * (v2 5))) + (v2 0))), (14, .int ((((4:Int32) * (v2 9)) + ((2:Int32) * (v2 8))) + (v2 0))), (13, .int ((((4:Int32) * (v2 9)) + ((2:Int32) * (v2 8))) + (v2 4))), (12, .int ((((4:Int32) * (v2 6)) + ((2:Int32) * (v2 5))) + (v2 4))), (11, .int ((((4:Int32) * (v2 9)) + ((2:Int32) * (v2 8))) + (v2 7))), (10, .int (v2 0)), (9, .int (v2 1)), (8, .int (v2 2)), (7, .int (v2 4)), (6, .int (v2 5)), (5, .int (v2 6)), (4, .int (v2 7)), (3, .int (v2 8)), (2, .int (v2 9)), (1, .ref q_3), (0, .int x)]) hx hb d_PatternBookModel_spell_114 hl (by decide) rfl (fun ls hl => ?_)
  refine lv_aload_n hx hb d_PatternBookModel_spell_116 rfl (lv_at hl 14 rfl) ?_
  refine lv_iconst (v := 3) hx hb d_PatternBookModel_spell_117 (by decide) ?_
  refine va_iald hx hb hK hP 0 0 rfl rfl (idx_in rfl) d_PatternBookModel_spell_118 ?_
  refine W.eq (g2 := F0 m 119 ls [.int (v2 3)]) rfl ?_
  refine lv_if_ne (tgt := 147) hx hb d_PatternBookModel_spell_119 (by decide) (fun c_5 => ?_) (fun c_5 => ?_)
  · refine lv_iconst (v := 2) hx hb d_PatternBookModel_spell_147 (by decide) ?_
    refine lv_iload hx hb d_PatternBookModel_spell_148 (lv_at hl 7 rfl) ?_
    refine lv_imul hx hb d_PatternBookModel_spell_150 ?_
    refine lv_iload hx hb d_PatternBookModel_spell_151 (lv_at hl 6 rfl) ?_
    refine lv_iadd hx hb d_PatternBookModel_spell_153 ?_
    by_cases c_6 : (((2:Int32) * (v2 2)) + (v2 1)) = (0:Int32)
    · refine lv_tableIn (off := 26) (tgt := 180) hx hb d_PatternBookModel_spell_154 (by rw [c_6]; decide) (by rw [c_6]; decide) (by rw [c_6]; rfl) (by decide) ?_
      refine lv_bipush (v := 100) hx hb d_PatternBookModel_spell_180 (by decide) ?_
      refine lv_iload hx hb d_PatternBookModel_spell_182 (lv_at hl 4 rfl) ?_
      refine lv_imul hx hb d_PatternBookModel_spell_184 ?_
      refine lv_bipush (v := 10) hx hb d_PatternBookModel_spell_185 (by decide) ?_
      refine lv_iload hx hb d_PatternBookModel_spell_187 (lv_at hl 3 rfl) ?_
      refine lv_imul hx hb d_PatternBookModel_spell_189 ?_
      refine lv_iadd hx hb d_PatternBookModel_spell_190 ?_
      refine lv_bipush (v := 8) hx hb d_PatternBookModel_spell_191 (by decide) ?_
      refine lv_iadd hx hb d_PatternBookModel_spell_193 ?_
      refine lv_iload hx hb d_PatternBookModel_spell_194 (lv_at hl 5 rfl) ?_
      refine lv_iadd hx hb d_PatternBookModel_spell_196 ?_
      refine W.iret hx hb hr ?_ hS.2.2 d_PatternBookModel_spell_197
      exact uEnd (((((100:Int32) * ((((4:Int32) * (v2 9)) + ((2:Int32) * (v2 8))) + (v2 7))) + ((10:Int32) * ((((4:Int32) * (v2 6)) + ((2:Int32) * (v2 5))) + (v2 4)))) + (8:Int32)) + (v2 0)) (hP.sub [] rfl) (hK.sub [] rfl) (hD.sub [] (by decide) rfl) hS (by have ev2 := hv2.symm; subst ev2; exact ((if_neg c_5).trans ((if_pos c_6).trans (rfl))).symm) rfl
    · by_cases c_7 : (((2:Int32) * (v2 2)) + (v2 1)) = (1:Int32)
      · refine lv_tableIn (off := 44) (tgt := 198) hx hb d_PatternBookModel_spell_154 (by rw [c_7]; decide) (by rw [c_7]; decide) (by rw [c_7]; rfl) (by decide) ?_
        refine lv_bipush (v := 100) hx hb d_PatternBookModel_spell_198 (by decide) ?_
        refine lv_iload hx hb d_PatternBookModel_spell_200 (lv_at hl 4 rfl) ?_
        refine lv_imul hx hb d_PatternBookModel_spell_202 ?_
        refine lv_bipush (v := 10) hx hb d_PatternBookModel_spell_203 (by decide) ?_
        refine lv_bipush (v := 8) hx hb d_PatternBookModel_spell_205 (by decide) ?_
        refine lv_iload hx hb d_PatternBookModel_spell_207 (lv_at hl 8 rfl) ?_
        refine lv_iadd hx hb d_PatternBookModel_spell_209 ?_
        refine lv_imul hx hb d_PatternBookModel_spell_210 ?_
        refine lv_iadd hx hb d_PatternBookModel_spell_211 ?_
        refine lv_iload hx hb d_PatternBookModel_spell_212 (lv_at hl 0 rfl) ?_
        refine lv_iadd hx hb d_PatternBookModel_spell_214 ?_
        refine W.iret hx hb hr ?_ hS.2.2 d_PatternBookModel_spell_215
        exact uEnd ((((100:Int32) * ((((4:Int32) * (v2 9)) + ((2:Int32) * (v2 8))) + (v2 7))) + ((10:Int32) * ((8:Int32) + (v2 4)))) + ((((4:Int32) * (v2 6)) + ((2:Int32) * (v2 5))) + (v2 0))) (hP.sub [] rfl) (hK.sub [] rfl) (hD.sub [] (by decide) rfl) hS (by have ev2 := hv2.symm; subst ev2; exact ((if_neg c_5).trans ((if_neg c_6).trans ((if_pos c_7).trans (rfl)))).symm) rfl
      · by_cases c_8 : (((2:Int32) * (v2 2)) + (v2 1)) = (2:Int32)
        · refine lv_tableIn (off := 62) (tgt := 216) hx hb d_PatternBookModel_spell_154 (by rw [c_8]; decide) (by rw [c_8]; decide) (by rw [c_8]; rfl) (by decide) ?_
          refine lv_bipush (v := 100) hx hb d_PatternBookModel_spell_216 (by decide) ?_
          refine lv_bipush (v := 8) hx hb d_PatternBookModel_spell_218 (by decide) ?_
          refine lv_iload hx hb d_PatternBookModel_spell_220 (lv_at hl 11 rfl) ?_
          refine lv_iadd hx hb d_PatternBookModel_spell_222 ?_
          refine lv_imul hx hb d_PatternBookModel_spell_223 ?_
          refine lv_bipush (v := 10) hx hb d_PatternBookModel_spell_224 (by decide) ?_
          refine lv_iload hx hb d_PatternBookModel_spell_226 (lv_at hl 3 rfl) ?_
          refine lv_imul hx hb d_PatternBookModel_spell_228 ?_
          refine lv_iadd hx hb d_PatternBookModel_spell_229 ?_
          refine lv_iload hx hb d_PatternBookModel_spell_230 (lv_at hl 1 rfl) ?_
          refine lv_iadd hx hb d_PatternBookModel_spell_232 ?_
          refine W.iret hx hb hr ?_ hS.2.2 d_PatternBookModel_spell_233
          exact uEnd ((((100:Int32) * ((8:Int32) + (v2 7))) + ((10:Int32) * ((((4:Int32) * (v2 6)) + ((2:Int32) * (v2 5))) + (v2 4)))) + ((((4:Int32) * (v2 9)) + ((2:Int32) * (v2 8))) + (v2 0))) (hP.sub [] rfl) (hK.sub [] rfl) (hD.sub [] (by decide) rfl) hS (by have ev2 := hv2.symm; subst ev2; exact ((if_neg c_5).trans ((if_neg c_6).trans ((if_neg c_7).trans ((if_pos c_8).trans (rfl))))).symm) rfl
        · refine lv_tableOut (tgt := 234) hx hb d_PatternBookModel_spell_154 (by have z0 := lv_neT c_6 (show (0:Int32).toInt = 0 by decide); have z1 := lv_neT c_7 (show (1:Int32).toInt = 1 by decide); have z2 := lv_neT c_8 (show (2:Int32).toInt = 2 by decide); omega) (by decide) ?_
          refine lv_iconst (v := 2) hx hb d_PatternBookModel_spell_234 (by decide) ?_
          refine lv_iload hx hb d_PatternBookModel_spell_235 (lv_at hl 10 rfl) ?_
          refine lv_imul hx hb d_PatternBookModel_spell_237 ?_
          refine lv_iload hx hb d_PatternBookModel_spell_238 (lv_at hl 9 rfl) ?_
          refine lv_iadd hx hb d_PatternBookModel_spell_240 ?_
          by_cases c_9 : (((2:Int32) * (v2 6)) + (v2 5)) = (0:Int32)
          · refine lv_tableIn (off := 27) (tgt := 268) hx hb d_PatternBookModel_spell_241 (by rw [c_9]; decide) (by rw [c_9]; decide) (by rw [c_9]; rfl) (by decide) ?_
            refine lv_bipush (v := 100) hx hb d_PatternBookModel_spell_268 (by decide) ?_
            refine lv_bipush (v := 8) hx hb d_PatternBookModel_spell_270 (by decide) ?_
            refine lv_iload hx hb d_PatternBookModel_spell_272 (lv_at hl 11 rfl) ?_
            refine lv_iadd hx hb d_PatternBookModel_spell_274 ?_
            refine lv_imul hx hb d_PatternBookModel_spell_275 ?_
            refine lv_bipush (v := 10) hx hb d_PatternBookModel_spell_276 (by decide) ?_
            refine lv_bipush (v := 8) hx hb d_PatternBookModel_spell_278 (by decide) ?_
            refine lv_iload hx hb d_PatternBookModel_spell_280 (lv_at hl 8 rfl) ?_
            refine lv_iadd hx hb d_PatternBookModel_spell_282 ?_
            refine lv_imul hx hb d_PatternBookModel_spell_283 ?_
            refine lv_iadd hx hb d_PatternBookModel_spell_284 ?_
            refine lv_iload hx hb d_PatternBookModel_spell_285 (lv_at hl 1 rfl) ?_
            refine lv_iadd hx hb d_PatternBookModel_spell_287 ?_
            refine W.iret hx hb hr ?_ hS.2.2 d_PatternBookModel_spell_288
            exact uEnd ((((100:Int32) * ((8:Int32) + (v2 7))) + ((10:Int32) * ((8:Int32) + (v2 4)))) + ((((4:Int32) * (v2 9)) + ((2:Int32) * (v2 8))) + (v2 0))) (hP.sub [] rfl) (hK.sub [] rfl) (hD.sub [] (by decide) rfl) hS (by have ev2 := hv2.symm; subst ev2; exact ((if_neg c_5).trans ((if_neg c_6).trans ((if_neg c_7).trans ((if_neg c_8).trans ((if_pos c_9).trans (rfl)))))).symm) rfl
          · by_cases c_10 : (((2:Int32) * (v2 6)) + (v2 5)) = (1:Int32)
            · refine lv_tableIn (off := 48) (tgt := 289) hx hb d_PatternBookModel_spell_241 (by rw [c_10]; decide) (by rw [c_10]; decide) (by rw [c_10]; rfl) (by decide) ?_
              refine lv_bipush (v := 100) hx hb d_PatternBookModel_spell_289 (by decide) ?_
              refine lv_bipush (v := 8) hx hb d_PatternBookModel_spell_291 (by decide) ?_
              refine lv_iload hx hb d_PatternBookModel_spell_293 (lv_at hl 11 rfl) ?_
              refine lv_iadd hx hb d_PatternBookModel_spell_295 ?_
              refine lv_imul hx hb d_PatternBookModel_spell_296 ?_
              refine lv_bipush (v := 10) hx hb d_PatternBookModel_spell_297 (by decide) ?_
              refine lv_iload hx hb d_PatternBookModel_spell_299 (lv_at hl 2 rfl) ?_
              refine lv_imul hx hb d_PatternBookModel_spell_301 ?_
              refine lv_iadd hx hb d_PatternBookModel_spell_302 ?_
              refine lv_bipush (v := 8) hx hb d_PatternBookModel_spell_303 (by decide) ?_
              refine lv_iadd hx hb d_PatternBookModel_spell_305 ?_
              refine lv_iload hx hb d_PatternBookModel_spell_306 (lv_at hl 5 rfl) ?_
              refine lv_iadd hx hb d_PatternBookModel_spell_308 ?_
              refine W.iret hx hb hr ?_ hS.2.2 d_PatternBookModel_spell_309
              exact uEnd (((((100:Int32) * ((8:Int32) + (v2 7))) + ((10:Int32) * ((((4:Int32) * (v2 9)) + ((2:Int32) * (v2 8))) + (v2 4)))) + (8:Int32)) + (v2 0)) (hP.sub [] rfl) (hK.sub [] rfl) (hD.sub [] (by decide) rfl) hS (by have ev2 := hv2.symm; subst ev2; exact ((if_neg c_5).trans ((if_neg c_6).trans ((if_neg c_7).trans ((if_neg c_8).trans ((if_neg c_9).trans ((if_pos c_10).trans (rfl))))))).symm) rfl
            · by_cases c_11 : (((2:Int32) * (v2 6)) + (v2 5)) = (2:Int32)
              · refine lv_tableIn (off := 69) (tgt := 310) hx hb d_PatternBookModel_spell_241 (by rw [c_11]; decide) (by rw [c_11]; decide) (by rw [c_11]; rfl) (by decide) ?_
                refine lv_bipush (v := 100) hx hb d_PatternBookModel_spell_310 (by decide) ?_
                refine lv_iload hx hb d_PatternBookModel_spell_312 (lv_at hl 4 rfl) ?_
                refine lv_imul hx hb d_PatternBookModel_spell_314 ?_
                refine lv_bipush (v := 10) hx hb d_PatternBookModel_spell_315 (by decide) ?_
                refine lv_bipush (v := 8) hx hb d_PatternBookModel_spell_317 (by decide) ?_
                refine lv_iload hx hb d_PatternBookModel_spell_319 (lv_at hl 8 rfl) ?_
                refine lv_iadd hx hb d_PatternBookModel_spell_321 ?_
                refine lv_imul hx hb d_PatternBookModel_spell_322 ?_
                refine lv_iadd hx hb d_PatternBookModel_spell_323 ?_
                refine lv_bipush (v := 8) hx hb d_PatternBookModel_spell_324 (by decide) ?_
                refine lv_iadd hx hb d_PatternBookModel_spell_326 ?_
                refine lv_iload hx hb d_PatternBookModel_spell_327 (lv_at hl 5 rfl) ?_
                refine lv_iadd hx hb d_PatternBookModel_spell_329 ?_
                refine W.iret hx hb hr ?_ hS.2.2 d_PatternBookModel_spell_330
                exact uEnd (((((100:Int32) * ((((4:Int32) * (v2 9)) + ((2:Int32) * (v2 8))) + (v2 7))) + ((10:Int32) * ((8:Int32) + (v2 4)))) + (8:Int32)) + (v2 0)) (hP.sub [] rfl) (hK.sub [] rfl) (hD.sub [] (by decide) rfl) hS (by have ev2 := hv2.symm; subst ev2; exact ((if_neg c_5).trans ((if_neg c_6).trans ((if_neg c_7).trans ((if_neg c_8).trans ((if_neg c_9).trans ((if_neg c_10).trans ((if_pos c_11).trans (rfl)))))))).symm) rfl
              · refine lv_tableOut (tgt := 331) hx hb d_PatternBookModel_spell_241 (by have z0 := lv_neT c_9 (show (0:Int32).toInt = 0 by decide); have z1 := lv_neT c_10 (show (1:Int32).toInt = 1 by decide); have z2 := lv_neT c_11 (show (2:Int32).toInt = 2 by decide); omega) (by decide) ?_
                refine lv_bipush (v := 100) hx hb d_PatternBookModel_spell_331 (by decide) ?_
                refine lv_bipush (v := 8) hx hb d_PatternBookModel_spell_333 (by decide) ?_
                refine lv_iload hx hb d_PatternBookModel_spell_335 (lv_at hl 11 rfl) ?_
                refine lv_iadd hx hb d_PatternBookModel_spell_337 ?_
                refine lv_imul hx hb d_PatternBookModel_spell_338 ?_
                refine lv_bipush (v := 10) hx hb d_PatternBookModel_spell_339 (by decide) ?_
                refine lv_bipush (v := 8) hx hb d_PatternBookModel_spell_341 (by decide) ?_
                refine lv_iload hx hb d_PatternBookModel_spell_343 (lv_at hl 8 rfl) ?_
                refine lv_iadd hx hb d_PatternBookModel_spell_345 ?_
                refine lv_imul hx hb d_PatternBookModel_spell_346 ?_
                refine lv_iadd hx hb d_PatternBookModel_spell_347 ?_
                refine lv_bipush (v := 8) hx hb d_PatternBookModel_spell_348 (by decide) ?_
                refine lv_iadd hx hb d_PatternBookModel_spell_350 ?_
                refine lv_iload hx hb d_PatternBookModel_spell_351 (lv_at hl 5 rfl) ?_
                refine lv_iadd hx hb d_PatternBookModel_spell_353 ?_
                refine W.iret hx hb hr ?_ hS.2.2 d_PatternBookModel_spell_354
                exact uEnd (((((100:Int32) * ((8:Int32) + (v2 7))) + ((10:Int32) * ((8:Int32) + (v2 4)))) + (8:Int32)) + (v2 0)) (hP.sub [] rfl) (hK.sub [] rfl) (hD.sub [] (by decide) rfl) hS (by have ev2 := hv2.symm; subst ev2; exact ((if_neg c_5).trans ((if_neg c_6).trans ((if_neg c_7).trans ((if_neg c_8).trans ((if_neg c_9).trans ((if_neg c_10).trans ((if_neg c_11).trans (rfl)))))))).symm) rfl
  · refine lv_bipush (v := 100) hx hb d_PatternBookModel_spell_122 (by decide) ?_
    refine lv_iload hx hb d_PatternBookModel_spell_124 (lv_at hl 4 rfl) ?_
    refine lv_imul hx hb d_PatternBookModel_spell_126 ?_
    refine lv_bipush (v := 10) hx hb d_PatternBookModel_spell_127 (by decide) ?_
    refine lv_iload hx hb d_PatternBookModel_spell_129 (lv_at hl 3 rfl) ?_
    refine lv_imul hx hb d_PatternBookModel_spell_131 ?_
    refine lv_iadd hx hb d_PatternBookModel_spell_132 ?_
    refine lv_iconst (v := 4) hx hb d_PatternBookModel_spell_133 (by decide) ?_
    refine lv_iload hx hb d_PatternBookModel_spell_134 (lv_at hl 7 rfl) ?_
    refine lv_imul hx hb d_PatternBookModel_spell_136 ?_
    refine lv_iadd hx hb d_PatternBookModel_spell_137 ?_
    refine lv_iconst (v := 2) hx hb d_PatternBookModel_spell_138 (by decide) ?_
    refine lv_iload hx hb d_PatternBookModel_spell_139 (lv_at hl 6 rfl) ?_
    refine lv_imul hx hb d_PatternBookModel_spell_141 ?_
    refine lv_iadd hx hb d_PatternBookModel_spell_142 ?_
    refine lv_iload hx hb d_PatternBookModel_spell_143 (lv_at hl 5 rfl) ?_
    refine lv_iadd hx hb d_PatternBookModel_spell_145 ?_
    refine W.iret hx hb hr ?_ hS.2.2 d_PatternBookModel_spell_146
    exact uEnd ((((((100:Int32) * ((((4:Int32) * (v2 9)) + ((2:Int32) * (v2 8))) + (v2 7))) + ((10:Int32) * ((((4:Int32) * (v2 6)) + ((2:Int32) * (v2 5))) + (v2 4)))) + ((4:Int32) * (v2 2))) + ((2:Int32) * (v2 1))) + (v2 0)) (hP.sub [] rfl) (hK.sub [] rfl) (hD.sub [] (by decide) rfl) hS (by have ev2 := hv2.symm; subst ev2; exact ((if_pos c_5).trans (rfl)).symm) rfl
set_option maxHeartbeats 4000000 in
set_option maxRecDepth 100000 in
/-- the loop of PatternBookModel.<init> -/
theorem lp_C_M_init2 (l : Launch) (D : va_G) (mo : Nat) (q_1 : Nat) (q_3 : Nat) (q_5 : Nat) (cA2 : ClassId) (cA4 : ClassId) (cA6 : ClassId) (co : Int32) (kd : Int32) (sg : Int32) (ex : Int32) (hi : Int64) (lo : Int64) (lh : Int64) (ll : Int64) {p : Program} {e : Env} {s : State} {m : MethodId} {below : List Frame} {meth : Method} {c : Code} {A : Nat → Prop} {args : Array Value} {F : (Nat → Int64) × (Nat → Int32) × (Nat → Int32)} (hx : p.tables.exec = Jvm.exec) (hb : c.code = b_PatternBookModel_init) (hr : meth.sig.returnType = none) (hts : ∀ w ∈ wt, w.before args s = true) (hown : s.vm.findClass R_PatternBookModel = some m.cls) (hlocks : meth.locks = false) (hml : c.maxLocals = 2) (hA : ∀ q : Nat, s.heap.size ≤ q → A q) (hN : uN s) : ∀ (n : Nat) (bx1 : Int32) (by1_a : (Nat → Int64)) (by2_a : (Nat → Int32)) (by3_a : (Nat → Int32)) (H : Heap) (locs : List Loc) (ls : Array Slot), n ≤ 1025 → mlk_C_M_init2 n bx1 by2_a → mlf_C_M_init2 n bx1 by1_a by2_a by3_a = F → va_K D classes [(cA2, .long), (cA4, .int), (cA6, .int)] s → va_P D classes [(mo, .inr (6, [.int co, .int kd, .int sg, .int ex, .ref q_1, .long hi, .long lo, .long lh, .long ll, .ref q_3, .ref q_5])), (q_1, .inl (cA2, 12, .inr (.inl by1_a))), (q_3, .inl (cA4, 1024, .inl by2_a)), (q_5, .inl (cA6, 1000, .inl by3_a))] H → va_D A [(mo, .inr (6, [.int co, .int kd, .int sg, .int ex, .ref q_1, .long hi, .long lo, .long lh, .long ll, .ref q_3, .ref q_5])), (q_1, .inl (cA2, 12, .inr (.inl by1_a))), (q_3, .inl (cA4, 1024, .inl by2_a)), (q_5, .inl (cA6, 1000, .inl by3_a))] → va_S A s.heap H locs → lv_has ls 2 [(1, .int bx1), (0, .ref mo)] → W p l e (headSpec (wsOf y_PatternBookModel_init b_PatternBookModel_init 2 none) ({ frames := 2, cells := 1028, slots := 12286, locals := 57 })).room s m args below meth c H locs (3 + (1025 - n) * 1) (2036 + (1025 - n) * 10) (MQ below (uQ D classes (fun _ : ((Nat → Int64) × (Nat → Int32) × (Nat → Int32)) × Nat × Nat × Nat × ClassId × ClassId × ClassId => none) (fun u => u.1 = F) A (fun u => [(u.2.2.2.2.1, .long), (u.2.2.2.2.2.1, .int), (u.2.2.2.2.2.2, .int)]) (fun u => [(mo, .inr (6, [.int co, .int kd, .int sg, .int ex, .ref u.2.1, .long hi, .long lo, .long lh, .long ll, .ref u.2.2.1, .ref u.2.2.2.1])), (u.2.1, .inl (u.2.2.2.2.1, 12, .inr (.inl u.1.1))), (u.2.2.1, .inl (u.2.2.2.2.2.1, 1024, .inl u.1.2.1)), (u.2.2.2.1, .inl (u.2.2.2.2.2.2, 1000, .inl u.1.2.2))])) args s 1028 12286 A) (F0 m 54 ls []) := by
  intro n
  induction n with
  | zero => intro bx1 by1_a by2_a by3_a H locs ls hn hk; exact (show False from hk).elim
  | succ n ih =>
    intro bx1 by1_a by2_a by3_a H locs ls hn hk hF hK hP hD hS hl
    unfold mlk_C_M_init2 at hk
    refine lv_iload_n hx hb d_PatternBookModel_init_54 rfl (lv_at hl 0 rfl) ?_
    refine lv_sipush (v := 1024) hx hb d_PatternBookModel_init_55 (by decide) ?_
    refine lv_icmp_ge (tgt := 104) hx hb d_PatternBookModel_init_58 (by decide) (fun c_8 => ?_) (fun c_8 => ?_)
    · refine W.widen (k := 1028) (n := 12286) (by omega) (by omega) ?_
      refine W.vret hx hb hr ?_ hS.2.2 d_PatternBookModel_init_104
      exact uEnd ((by1_a, by2_a, by3_a), q_1, q_3, q_5, cA2, cA4, cA6) (hP.sub [0, 1, 2, 3] rfl) (hK.sub [0, 1, 2] rfl) (hD.sub [0, 1, 2, 3] (by decide) rfl) hS (by  exact (show mlf_C_M_init2 (n + 1) bx1 by1_a by2_a by3_a = _ from (if_pos c_8).trans (rfl)).symm.trans hF) rfl
    · have hk := hk.2 c_8
      refine lv_aload_n hx hb d_PatternBookModel_init_61 rfl (lv_at hl 1 rfl) ?_
      refine va_get (D := D) (ci := 6) (v := .ref q_3) (C := R_PatternBookModel) (T := F_PatternBookModel) (N := 11) hx hb hts i_PatternBookModel hown hK hP 0 rfl rfl 9 (by decide) (hts _ k_305) (fun _ h9 => h9) rfl d_PatternBookModel_init_62 ?_
      refine lv_iload_n hx hb d_PatternBookModel_init_65 rfl (lv_at hl 0 rfl) ?_
      refine lv_iload_n hx hb d_PatternBookModel_init_66 rfl (lv_at hl 0 rfl) ?_
      refine uCall (WR := [(mo, .inr (6, [.int co, .int kd, .int sg, .int ex, .ref q_1, .long hi, .long lo, .long lh, .long ll, .ref q_3, .ref q_5])), (q_1, .inl (cA2, 12, .inr (.inl by1_a))), (q_3, .inl (cA4, 1024, .inl by2_a)), (q_5, .inl (cA6, 1000, .inl by3_a))]) (RT := [(cA2, .long), (cA4, .int), (cA6, .int)]) (va_runS (As := [.int bx1]) (rest := [.int bx1, .ref q_3]) ⟨hx, hb, hml, hown, hts⟩ (c_C_M_spell l D H.size bx1) ⟨uCB 1 hts k_476 k_257 k_477 (by decide +kernel) rfl rfl ⟨Nat.le_of_ble_eq_true rfl, Nat.le_of_ble_eq_true rfl⟩, hts _ k_478⟩ (uPreS hK hP hD hN [] rfl (by decide) [] rfl) rfl rfl hl.1 rfl (lv_room (Nat.le_of_ble_eq_true rfl)) d_PatternBookModel_init_67 ⟨(by show _ ≤ 1028; omega), (by show _ ≤ 12286; omega)⟩) hK hP hD hS hA [] [0, 1, 2, 3] rfl rfl (by decide) (by decide) [0, 1, 2] rfl (fun u9 H locs hu9 hP hD hK hS => ?_)
      have hP : va_P D classes [(mo, .inr (6, [.int co, .int kd, .int sg, .int ex, .ref q_1, .long hi, .long lo, .long lh, .long ll, .ref q_3, .ref q_5])), (q_1, .inl (cA2, 12, .inr (.inl by1_a))), (q_3, .inl (cA4, 1024, .inl by2_a)), (q_5, .inl (cA6, 1000, .inl by3_a))] H := hP
      have hD : va_D A [(mo, .inr (6, [.int co, .int kd, .int sg, .int ex, .ref q_1, .long hi, .long lo, .long lh, .long ll, .ref q_3, .ref q_5])), (q_1, .inl (cA2, 12, .inr (.inl by1_a))), (q_3, .inl (cA4, 1024, .inl by2_a)), (q_5, .inl (cA6, 1000, .inl by3_a))] := hD
      have hK : va_K D classes [(cA2, .long), (cA4, .int), (cA6, .int)] s := hK
      refine W.eq (g2 := F0 m 70 ls [.int u9, .int bx1, .ref q_3]) rfl ?_
      refine W.widen (k := 4 + (1025 - (n + 1)) * 1) (n := 2046 + (1025 - (n + 1)) * 10) (by omega) (by omega) ?_
      have hk := hk u9 hu9
      have hq4 := hk.1
      have hk := hk.2
      refine va_iast hx hb hK hP hD hS 2 1 rfl rfl hq4 d_PatternBookModel_init_70 (fun H locs hP hD hS => ?_)
      have hP : va_P D classes [(mo, .inr (6, [.int co, .int kd, .int sg, .int ex, .ref q_1, .long hi, .long lo, .long lh, .long ll, .ref q_3, .ref q_5])), (q_1, .inl (cA2, 12, .inr (.inl by1_a))), (q_3, .inl (cA4, 1024, .inl (upd by2_a (Int32.toNatClampNeg bx1) u9))), (q_5, .inl (cA6, 1000, .inl by3_a))] H := hP
      have hD : va_D A [(mo, .inr (6, [.int co, .int kd, .int sg, .int ex, .ref q_1, .long hi, .long lo, .long lh, .long ll, .ref q_3, .ref q_5])), (q_1, .inl (cA2, 12, .inr (.inl by1_a))), (q_3, .inl (cA4, 1024, .inl (upd by2_a (Int32.toNatClampNeg bx1) u9))), (q_5, .inl (cA6, 1000, .inl by3_a))] := hD
      refine lv_aload_n hx hb d_PatternBookModel_init_71 rfl (lv_at hl 1 rfl) ?_
      refine va_get (D := D) (ci := 6) (v := .ref q_5) (C := R_PatternBookModel) (T := F_PatternBookModel) (N := 11) hx hb hts i_PatternBookModel hown hK hP 0 rfl rfl 10 (by decide) (hts _ k_351) (fun _ h9 => h9) rfl d_PatternBookModel_init_72 ?_
      refine lv_aload_n hx hb d_PatternBookModel_init_75 rfl (lv_at hl 1 rfl) ?_
      refine va_get (D := D) (ci := 6) (v := .ref q_3) (C := R_PatternBookModel) (T := F_PatternBookModel) (N := 11) hx hb hts i_PatternBookModel hown hK hP 0 rfl rfl 9 (by decide) (hts _ k_305) (fun _ h9 => h9) rfl d_PatternBookModel_init_76 ?_
      refine lv_iload_n hx hb d_PatternBookModel_init_79 rfl (lv_at hl 0 rfl) ?_
      have hq5 := hk.1
      have hk := hk.2
      refine va_iald hx hb hK hP 2 1 rfl rfl hq5 d_PatternBookModel_init_80 ?_
      have hq6 := hk.1
      have hk := hk.2
      refine va_iald hx hb hK hP 3 2 rfl rfl hq6 d_PatternBookModel_init_81 ?_
      refine lv_iconst (v := (-1)) hx hb d_PatternBookModel_init_82 (by decide) ?_
      refine lv_icmp_ne (tgt := 98) hx hb d_PatternBookModel_init_83 (by decide) (fun c_10 => ?_) (fun c_10 => ?_)
      · have hk := hk.2
        refine lv_iinc (v := (bx1 + (1:Int32))) (lv' := [(1, .int (bx1 + (1:Int32))), (0, .ref mo)]) hx hb d_PatternBookModel_init_98 hl (k := 0) rfl rfl (by decide) rfl (fun ls hl => ?_)
        refine lv_goto (tgt := 54) hx hb d_PatternBookModel_init_101 (by decide) ?_
        refine W.widen (k := 3 + (1025 - n) * 1) (n := 2036 + (1025 - n) * 10) (by omega) (by omega) ?_
        exact ih (bx1 + (1:Int32)) by1_a (upd by2_a (Int32.toNatClampNeg bx1) u9) by3_a _ _ _ (by omega) hk (by have eu9 := hu9.symm; subst eu9; exact (show mlf_C_M_init2 (n + 1) bx1 by1_a by2_a by3_a = _ from (if_neg c_8).trans ((if_neg c_10).trans (rfl))).symm.trans hF) (hK.sub [0, 1, 2] rfl) (hP.sub [0, 1, 2, 3] rfl) (hD.sub [0, 1, 2, 3] (by decide) rfl) hS (lv_sub hl [0, 1] rfl)
      · have hk := hk.1
        refine lv_aload_n hx hb d_PatternBookModel_init_86 rfl (lv_at hl 1 rfl) ?_
        refine va_get (D := D) (ci := 6) (v := .ref q_5) (C := R_PatternBookModel) (T := F_PatternBookModel) (N := 11) hx hb hts i_PatternBookModel hown hK hP 0 rfl rfl 10 (by decide) (hts _ k_351) (fun _ h9 => h9) rfl d_PatternBookModel_init_87 ?_
        refine lv_aload_n hx hb d_PatternBookModel_init_90 rfl (lv_at hl 1 rfl) ?_
        refine va_get (D := D) (ci := 6) (v := .ref q_3) (C := R_PatternBookModel) (T := F_PatternBookModel) (N := 11) hx hb hts i_PatternBookModel hown hK hP 0 rfl rfl 9 (by decide) (hts _ k_305) (fun _ h9 => h9) rfl d_PatternBookModel_init_91 ?_
        refine lv_iload_n hx hb d_PatternBookModel_init_94 rfl (lv_at hl 0 rfl) ?_
        have hq8 := hk.1
        have hk := hk.2
        refine va_iald hx hb hK hP 2 1 rfl rfl hq8 d_PatternBookModel_init_95 ?_
        refine lv_iload_n hx hb d_PatternBookModel_init_96 rfl (lv_at hl 0 rfl) ?_
        have hq9 := hk.1
        have hk := hk.2
        refine va_iast hx hb hK hP hD hS 3 2 rfl rfl hq9 d_PatternBookModel_init_97 (fun H locs hP hD hS => ?_)
        have hP : va_P D classes [(mo, .inr (6, [.int co, .int kd, .int sg, .int ex, .ref q_1, .long hi, .long lo, .long lh, .long ll, .ref q_3, .ref q_5])), (q_1, .inl (cA2, 12, .inr (.inl by1_a))), (q_3, .inl (cA4, 1024, .inl (upd by2_a (Int32.toNatClampNeg bx1) u9))), (q_5, .inl (cA6, 1000, .inl (upd by3_a (Int32.toNatClampNeg ((upd by2_a (Int32.toNatClampNeg bx1) u9) (Int32.toNatClampNeg bx1))) bx1)))] H := hP
        have hD : va_D A [(mo, .inr (6, [.int co, .int kd, .int sg, .int ex, .ref q_1, .long hi, .long lo, .long lh, .long ll, .ref q_3, .ref q_5])), (q_1, .inl (cA2, 12, .inr (.inl by1_a))), (q_3, .inl (cA4, 1024, .inl (upd by2_a (Int32.toNatClampNeg bx1) u9))), (q_5, .inl (cA6, 1000, .inl (upd by3_a (Int32.toNatClampNeg ((upd by2_a (Int32.toNatClampNeg bx1) u9) (Int32.toNatClampNeg bx1))) bx1)))] := hD
        refine lv_iinc (v := (bx1 + (1:Int32))) (lv' := [(1, .int (bx1 + (1:Int32))), (0, .ref mo)]) hx hb d_PatternBookModel_init_98 hl (k := 0) rfl rfl (by decide) rfl (fun ls hl => ?_)
        refine lv_goto (tgt := 54) hx hb d_PatternBookModel_init_101 (by decide) ?_
        refine W.widen (k := 3 + (1025 - n) * 1) (n := 2036 + (1025 - n) * 10) (by omega) (by omega) ?_
        exact ih (bx1 + (1:Int32)) by1_a (upd by2_a (Int32.toNatClampNeg bx1) u9) (upd by3_a (Int32.toNatClampNeg ((upd by2_a (Int32.toNatClampNeg bx1) u9) (Int32.toNatClampNeg bx1))) bx1) _ _ _ (by omega) hk (by have eu9 := hu9.symm; subst eu9; exact (show mlf_C_M_init2 (n + 1) bx1 by1_a by2_a by3_a = _ from (if_neg c_8).trans ((if_pos c_10).trans (rfl))).symm.trans hF) (hK.sub [0, 1, 2] rfl) (hP.sub [0, 1, 2, 3] rfl) (hD.sub [0, 1, 2, 3] (by decide) rfl) hS (lv_sub hl [0, 1] rfl)
set_option maxHeartbeats 4000000 in
set_option maxRecDepth 100000 in
/-- the loop of PatternBookModel.<init> -/
theorem lp_C_M_init1 (l : Launch) (D : va_G) (mo : Nat) (q_1 : Nat) (q_3 : Nat) (q_5 : Nat) (cA2 : ClassId) (cA4 : ClassId) (cA6 : ClassId) (co : Int32) (kd : Int32) (sg : Int32) (ex : Int32) (hi : Int64) (lo : Int64) (lh : Int64) (ll : Int64) {p : Program} {e : Env} {s : State} {m : MethodId} {below : List Frame} {meth : Method} {c : Code} {A : Nat → Prop} {args : Array Value} {F : (Nat → Int64) × (Nat → Int32) × (Nat → Int32)} (hx : p.tables.exec = Jvm.exec) (hb : c.code = b_PatternBookModel_init) (hr : meth.sig.returnType = none) (hts : ∀ w ∈ wt, w.before args s = true) (hown : s.vm.findClass R_PatternBookModel = some m.cls) (hlocks : meth.locks = false) (hml : c.maxLocals = 2) (hA : ∀ q : Nat, s.heap.size ≤ q → A q) (hN : uN s) : ∀ (n : Nat) (ax1 : Int32) (ay1_a : (Nat → Int64)) (ay2_a : (Nat → Int32)) (ay3_a : (Nat → Int32)) (H : Heap) (locs : List Loc) (ls : Array Slot), mlk_C_M_init1 n ax1 ay2_a → mlf_C_M_init1 n ax1 ay1_a ay2_a ay3_a = F → va_K D classes [(cA2, .long), (cA4, .int), (cA6, .int)] s → va_P D classes [(mo, .inr (6, [.int co, .int kd, .int sg, .int ex, .ref q_1, .long hi, .long lo, .long lh, .long ll, .ref q_3, .ref q_5])), (q_1, .inl (cA2, 12, .inr (.inl ay1_a))), (q_3, .inl (cA4, 1024, .inl ay2_a)), (q_5, .inl (cA6, 1000, .inl ay3_a))] H → va_D A [(mo, .inr (6, [.int co, .int kd, .int sg, .int ex, .ref q_1, .long hi, .long lo, .long lh, .long ll, .ref q_3, .ref q_5])), (q_1, .inl (cA2, 12, .inr (.inl ay1_a))), (q_3, .inl (cA4, 1024, .inl ay2_a)), (q_5, .inl (cA6, 1000, .inl ay3_a))] → va_S A s.heap H locs → lv_has ls 2 [(1, .int ax1), (0, .ref mo)] → W p l e (headSpec (wsOf y_PatternBookModel_init b_PatternBookModel_init 2 none) ({ frames := 2, cells := 1028, slots := 12286, locals := 57 })).room s m args below meth c H locs (3) (2036) (MQ below (uQ D classes (fun _ : ((Nat → Int64) × (Nat → Int32) × (Nat → Int32)) × Nat × Nat × Nat × ClassId × ClassId × ClassId => none) (fun u => u.1 = F) A (fun u => [(u.2.2.2.2.1, .long), (u.2.2.2.2.2.1, .int), (u.2.2.2.2.2.2, .int)]) (fun u => [(mo, .inr (6, [.int co, .int kd, .int sg, .int ex, .ref u.2.1, .long hi, .long lo, .long lh, .long ll, .ref u.2.2.1, .ref u.2.2.2.1])), (u.2.1, .inl (u.2.2.2.2.1, 12, .inr (.inl u.1.1))), (u.2.2.1, .inl (u.2.2.2.2.2.1, 1024, .inl u.1.2.1)), (u.2.2.2.1, .inl (u.2.2.2.2.2.2, 1000, .inl u.1.2.2))])) args s 1028 12286 A) (F0 m 32 ls []) := by
  intro n
  induction n with
  | zero => intro ax1 ay1_a ay2_a ay3_a H locs ls hk; exact (show False from hk).elim
  | succ n ih =>
    intro ax1 ay1_a ay2_a ay3_a H locs ls hk hF hK hP hD hS hl
    unfold mlk_C_M_init1 at hk
    refine lv_iload_n hx hb d_PatternBookModel_init_32 rfl (lv_at hl 0 rfl) ?_
    refine lv_sipush (v := 1000) hx hb d_PatternBookModel_init_33 (by decide) ?_
    refine lv_icmp_ge (tgt := 52) hx hb d_PatternBookModel_init_36 (by decide) (fun c_7 => ?_) (fun c_7 => ?_)
    · have hk := hk.1 c_7
      refine lv_iconst (v := 0) hx hb d_PatternBookModel_init_52 (by decide) ?_
      refine lv_istore_n (lv' := [(1, .int (0:Int32)), (0, .ref mo)]) hx hb d_PatternBookModel_init_53 rfl hl (by decide) rfl (fun ls hl => ?_)
      exact lp_C_M_init2 l D mo q_1 q_3 q_5 cA2 cA4 cA6 co kd sg ex hi lo lh ll hx hb hr hts hown hlocks hml hA hN 1025 (0:Int32) ay1_a ay2_a ay3_a _ _ _ (Nat.le_refl _) hk (by  exact (show mlf_C_M_init1 (n + 1) ax1 ay1_a ay2_a ay3_a = _ from (if_pos c_7).trans (rfl)).symm.trans hF) hK hP hD hS hl
    · have hk := hk.2 c_7
      refine lv_aload_n hx hb d_PatternBookModel_init_39 rfl (lv_at hl 1 rfl) ?_
      refine va_get (D := D) (ci := 6) (v := .ref q_5) (C := R_PatternBookModel) (T := F_PatternBookModel) (N := 11) hx hb hts i_PatternBookModel hown hK hP 0 rfl rfl 10 (by decide) (hts _ k_351) (fun _ h9 => h9) rfl d_PatternBookModel_init_40 ?_
      refine lv_iload_n hx hb d_PatternBookModel_init_43 rfl (lv_at hl 0 rfl) ?_
      refine lv_iconst (v := (-1)) hx hb d_PatternBookModel_init_44 (by decide) ?_
      have hq10 := hk.1
      have hk := hk.2
      refine va_iast hx hb hK hP hD hS 3 2 rfl rfl hq10 d_PatternBookModel_init_45 (fun H locs hP hD hS => ?_)
      have hP : va_P D classes [(mo, .inr (6, [.int co, .int kd, .int sg, .int ex, .ref q_1, .long hi, .long lo, .long lh, .long ll, .ref q_3, .ref q_5])), (q_1, .inl (cA2, 12, .inr (.inl ay1_a))), (q_3, .inl (cA4, 1024, .inl ay2_a)), (q_5, .inl (cA6, 1000, .inl (upd ay3_a (Int32.toNatClampNeg ax1) (-1:Int32))))] H := hP
      have hD : va_D A [(mo, .inr (6, [.int co, .int kd, .int sg, .int ex, .ref q_1, .long hi, .long lo, .long lh, .long ll, .ref q_3, .ref q_5])), (q_1, .inl (cA2, 12, .inr (.inl ay1_a))), (q_3, .inl (cA4, 1024, .inl ay2_a)), (q_5, .inl (cA6, 1000, .inl (upd ay3_a (Int32.toNatClampNeg ax1) (-1:Int32))))] := hD
      refine lv_iinc (v := (ax1 + (1:Int32))) (lv' := [(1, .int (ax1 + (1:Int32))), (0, .ref mo)]) hx hb d_PatternBookModel_init_46 hl (k := 0) rfl rfl (by decide) rfl (fun ls hl => ?_)
      refine lv_goto (tgt := 32) hx hb d_PatternBookModel_init_49 (by decide) ?_
      exact ih (ax1 + (1:Int32)) ay1_a ay2_a (upd ay3_a (Int32.toNatClampNeg ax1) (-1:Int32)) _ _ _ hk (by  exact (show mlf_C_M_init1 (n + 1) ax1 ay1_a ay2_a ay3_a = _ from (if_neg c_7).trans (rfl)).symm.trans hF) (hK.sub [0, 1, 2] rfl) (hP.sub [0, 1, 2, 3] rfl) (hD.sub [0, 1, 2, 3] (by decide) rfl) hS (lv_sub hl [0, 1] rfl)
set_option maxHeartbeats 4000000 in
set_option maxRecDepth 100000 in
/-- PatternBookModel.<init>()V -/
theorem c_C_M_init (l : Launch) (D : va_G) (mo : Nat) (sz : Nat) (co : Int32) (kd : Int32) (sg : Int32) (ex : Int32) (hi : Int64) (lo : Int64) (lh : Int64) (ll : Int64) (hk : mok_C_M_init) : Met l y_PatternBookModel_init (wsOf y_PatternBookModel_init b_PatternBookModel_init 2 none) ({ frames := 2, cells := 1028, slots := 12286, locals := 57 }) (uP D classes [(mo, .inr (6, [.int co, .int kd, .int sg, .int ex, .null, .long hi, .long lo, .long lh, .long ll, .null, .null]))] [] sz [.ref mo]) (uQ D classes (fun _ : ((Nat → Int64) × (Nat → Int32) × (Nat → Int32)) × Nat × Nat × Nat × ClassId × ClassId × ClassId => none) (fun u => u.1 = (sl m_C_M_init)) (va_A [(mo, .inr (6, [.int co, .int kd, .int sg, .int ex, .null, .long hi, .long lo, .long lh, .long ll, .null, .null]))] sz) (fun u => [(u.2.2.2.2.1, .long), (u.2.2.2.2.2.1, .int), (u.2.2.2.2.2.2, .int)]) (fun u => [(mo, .inr (6, [.int co, .int kd, .int sg, .int ex, .ref u.2.1, .long hi, .long lo, .long lh, .long ll, .ref u.2.2.1, .ref u.2.2.2.1])), (u.2.1, .inl (u.2.2.2.2.1, 12, .inr (.inl u.1.1))), (u.2.2.1, .inl (u.2.2.2.2.2.1, 1024, .inl u.1.2.1)), (u.2.2.2.1, .inl (u.2.2.2.2.2.2, 1000, .inl u.1.2.2))])) 1028 12286 (va_A [(mo, .inr (6, [.int co, .int kd, .int sg, .int ex, .null, .long hi, .long lo, .long lh, .long ll, .null, .null]))] sz) := by
  rw [sl_eq m_C_M_init]
  refine uBegin (by decide +kernel) (Nat.le_of_ble_eq_true rfl) ?_
  intro p e s m below meth c A ls H locs hx hb hr hts hown hlocks hml hin hA hP hK hD hN hS hl
  have hl : lv_has ls 2 [(0, .ref mo)] := hl
  unfold mok_C_M_init at hk
  refine lv_aload_n hx hb d_PatternBookModel_init_0 rfl (lv_at hl 0 rfl) ?_
  refine W.objInit hx hb hown (hts _ k_474) (hts _ k_7) (hts _ k_8) rfl (by rw [hml]; exact hl.1) rfl d_PatternBookModel_init_1 (Nat.le_of_ble_eq_true rfl) (Nat.le_of_ble_eq_true rfl) ?_
  refine W.eq (g2 := F0 m 4 ls []) rfl ?_
  refine lv_aload_n hx hb d_PatternBookModel_init_4 rfl (lv_at hl 0 rfl) ?_
  refine lv_bipush (v := 12) hx hb d_PatternBookModel_init_5 (by decide) ?_
  refine va_newa (atype := .long) (ty := .long) (N' := 12) (a0 := (12, .inr (.inl (fun _ => 0)))) hx hb (hts _ k_475) rfl hK hP hD hS hA (fun _ => rfl) (by decide) rfl (by decide) (Nat.le_of_ble_eq_true rfl) (Nat.le_of_ble_eq_true rfl) d_PatternBookModel_init_7 (fun q_1 cA2 H hK hP hD hS => ?_)
  have hP : va_P D classes [(mo, .inr (6, [.int co, .int kd, .int sg, .int ex, .null, .long hi, .long lo, .long lh, .long ll, .null, .null])), (q_1, .inl (cA2, 12, .inr (.inl (fun _ => 0))))] H := hP
  have hD : va_D A [(mo, .inr (6, [.int co, .int kd, .int sg, .int ex, .null, .long hi, .long lo, .long lh, .long ll, .null, .null])), (q_1, .inl (cA2, 12, .inr (.inl (fun _ => 0))))] := hD
  have hK : va_K D classes [(cA2, .long)] s := hK
  refine W.widen (k := 1) (n := 12) (Nat.le_of_ble_eq_true rfl) (Nat.le_of_ble_eq_true rfl) ?_
  refine va_putF (D := D) (ci := 6) (v := .ref q_1) (ty := (.array .long)) (C := R_PatternBookModel) (T := F_PatternBookModel) (N := 11) hx hb hts i_PatternBookModel t_PatternBookModel t_PatternBookModel_ok n_PatternBookModel hown hK hP hD hS 0 rfl rfl 4 (by decide) (hts _ k_263) (fun _ h9 => h9) rfl hin rfl (by decide +kernel) rfl rfl (Nat.le_of_ble_eq_true rfl) d_PatternBookModel_init_9 (fun H locs hP hD hS => ?_)
  have hP : va_P D classes [(mo, .inr (6, [.int co, .int kd, .int sg, .int ex, .ref q_1, .long hi, .long lo, .long lh, .long ll, .null, .null])), (q_1, .inl (cA2, 12, .inr (.inl (fun _ => 0))))] H := hP
  have hD : va_D A [(mo, .inr (6, [.int co, .int kd, .int sg, .int ex, .ref q_1, .long hi, .long lo, .long lh, .long ll, .null, .null])), (q_1, .inl (cA2, 12, .inr (.inl (fun _ => 0))))] := hD
  refine lv_aload_n hx hb d_PatternBookModel_init_12 rfl (lv_at hl 0 rfl) ?_
  refine lv_sipush (v := 1024) hx hb d_PatternBookModel_init_13 (by decide) ?_
  refine va_newa (atype := .int) (ty := .int) (N' := 1024) (a0 := (1024, .inl (fun _ => 0))) hx hb (hts _ k_470) rfl hK hP hD hS hA (fun _ => rfl) (by decide) rfl (by decide) (Nat.le_of_ble_eq_true rfl) (Nat.le_of_ble_eq_true rfl) d_PatternBookModel_init_16 (fun q_3 cA4 H hK hP hD hS => ?_)
  have hP : va_P D classes [(mo, .inr (6, [.int co, .int kd, .int sg, .int ex, .ref q_1, .long hi, .long lo, .long lh, .long ll, .null, .null])), (q_1, .inl (cA2, 12, .inr (.inl (fun _ => 0)))), (q_3, .inl (cA4, 1024, .inl (fun _ => 0)))] H := hP
  have hD : va_D A [(mo, .inr (6, [.int co, .int kd, .int sg, .int ex, .ref q_1, .long hi, .long lo, .long lh, .long ll, .null, .null])), (q_1, .inl (cA2, 12, .inr (.inl (fun _ => 0)))), (q_3, .inl (cA4, 1024, .inl (fun _ => 0)))] := hD
  have hK : va_K D classes [(cA2, .long), (cA4, .int)] s := hK
  refine W.widen (k := 2) (n := 1036) (Nat.le_of_ble_eq_true rfl) (Nat.le_of_ble_eq_true rfl) ?_
  refine va_putF (D := D) (ci := 6) (v := .ref q_3) (ty := (.array .int)) (C := R_PatternBookModel) (T := F_PatternBookModel) (N := 11) hx hb hts i_PatternBookModel t_PatternBookModel t_PatternBookModel_ok n_PatternBookModel hown hK hP hD hS 0 rfl rfl 9 (by decide) (hts _ k_305) (fun _ h9 => h9) rfl hin rfl (by decide +kernel) rfl rfl (Nat.le_of_ble_eq_true rfl) d_PatternBookModel_init_18 (fun H locs hP hD hS => ?_)
  have hP : va_P D classes [(mo, .inr (6, [.int co, .int kd, .int sg, .int ex, .ref q_1, .long hi, .long lo, .long lh, .long ll, .ref q_3, .null])), (q_1, .inl (cA2, 12, .inr (.inl (fun _ => 0)))), (q_3, .inl (cA4, 1024, .inl (fun _ => 0)))] H := hP
  have hD : va_D A [(mo, .inr (6, [.int co, .int kd, .int sg, .int ex, .ref q_1, .long hi, .long lo, .long lh, .long ll, .ref q_3, .null])), (q_1, .inl (cA2, 12, .inr (.inl (fun _ => 0)))), (q_3, .inl (cA4, 1024, .inl (fun _ => 0)))] := hD
  refine lv_aload_n hx hb d_PatternBookModel_init_21 rfl (lv_at hl 0 rfl) ?_
  refine lv_sipush (v := 1000) hx hb d_PatternBookModel_init_22 (by decide) ?_
  refine va_newa (atype := .int) (ty := .int) (N' := 1000) (a0 := (1000, .inl (fun _ => 0))) hx hb (hts _ k_470) rfl hK hP hD hS hA (fun _ => rfl) (by decide) rfl (by decide) (Nat.le_of_ble_eq_true rfl) (Nat.le_of_ble_eq_true rfl) d_PatternBookModel_init_25 (fun q_5 cA6 H hK hP hD hS => ?_)
  have hP : va_P D classes [(mo, .inr (6, [.int co, .int kd, .int sg, .int ex, .ref q_1, .long hi, .long lo, .long lh, .long ll, .ref q_3, .null])), (q_1, .inl (cA2, 12, .inr (.inl (fun _ => 0)))), (q_3, .inl (cA4, 1024, .inl (fun _ => 0))), (q_5, .inl (cA6, 1000, .inl (fun _ => 0)))] H := hP
  have hD : va_D A [(mo, .inr (6, [.int co, .int kd, .int sg, .int ex, .ref q_1, .long hi, .long lo, .long lh, .long ll, .ref q_3, .null])), (q_1, .inl (cA2, 12, .inr (.inl (fun _ => 0)))), (q_3, .inl (cA4, 1024, .inl (fun _ => 0))), (q_5, .inl (cA6, 1000, .inl (fun _ => 0)))] := hD
  have hK : va_K D classes [(cA2, .long), (cA4, .int), (cA6, .int)] s := hK
  refine W.widen (k := 3) (n := 2036) (Nat.le_of_ble_eq_true rfl) (Nat.le_of_ble_eq_true rfl) ?_
  refine va_putF (D := D) (ci := 6) (v := .ref q_5) (ty := (.array .int)) (C := R_PatternBookModel) (T := F_PatternBookModel) (N := 11) hx hb hts i_PatternBookModel t_PatternBookModel t_PatternBookModel_ok n_PatternBookModel hown hK hP hD hS 0 rfl rfl 10 (by decide) (hts _ k_351) (fun _ h9 => h9) rfl hin rfl (by decide +kernel) rfl rfl (Nat.le_of_ble_eq_true rfl) d_PatternBookModel_init_27 (fun H locs hP hD hS => ?_)
  have hP : va_P D classes [(mo, .inr (6, [.int co, .int kd, .int sg, .int ex, .ref q_1, .long hi, .long lo, .long lh, .long ll, .ref q_3, .ref q_5])), (q_1, .inl (cA2, 12, .inr (.inl (fun _ => 0)))), (q_3, .inl (cA4, 1024, .inl (fun _ => 0))), (q_5, .inl (cA6, 1000, .inl (fun _ => 0)))] H := hP
  have hD : va_D A [(mo, .inr (6, [.int co, .int kd, .int sg, .int ex, .ref q_1, .long hi, .long lo, .long lh, .long ll, .ref q_3, .ref q_5])), (q_1, .inl (cA2, 12, .inr (.inl (fun _ => 0)))), (q_3, .inl (cA4, 1024, .inl (fun _ => 0))), (q_5, .inl (cA6, 1000, .inl (fun _ => 0)))] := hD
  refine lv_iconst (v := 0) hx hb d_PatternBookModel_init_30 (by decide) ?_
  refine lv_istore_n (lv' := [(1, .int (0:Int32)), (0, .ref mo)]) hx hb d_PatternBookModel_init_31 rfl hl (by decide) rfl (fun ls hl => ?_)
  exact lp_C_M_init1 l D mo q_1 q_3 q_5 cA2 cA4 cA6 co kd sg ex hi lo lh ll hx hb hr hts hown hlocks hml hA hN 1001 (0:Int32) (fun _ => 0) (fun _ => 0) (fun _ => 0) _ _ _ hk (by  exact (rfl).symm) hK hP hD hS hl
