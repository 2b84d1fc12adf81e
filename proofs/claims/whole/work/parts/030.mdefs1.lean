/-! a value behind a choice: equal to what it was made of, but never unfolded -/
theorem sl_ex {α : Type} (x : α) : ∃ y, y = x := ⟨x, rfl⟩
noncomputable def sl {α : Type} (x : α) : α := Classical.choose (sl_ex x)
theorem sl_eq {α : Type} (x : α) : sl x = x := Classical.choose_spec (sl_ex x)
noncomputable def m_Long_compare (x : Int64) (y : Int64) : Int32 :=
  if (0:Int32) ≤ (lg_cmp x y) then
    if (lg_cmp x y) = (0:Int32) then
      (0:Int32)
    else
      (1:Int32)
  else
    (-1:Int32)
theorem m_Long_compare_f : sl m_Long_compare = f_Long_compare := (sl_eq m_Long_compare).trans (by delta m_Long_compare f_Long_compare; rfl)
noncomputable def m_Long_compareU (x : Int64) (y : Int64) : Int32 :=
  let u1 := ((sl m_Long_compare) (x + (-9223372036854775808:Int64)) (y + (-9223372036854775808:Int64)))
  u1
theorem m_Long_compareU_f : sl m_Long_compareU = f_Long_compareU := (sl_eq m_Long_compareU).trans (by delta m_Long_compareU f_Long_compareU; first | (rw [m_Long_compare_f]; done) | (rw [m_Long_compare_f]; rfl))
noncomputable def m_W_ones (x : Int32) : Int64 :=
  ((lshl_ (1:Int64) x) - (1:Int64))
theorem m_W_ones_f : sl m_W_ones = f_W_ones := (sl_eq m_W_ones).trans (by delta m_W_ones f_W_ones; rfl)
noncomputable def m_W_set (x : Int64) (y : Int64) : Int64 × Int64 :=
  (x, y)
theorem m_W_set_f : sl m_W_set = f_W_set := (sl_eq m_W_set).trans (by delta m_W_set f_W_set; rfl)
noncomputable def m_W_copy (oh : Int64) (ol : Int64) : Int64 × Int64 :=
  let u1 := ((sl m_W_set) oh ol)
  (u1.1, u1.2)
theorem m_W_copy_f : sl m_W_copy = f_W_copy := (sl_eq m_W_copy).trans (by delta m_W_copy f_W_copy; first | (rw [m_W_set_f]; done) | (rw [m_W_set_f]; rfl))
noncomputable def m_W_half (x : Bool) (wh : Int64) (wl : Int64) : Int64 :=
  if (bI x) = (0:Int32) then
    wl
  else
    wh
theorem m_W_half_f : sl m_W_half = f_W_half := (sl_eq m_W_half).trans (by delta m_W_half f_W_half; rfl)
noncomputable def m_W_isZero (wh : Int64) (wl : Int64) : Bool :=
  if (lg_cmp wh (0:Int64)) = (0:Int32) then
    if (lg_cmp wl (0:Int64)) = (0:Int32) then
      true
    else
      false
  else
    false
theorem m_W_isZero_f : sl m_W_isZero = f_W_isZero := (sl_eq m_W_isZero).trans (by delta m_W_isZero f_W_isZero; rfl)
noncomputable def m_W_isSame (wh : Int64) (wl : Int64) (oh : Int64) (ol : Int64) : Bool :=
  if (lg_cmp wh oh) = (0:Int32) then
    if (lg_cmp wl ol) = (0:Int32) then
      true
    else
      false
  else
    false
theorem m_W_isSame_f : sl m_W_isSame = f_W_isSame := (sl_eq m_W_isSame).trans (by delta m_W_isSame f_W_isSame; rfl)
noncomputable def m_W_isAbove (wh : Int64) (wl : Int64) (oh : Int64) (ol : Int64) : Bool :=
  if (lg_cmp wh oh) = (0:Int32) then
    let u4 := ((sl m_Long_compareU) wl ol)
    if u4 ≤ (0:Int32) then
      false
    else
      true
  else
    let u2 := ((sl m_Long_compareU) wh oh)
    if u2 ≤ (0:Int32) then
      false
    else
      true
theorem m_W_isAbove_f : sl m_W_isAbove = f_W_isAbove := (sl_eq m_W_isAbove).trans (by delta m_W_isAbove f_W_isAbove; first | (rw [m_Long_compareU_f]; done) | (rw [m_Long_compareU_f]; rfl))
noncomputable def m_W_fits (x : Int32) (wh : Int64) (wl : Int64) : Bool :=
  if x < (64:Int32) then
    if (lg_cmp wh (0:Int64)) = (0:Int32) then
      if (lg_cmp (lushr_ wl x) (0:Int64)) = (0:Int32) then
        true
      else
        false
    else
      false
  else
    if (lg_cmp (lushr_ wh (x - (64:Int32))) (0:Int64)) = (0:Int32) then
      true
    else
      false
theorem m_W_fits_f : sl m_W_fits = f_W_fits := (sl_eq m_W_fits).trans (by delta m_W_fits f_W_fits; rfl)
noncomputable def m_W_keep (x : Int32) (wh : Int64) (wl : Int64) : Int64 × Int64 :=
  if x < (128:Int32) then
    if x < (64:Int32) then
      let u3 := ((sl m_W_ones) x)
      ((0:Int64), (wl &&& u3))
    else
      let u4 := ((sl m_W_ones) (x - (64:Int32)))
      ((wh &&& u4), wl)
  else
    (wh, wl)
theorem m_W_keep_f : sl m_W_keep = f_W_keep := (sl_eq m_W_keep).trans (by delta m_W_keep f_W_keep; first | (rw [m_W_ones_f]; done) | (rw [m_W_ones_f]; rfl))
noncomputable def m_W_bitsAt (x : Int32) (y : Int32) (wh : Int64) (wl : Int64) : Int64 :=
  if x < (64:Int32) then
    if x = (0:Int32) then
      let u4 := ((sl m_W_ones) y)
      (wl &&& u4)
    else
      let u3 := ((sl m_W_ones) y)
      (((lushr_ wl x) ||| (lshl_ wh ((64:Int32) - x))) &&& u3)
  else
    let u5 := ((sl m_W_ones) y)
    ((lushr_ wh (x - (64:Int32))) &&& u5)
theorem m_W_bitsAt_f : sl m_W_bitsAt = f_W_bitsAt := (sl_eq m_W_bitsAt).trans (by delta m_W_bitsAt f_W_bitsAt; first | (rw [m_W_ones_f]; done) | (rw [m_W_ones_f]; rfl))
noncomputable def m_W_addBits (x : Int32) (y : Int64) (wh : Int64) (wl : Int64) : Int64 × Int64 :=
  if x < (64:Int32) then
    if x ≤ (0:Int32) then
      (wh, (wl ||| (lshl_ y x)))
    else
      ((wh ||| (lushr_ y ((64:Int32) - x))), (wl ||| (lshl_ y x)))
  else
    ((wh ||| (lshl_ y (x - (64:Int32)))), wl)
theorem m_W_addBits_f : sl m_W_addBits = f_W_addBits := (sl_eq m_W_addBits).trans (by delta m_W_addBits f_W_addBits; rfl)
noncomputable def m_W_times (x : Int32) (y : Int32) (wh : Int64) (wl : Int64) : Int64 × Int64 :=
  let z1 := (((wl &&& (4294967295:Int64)) * (Int32.toInt64 x)) + (Int32.toInt64 y))
  let z2 := (((lushr_ wl (32:Int32)) * (Int32.toInt64 x)) + (lushr_ z1 (32:Int32)))
  let z3 := (((wh &&& (4294967295:Int64)) * (Int32.toInt64 x)) + (lushr_ z2 (32:Int32)))
  let z4 := (((lushr_ wh (32:Int32)) * (Int32.toInt64 x)) + (lushr_ z3 (32:Int32)))
  (((lshl_ z4 (32:Int32)) ||| (z3 &&& (4294967295:Int64))), ((lshl_ z2 (32:Int32)) ||| (z1 &&& (4294967295:Int64))))
theorem m_W_times_f : sl m_W_times = f_W_times := (sl_eq m_W_times).trans (by delta m_W_times f_W_times; rfl)
noncomputable def m_W_take (wh : Int64) (wl : Int64) : Int32 × Int64 × Int64 :=
  let z1 := ((lshl_ ((lushr_ wh (32:Int32)) - (lushr_ wh (32:Int32)) / (1000:Int64) * (1000:Int64)) (32:Int32)) ||| (wh &&& (4294967295:Int64)))
  let z2 := ((lshl_ (z1 - z1 / (1000:Int64) * (1000:Int64)) (32:Int32)) ||| (lushr_ wl (32:Int32)))
  let z3 := ((lshl_ (z2 - z2 / (1000:Int64) * (1000:Int64)) (32:Int32)) ||| (wl &&& (4294967295:Int64)))
  ((Int64.toInt32 (z3 - z3 / (1000:Int64) * (1000:Int64))), ((lshl_ ((lushr_ wh (32:Int32)) / (1000:Int64)) (32:Int32)) ||| (z1 / (1000:Int64))), ((lshl_ (z2 / (1000:Int64)) (32:Int32)) ||| (z3 / (1000:Int64))))
theorem m_W_take_f : sl m_W_take = f_W_take := (sl_eq m_W_take).trans (by delta m_W_take f_W_take; rfl)
noncomputable def m_D_init : Int32 × Bool × Int32 × Int64 × Int64 :=
  ((0:Int32), false, (0:Int32), 0, 0)
theorem m_D_init_f : sl m_D_init = f_D_init := (sl_eq m_D_init).trans (by delta m_D_init f_D_init; rfl)
noncomputable def m_D_become (x : Int32) (y : Int32) (bh : Int64) (bl : Int64) : Int32 × Int32 × Int64 × Int64 :=
  if x = (0:Int32) then
    if x = (1:Int32) then
      let u5 := ((sl m_W_set) (0:Int64) (0:Int64))
      (x, y, u5.1, u5.2)
    else
      (x, y, bh, bl)
  else
    if x = (1:Int32) then
      let u3 := ((sl m_W_set) (0:Int64) (0:Int64))
      (x, (0:Int32), u3.1, u3.2)
    else
      (x, (0:Int32), bh, bl)
theorem m_D_become_f : sl m_D_become = f_D_become := (sl_eq m_D_become).trans (by delta m_D_become f_D_become; first | (rw [m_W_set_f]; done) | (rw [m_W_set_f]; rfl))
noncomputable def m_E_join (x : Int32) (y : Int32) (z : Int32) : Int32 :=
  ((((100:Int32) * x) + ((10:Int32) * y)) + z)
theorem m_E_join_f : sl m_E_join = f_E_join := (sl_eq m_E_join).trans (by delta m_E_join f_E_join; rfl)
noncomputable def m_E_bits (x : Int32) (y : Int32) (z : Int32) : Int32 :=
  (((x <<< ((7:Int32) &&& 31)) ||| (y <<< ((4:Int32) &&& 31))) ||| z)
theorem m_E_bits_f : sl m_E_bits = f_E_bits := (sl_eq m_E_bits).trans (by delta m_E_bits f_E_bits; rfl)
noncomputable def m_E_two (x : Int32) (y : Int32) (z : Int32) : Int32 :=
  if (y >>> ((1:Int32) &&& 31)) = (0:Int32) then
    let u2 := ((sl m_E_join) ((8:Int32) + (x &&& (1:Int32))) ((8:Int32) + (y &&& (1:Int32))) ((x &&& (6:Int32)) + z))
    u2
  else
    if (y >>> ((1:Int32) &&& 31)) = (1:Int32) then
      let u4 := ((sl m_E_join) ((8:Int32) + (x &&& (1:Int32))) ((x &&& (6:Int32)) + (y &&& (1:Int32))) ((8:Int32) + z))
      u4
    else
      if (y >>> ((1:Int32) &&& 31)) = (2:Int32) then
        let u6 := ((sl m_E_join) x ((8:Int32) + (y &&& (1:Int32))) ((8:Int32) + z))
        u6
      else
        let u7 := ((sl m_E_join) ((8:Int32) + (x &&& (1:Int32))) ((8:Int32) + (y &&& (1:Int32))) ((8:Int32) + z))
        u7
theorem m_E_two_f : sl m_E_two = f_E_two := (sl_eq m_E_two).trans (by delta m_E_two f_E_two; first | (rw [m_E_join_f]; done) | (rw [m_E_join_f]; rfl))
noncomputable def m_E_read (x : Int32) : Int32 :=
  if (x &&& (8:Int32)) = (0:Int32) then
    let u9 := ((sl m_E_join) ((x >>> ((7:Int32) &&& 31)) &&& (7:Int32)) ((x >>> ((4:Int32) &&& 31)) &&& (7:Int32)) (x &&& (7:Int32)))
    u9
  else
    if ((x &&& (7:Int32)) >>> ((1:Int32) &&& 31)) = (0:Int32) then
      let u3 := ((sl m_E_join) ((x >>> ((7:Int32) &&& 31)) &&& (7:Int32)) ((x >>> ((4:Int32) &&& 31)) &&& (7:Int32)) ((8:Int32) + ((x &&& (7:Int32)) &&& (1:Int32))))
      u3
    else
      if ((x &&& (7:Int32)) >>> ((1:Int32) &&& 31)) = (1:Int32) then
        let u5 := ((sl m_E_join) ((x >>> ((7:Int32) &&& 31)) &&& (7:Int32)) ((8:Int32) + (((x >>> ((4:Int32) &&& 31)) &&& (7:Int32)) &&& (1:Int32))) ((((x >>> ((4:Int32) &&& 31)) &&& (7:Int32)) &&& (6:Int32)) + ((x &&& (7:Int32)) &&& (1:Int32))))
        u5
      else
        if ((x &&& (7:Int32)) >>> ((1:Int32) &&& 31)) = (2:Int32) then
          let u7 := ((sl m_E_join) ((8:Int32) + (((x >>> ((7:Int32) &&& 31)) &&& (7:Int32)) &&& (1:Int32))) ((x >>> ((4:Int32) &&& 31)) &&& (7:Int32)) ((((x >>> ((7:Int32) &&& 31)) &&& (7:Int32)) &&& (6:Int32)) + ((x &&& (7:Int32)) &&& (1:Int32))))
          u7
        else
          let u8 := ((sl m_E_two) ((x >>> ((7:Int32) &&& 31)) &&& (7:Int32)) ((x >>> ((4:Int32) &&& 31)) &&& (7:Int32)) ((x &&& (7:Int32)) &&& (1:Int32)))
          u8
theorem m_E_read_f : sl m_E_read = f_E_read := (sl_eq m_E_read).trans (by delta m_E_read f_E_read; first | (rw [m_E_join_f, m_E_two_f]; done) | (rw [m_E_join_f, m_E_two_f]; rfl))
noncomputable def m_E_write (x : Int32) : Int32 :=
  let z1 := (((x / (10:Int32)) - (x / (10:Int32)) / (10:Int32) * (10:Int32)) &&& (1:Int32))
  if (((((x / (100:Int32)) &&& (8:Int32)) >>> ((1:Int32) &&& 31)) ||| ((((x / (10:Int32)) - (x / (10:Int32)) / (10:Int32) * (10:Int32)) &&& (8:Int32)) >>> ((2:Int32) &&& 31))) ||| (((x - x / (10:Int32) * (10:Int32)) &&& (8:Int32)) >>> ((3:Int32) &&& 31))) = (0:Int32) then
    let u3 := ((sl m_E_bits) (x / (100:Int32)) ((x / (10:Int32)) - (x / (10:Int32)) / (10:Int32) * (10:Int32)) (x - x / (10:Int32) * (10:Int32)))
    u3
  else
    if (((((x / (100:Int32)) &&& (8:Int32)) >>> ((1:Int32) &&& 31)) ||| ((((x / (10:Int32)) - (x / (10:Int32)) / (10:Int32) * (10:Int32)) &&& (8:Int32)) >>> ((2:Int32) &&& 31))) ||| (((x - x / (10:Int32) * (10:Int32)) &&& (8:Int32)) >>> ((3:Int32) &&& 31))) = (1:Int32) then
      let u5 := ((sl m_E_bits) (x / (100:Int32)) ((x / (10:Int32)) - (x / (10:Int32)) / (10:Int32) * (10:Int32)) ((8:Int32) ||| ((x - x / (10:Int32) * (10:Int32)) &&& (1:Int32))))
      u5
    else
      if (((((x / (100:Int32)) &&& (8:Int32)) >>> ((1:Int32) &&& 31)) ||| ((((x / (10:Int32)) - (x / (10:Int32)) / (10:Int32) * (10:Int32)) &&& (8:Int32)) >>> ((2:Int32) &&& 31))) ||| (((x - x / (10:Int32) * (10:Int32)) &&& (8:Int32)) >>> ((3:Int32) &&& 31))) = (2:Int32) then
        let u7 := ((sl m_E_bits) (x / (100:Int32)) (((x - x / (10:Int32) * (10:Int32)) &&& (6:Int32)) ||| z1) ((10:Int32) ||| ((x - x / (10:Int32) * (10:Int32)) &&& (1:Int32))))
        u7
      else
        if (((((x / (100:Int32)) &&& (8:Int32)) >>> ((1:Int32) &&& 31)) ||| ((((x / (10:Int32)) - (x / (10:Int32)) / (10:Int32) * (10:Int32)) &&& (8:Int32)) >>> ((2:Int32) &&& 31))) ||| (((x - x / (10:Int32) * (10:Int32)) &&& (8:Int32)) >>> ((3:Int32) &&& 31))) = (3:Int32) then
          let u9 := ((sl m_E_bits) (x / (100:Int32)) ((4:Int32) ||| z1) ((14:Int32) ||| ((x - x / (10:Int32) * (10:Int32)) &&& (1:Int32))))
          u9
        else
          if (((((x / (100:Int32)) &&& (8:Int32)) >>> ((1:Int32) &&& 31)) ||| ((((x / (10:Int32)) - (x / (10:Int32)) / (10:Int32) * (10:Int32)) &&& (8:Int32)) >>> ((2:Int32) &&& 31))) ||| (((x - x / (10:Int32) * (10:Int32)) &&& (8:Int32)) >>> ((3:Int32) &&& 31))) = (4:Int32) then
            let u11 := ((sl m_E_bits) (((x - x / (10:Int32) * (10:Int32)) &&& (6:Int32)) ||| ((x / (100:Int32)) &&& (1:Int32))) ((x / (10:Int32)) - (x / (10:Int32)) / (10:Int32) * (10:Int32)) ((12:Int32) ||| ((x - x / (10:Int32) * (10:Int32)) &&& (1:Int32))))
            u11
          else
            if (((((x / (100:Int32)) &&& (8:Int32)) >>> ((1:Int32) &&& 31)) ||| ((((x / (10:Int32)) - (x / (10:Int32)) / (10:Int32) * (10:Int32)) &&& (8:Int32)) >>> ((2:Int32) &&& 31))) ||| (((x - x / (10:Int32) * (10:Int32)) &&& (8:Int32)) >>> ((3:Int32) &&& 31))) = (5:Int32) then
              let u13 := ((sl m_E_bits) ((((x / (10:Int32)) - (x / (10:Int32)) / (10:Int32) * (10:Int32)) &&& (6:Int32)) ||| ((x / (100:Int32)) &&& (1:Int32))) ((2:Int32) ||| z1) ((14:Int32) ||| ((x - x / (10:Int32) * (10:Int32)) &&& (1:Int32))))
              u13
            else
              if (((((x / (100:Int32)) &&& (8:Int32)) >>> ((1:Int32) &&& 31)) ||| ((((x / (10:Int32)) - (x / (10:Int32)) / (10:Int32) * (10:Int32)) &&& (8:Int32)) >>> ((2:Int32) &&& 31))) ||| (((x - x / (10:Int32) * (10:Int32)) &&& (8:Int32)) >>> ((3:Int32) &&& 31))) = (6:Int32) then
                let u15 := ((sl m_E_bits) (((x - x / (10:Int32) * (10:Int32)) &&& (6:Int32)) ||| ((x / (100:Int32)) &&& (1:Int32))) z1 ((14:Int32) ||| ((x - x / (10:Int32) * (10:Int32)) &&& (1:Int32))))
                u15
              else
                let u16 := ((sl m_E_bits) ((x / (100:Int32)) &&& (1:Int32)) ((6:Int32) ||| z1) ((14:Int32) ||| ((x - x / (10:Int32) * (10:Int32)) &&& (1:Int32))))
                u16
theorem m_E_write_f : sl m_E_write = f_E_write := (sl_eq m_E_write).trans (by delta m_E_write f_E_write; first | (rw [m_E_bits_f]; done) | (rw [m_E_bits_f]; rfl))
noncomputable def m_B_hasNumber (fp : Int32) (fl : Int32) (ft : Int32) (ex : Int32) (bh : Int64) (bl : Int64) : Bool :=
  let u1 := ((sl m_W_fits) ft bh bl)
  if (bI u1) = (0:Int32) then
    let u3 := ((sl m_W_fits) fp bh bl)
    u3
  else
    if ex = fl then
      true
    else
      false
theorem m_B_hasNumber_f : sl m_B_hasNumber = f_B_hasNumber := (sl_eq m_B_hasNumber).trans (by delta m_B_hasNumber f_B_hasNumber; first | (rw [m_W_fits_f]; done) | (rw [m_W_fits_f]; rfl))
noncomputable def m_B_hasNan (ft : Int32) (kd : Int32) (bh : Int64) (bl : Int64) : Bool :=
  if kd = (3:Int32) then
    let u5 := ((sl m_W_isZero) bh bl)
    if (bI u5) = (0:Int32) then
      let u7 := ((sl m_W_fits) (ft - (1:Int32)) bh bl)
      if (bI u7) = (0:Int32) then
        false
      else
        true
    else
      let u10 := ((sl m_W_fits) (ft - (1:Int32)) bh bl)
      if (bI u10) = (0:Int32) then
        false
      else
        false
  else
    let u2 := ((sl m_W_fits) (ft - (1:Int32)) bh bl)
    if (bI u2) = (0:Int32) then
      false
    else
      true
theorem m_B_hasNan_f : sl m_B_hasNan = f_B_hasNan := (sl_eq m_B_hasNan).trans (by delta m_B_hasNan f_B_hasNan; first | (rw [m_W_isZero_f, m_W_fits_f]; done) | (rw [m_W_isZero_f, m_W_fits_f]; rfl))
noncomputable def m_B_special (ft : Int32) (bh : Int64) (bl : Int64) : Int32 × Int32 × Int64 × Int64 :=
  let u1 := ((sl m_W_isZero) bh bl)
  if (bI u1) = (0:Int32) then
    let u3 := ((sl m_W_bitsAt) (ft - (1:Int32)) (1:Int32) bh bl)
    if (lg_cmp u3 (1:Int64)) = (0:Int32) then
      let u8 := ((sl m_W_keep) (ft - (1:Int32)) bh bl)
      let u10 := ((sl m_D_become) (2:Int32) (0:Int32) u8.1 u8.2)
      (u10.1, u10.2.1, u10.2.2.1, u10.2.2.2)
    else
      let u5 := ((sl m_W_keep) (ft - (1:Int32)) bh bl)
      let u7 := ((sl m_D_become) (3:Int32) (0:Int32) u5.1 u5.2)
      (u7.1, u7.2.1, u7.2.2.1, u7.2.2.2)
  else
    let u11 := ((sl m_D_become) (1:Int32) (0:Int32) bh bl)
    (u11.1, u11.2.1, u11.2.2.1, u11.2.2.2)
theorem m_B_special_f : sl m_B_special = f_B_special := (sl_eq m_B_special).trans (by delta m_B_special f_B_special; first | (rw [m_W_isZero_f, m_W_bitsAt_f, m_W_keep_f, m_D_become_f]; done) | (rw [m_W_isZero_f, m_W_bitsAt_f, m_W_keep_f, m_D_become_f]; rfl))
noncomputable def m_B_readU (fl : Int32) (ft : Int32) (ff : Int32) (fu : Int64) (wh : Int64) (wl : Int64) : Int32 × Int32 × Int64 × Int64 :=
  let u1 := ((sl m_W_bitsAt) ft ff wh wl)
  let u2 := ((sl m_W_copy) wh wl)
  let u3 := ((sl m_W_keep) ft u2.1 u2.2)
  if (lg_cmp u1 fu) = (0:Int32) then
    let u9 := ((sl m_B_special) ft u3.1 u3.2)
    (u9.1, u9.2.1, u9.2.2.1, u9.2.2.2)
  else
    if (lg_cmp u1 (0:Int64)) = (0:Int32) then
      let u8 := ((sl m_D_become) (0:Int32) fl u3.1 u3.2)
      (u8.1, u8.2.1, u8.2.2.1, u8.2.2.2)
    else
      let u6 := ((sl m_W_addBits) ft (1:Int64) u3.1 u3.2)
      let u7 := ((sl m_D_become) (0:Int32) (((Int64.toInt32 u1) - (1:Int32)) + fl) u6.1 u6.2)
      (u7.1, u7.2.1, u7.2.2.1, u7.2.2.2)
theorem m_B_readU_f : sl m_B_readU = f_B_readU := (sl_eq m_B_readU).trans (by delta m_B_readU f_B_readU; first | (rw [m_W_bitsAt_f, m_W_copy_f, m_W_keep_f, m_B_special_f, m_D_become_f, m_W_addBits_f]; done) | (rw [m_W_bitsAt_f, m_W_copy_f, m_W_keep_f, m_B_special_f, m_D_become_f, m_W_addBits_f]; rfl))
noncomputable def m_B_fieldOf (fl : Int32) (ft : Int32) (fu : Int64) (kd : Int32) (ex : Int32) (bh : Int64) (bl : Int64) : Int64 :=
  if kd = (0:Int32) then
    let u2 := ((sl m_W_fits) ft bh bl)
    if (bI u2) = (0:Int32) then
      (Int32.toInt64 ((ex - fl) + (1:Int32)))
    else
      (0:Int64)
  else
    fu
theorem m_B_fieldOf_f : sl m_B_fieldOf = f_B_fieldOf := (sl_eq m_B_fieldOf).trans (by delta m_B_fieldOf f_B_fieldOf; first | (rw [m_W_fits_f]; done) | (rw [m_W_fits_f]; rfl))
noncomputable def m_B_writeU (fl : Int32) (ft : Int32) (fu : Int64) (kd : Int32) (ex : Int32) (bh : Int64) (bl : Int64) : Int64 × Int64 :=
  let u1 := ((sl m_W_copy) bh bl)
  let u2 := ((sl m_W_keep) ft u1.1 u1.2)
  let u3 := ((sl m_B_fieldOf) fl ft fu kd ex bh bl)
  let u4 := ((sl m_W_addBits) ft u3 u2.1 u2.2)
  if kd = (2:Int32) then
    let u6 := ((sl m_W_addBits) (ft - (1:Int32)) (1:Int64) u4.1 u4.2)
    (u6.1, u6.2)
  else
    (u4.1, u4.2)
theorem m_B_writeU_f : sl m_B_writeU = f_B_writeU := (sl_eq m_B_writeU).trans (by delta m_B_writeU f_B_writeU; first | (rw [m_W_copy_f, m_W_keep_f, m_B_fieldOf_f, m_W_addBits_f]; done) | (rw [m_W_copy_f, m_W_keep_f, m_B_fieldOf_f, m_W_addBits_f]; rfl))
noncomputable def m_B_has (fp : Int32) (fl : Int32) (fg : Int32) (ft : Int32) (kd : Int32) (ex : Int32) (bh : Int64) (bl : Int64) : Bool :=
  if kd = (0:Int32) then
    if ex < fl then
      false
    else
      if fg < ex then
        false
      else
        let u4 := ((sl m_B_hasNumber) fp fl ft ex bh bl)
        if (bI u4) = (0:Int32) then
          false
        else
          true
  else
    if kd = (1:Int32) then
      true
    else
      let u7 := ((sl m_B_hasNan) ft kd bh bl)
      u7
theorem m_B_has_f : sl m_B_has = f_B_has := (sl_eq m_B_has).trans (by delta m_B_has f_B_has; first | (rw [m_B_hasNumber_f, m_B_hasNan_f]; done) | (rw [m_B_hasNumber_f, m_B_hasNan_f]; rfl))
noncomputable def m_B_cut (x : Int64) (y : Int64) (fb : Int32) : Int64 × Int64 :=
  let u1 := ((sl m_W_set) x y)
  let u2 := ((sl m_W_keep) fb u1.1 u1.2)
  (u2.1, u2.2)
theorem m_B_cut_f : sl m_B_cut = f_B_cut := (sl_eq m_B_cut).trans (by delta m_B_cut f_B_cut; first | (rw [m_W_set_f, m_W_keep_f]; done) | (rw [m_W_set_f, m_W_keep_f]; rfl))
noncomputable def m_B_read (fb : Int32) (fl : Int32) (ft : Int32) (ff : Int32) (fu : Int64) (wh : Int64) (wl : Int64) : Int32 × Bool × Int32 × Int64 × Int64 :=
  let u1 := ((sl m_W_bitsAt) (fb - (1:Int32)) (1:Int32) wh wl)
  if (lg_cmp u1 (1:Int64)) = (0:Int32) then
    let u4 := ((sl m_B_readU) fl ft ff fu wh wl)
    (u4.1, true, u4.2.1, u4.2.2.1, u4.2.2.2)
  else
    let u3 := ((sl m_B_readU) fl ft ff fu wh wl)
    (u3.1, false, u3.2.1, u3.2.2.1, u3.2.2.2)
theorem m_B_read_f : sl m_B_read = f_B_read := (sl_eq m_B_read).trans (by delta m_B_read f_B_read; first | (rw [m_W_bitsAt_f, m_B_readU_f]; done) | (rw [m_W_bitsAt_f, m_B_readU_f]; rfl))
noncomputable def m_B_write (fb : Int32) (fp : Int32) (fl : Int32) (fg : Int32) (ft : Int32) (fu : Int64) (kd : Int32) (ng : Bool) (ex : Int32) (bh : Int64) (bl : Int64) (wh : Int64) (wl : Int64) : Bool × Int64 × Int64 :=
  let u1 := ((sl m_B_has) fp fl fg ft kd ex bh bl)
  if (bI u1) = (0:Int32) then
    (false, wh, wl)
  else
    let u3 := ((sl m_W_set) (0:Int64) (0:Int64))
    let u4 := ((sl m_B_writeU) fl ft fu kd ex bh bl)
    if (bI ng) = (0:Int32) then
      (true, u4.1, u4.2)
    else
      let u6 := ((sl m_W_addBits) (fb - (1:Int32)) (1:Int64) u4.1 u4.2)
      (true, u6.1, u6.2)
theorem m_B_write_f : sl m_B_write = f_B_write := (sl_eq m_B_write).trans (by delta m_B_write f_B_write; first | (rw [m_B_has_f, m_W_set_f, m_B_writeU_f, m_W_addBits_f]; done) | (rw [m_B_has_f, m_W_set_f, m_B_writeU_f, m_W_addBits_f]; rfl))
noncomputable def m_P_begins (x : Int64) (fh : Int32) : Bool :=
  if (lg_cmp (lushr_ x (fh - (2:Int32))) (3:Int64)) = (0:Int32) then
    true
  else
    false
theorem m_P_begins_f : sl m_P_begins = f_P_begins := (sl_eq m_P_begins).trans (by delta m_P_begins f_P_begins; rfl)
noncomputable def m_P_fieldOf (x : Int64) (fh : Int32) : Int64 :=
  let u1 := ((sl m_P_begins) x fh)
  if (bI u1) = (0:Int32) then
    (lushr_ x (3:Int32))
  else
    let u3 := ((sl m_W_ones) (fh - (3:Int32)))
    ((lushr_ x (1:Int32)) &&& u3)
theorem m_P_fieldOf_f : sl m_P_fieldOf = f_P_fieldOf := (sl_eq m_P_fieldOf).trans (by delta m_P_fieldOf f_P_fieldOf; first | (rw [m_P_begins_f, m_W_ones_f]; done) | (rw [m_P_begins_f, m_W_ones_f]; rfl))
noncomputable def m_P_leadOf (x : Int64) (fh : Int32) : Int32 :=
  let u1 := ((sl m_P_begins) x fh)
  if (bI u1) = (0:Int32) then
    (Int64.toInt32 (x &&& (7:Int64)))
  else
    ((8:Int32) + (Int64.toInt32 (x &&& (1:Int64))))
theorem m_P_leadOf_f : sl m_P_leadOf = f_P_leadOf := (sl_eq m_P_leadOf).trans (by delta m_P_leadOf f_P_leadOf; first | (rw [m_P_begins_f]; done) | (rw [m_P_begins_f]; rfl))
noncomputable def m_P_headOf (x : Int64) (y : Int32) (fh : Int32) : Int64 :=
  if (8:Int32) ≤ y then
    (((lshl_ (3:Int64) (fh - (2:Int32))) ||| (lshl_ x (1:Int32))) ||| (Int32.toInt64 (y &&& (1:Int32))))
  else
    ((lshl_ x (3:Int32)) ||| (Int32.toInt64 y))
theorem m_P_headOf_f : sl m_P_headOf = f_P_headOf := (sl_eq m_P_headOf).trans (by delta m_P_headOf f_P_headOf; rfl)
noncomputable def m_P_hasNumber (mnh : Int64) (mnl : Int64) (bh : Int64) (bl : Int64) : Bool :=
  let u1 := ((sl m_W_isAbove) bh bl mnh mnl)
  if (bI u1) = (0:Int32) then
    true
  else
    false
theorem m_P_hasNumber_f : sl m_P_hasNumber = f_P_hasNumber := (sl_eq m_P_hasNumber).trans (by delta m_P_hasNumber f_P_hasNumber; first | (rw [m_W_isAbove_f]; done) | (rw [m_W_isAbove_f]; rfl))
noncomputable def m_P_hasNan (mph : Int64) (mpl : Int64) (bh : Int64) (bl : Int64) : Bool :=
  let u1 := ((sl m_W_isAbove) bh bl mph mpl)
  if (bI u1) = (0:Int32) then
    true
  else
    false
theorem m_P_hasNan_f : sl m_P_hasNan = f_P_hasNan := (sl_eq m_P_hasNan).trans (by delta m_P_hasNan f_P_hasNan; first | (rw [m_W_isAbove_f]; done) | (rw [m_W_isAbove_f]; rfl))
noncomputable def m_P_headFor (x : Int32) (fl : Int32) (fh : Int32) (kd : Int32) (ex : Int32) : Int64 :=
  if kd = (0:Int32) then
    let u2 := ((sl m_P_headOf) (Int32.toInt64 (ex - fl)) x fh)
    u2
  else
    if kd = (1:Int32) then
      (lshl_ (30:Int64) (fh - (5:Int32)))
    else
      if kd = (2:Int32) then
        (lshl_ (31:Int64) (fh - (5:Int32)))
      else
        (lshl_ (63:Int64) (fh - (6:Int32)))
theorem m_P_headFor_f : sl m_P_headFor = f_P_headFor := (sl_eq m_P_headFor).trans (by delta m_P_headFor f_P_headFor; first | (rw [m_P_headOf_f]; done) | (rw [m_P_headOf_f]; rfl))
noncomputable def m_P_readBody (x : Int32) (ft : Int32) (moh : Int64) (mol : Int64) (wh : Int64) (wl : Int64) : Int64 × Int64 :=
  let u1 := ((sl m_W_copy) wh wl)
  let u2 := ((sl m_W_keep) ft u1.1 u1.2)
  let u3 := ((sl m_W_addBits) ft (Int32.toInt64 x) u2.1 u2.2)
  let u4 := ((sl m_W_isAbove) u3.1 u3.2 moh mol)
  if (bI u4) = (0:Int32) then
    (u3.1, u3.2)
  else
    let u6 := ((sl m_W_set) (0:Int64) (0:Int64))
    (u6.1, u6.2)
theorem m_P_readBody_f : sl m_P_readBody = f_P_readBody := (sl_eq m_P_readBody).trans (by delta m_P_readBody f_P_readBody; first | (rw [m_W_copy_f, m_W_keep_f, m_W_addBits_f, m_W_isAbove_f, m_W_set_f]; done) | (rw [m_W_copy_f, m_W_keep_f, m_W_addBits_f, m_W_isAbove_f, m_W_set_f]; rfl))
noncomputable def m_P_writeTail (ft : Int32) (bh : Int64) (bl : Int64) : Int32 × Int64 × Int64 :=
  let u1 := ((sl m_W_copy) bh bl)
  let u2 := ((sl m_W_keep) ft u1.1 u1.2)
  let u3 := ((sl m_W_bitsAt) ft (4:Int32) bh bl)
  ((Int64.toInt32 u3), u2.1, u2.2)
theorem m_P_writeTail_f : sl m_P_writeTail = f_P_writeTail := (sl_eq m_P_writeTail).trans (by delta m_P_writeTail f_P_writeTail; first | (rw [m_W_copy_f, m_W_keep_f, m_W_bitsAt_f]; done) | (rw [m_W_copy_f, m_W_keep_f, m_W_bitsAt_f]; rfl))
noncomputable def m_P_readU (fl : Int32) (ft : Int32) (fh : Int32) (mnh : Int64) (mnl : Int64) (mph : Int64) (mpl : Int64) (wh : Int64) (wl : Int64) (bh : Int64) (bl : Int64) : Int32 × Int32 × Int64 × Int64 :=
  let u1 := ((sl m_W_bitsAt) ft fh wh wl)
  if (lg_cmp (lushr_ u1 (fh - (5:Int32))) (31:Int64)) = (0:Int32) then
    if (lg_cmp ((lushr_ u1 (fh - (6:Int32))) &&& (1:Int64)) (1:Int64)) = (0:Int32) then
      let u13 := ((sl m_P_readBody) (0:Int32) ft mph mpl wh wl)
      let u15 := ((sl m_D_become) (3:Int32) (0:Int32) u13.1 u13.2)
      (u15.1, u15.2.1, u15.2.2.1, u15.2.2.2)
    else
      let u10 := ((sl m_P_readBody) (0:Int32) ft mph mpl wh wl)
      let u12 := ((sl m_D_become) (2:Int32) (0:Int32) u10.1 u10.2)
      (u12.1, u12.2.1, u12.2.2.1, u12.2.2.2)
  else
    if (lg_cmp (lushr_ u1 (fh - (5:Int32))) (30:Int64)) = (0:Int32) then
      let u8 := ((sl m_D_become) (1:Int32) (0:Int32) bh bl)
      (u8.1, u8.2.1, u8.2.2.1, u8.2.2.2)
    else
      let u4 := ((sl m_P_leadOf) u1 fh)
      let u5 := ((sl m_P_readBody) u4 ft mnh mnl wh wl)
      let u6 := ((sl m_P_fieldOf) u1 fh)
      let u7 := ((sl m_D_become) (0:Int32) ((Int64.toInt32 u6) + fl) u5.1 u5.2)
      (u7.1, u7.2.1, u7.2.2.1, u7.2.2.2)
theorem m_P_readU_f : sl m_P_readU = f_P_readU := (sl_eq m_P_readU).trans (by delta m_P_readU f_P_readU; first | (rw [m_W_bitsAt_f, m_P_readBody_f, m_D_become_f, m_P_leadOf_f, m_P_fieldOf_f]; done) | (rw [m_W_bitsAt_f, m_P_readBody_f, m_D_become_f, m_P_leadOf_f, m_P_fieldOf_f]; rfl))
noncomputable def m_P_writeU (fl : Int32) (ft : Int32) (fh : Int32) (kd : Int32) (ex : Int32) (bh : Int64) (bl : Int64) : Int64 × Int64 :=
  let u1 := ((sl m_P_writeTail) ft bh bl)
  let u2 := ((sl m_P_headFor) u1.1 fl fh kd ex)
  let u3 := ((sl m_W_addBits) ft u2 u1.2.1 u1.2.2)
  (u3.1, u3.2)
theorem m_P_writeU_f : sl m_P_writeU = f_P_writeU := (sl_eq m_P_writeU).trans (by delta m_P_writeU f_P_writeU; first | (rw [m_P_writeTail_f, m_P_headFor_f, m_W_addBits_f]; done) | (rw [m_P_writeTail_f, m_P_headFor_f, m_W_addBits_f]; rfl))
noncomputable def m_P_has (fl : Int32) (fg : Int32) (mnh : Int64) (mnl : Int64) (mph : Int64) (mpl : Int64) (kd : Int32) (ex : Int32) (bh : Int64) (bl : Int64) : Bool :=
  if kd = (0:Int32) then
    if ex < fl then
      false
    else
      if fg < ex then
        false
      else
        let u4 := ((sl m_P_hasNumber) mnh mnl bh bl)
        if (bI u4) = (0:Int32) then
          false
        else
          true
  else
    if kd = (1:Int32) then
      true
    else
      let u7 := ((sl m_P_hasNan) mph mpl bh bl)
      u7
theorem m_P_has_f : sl m_P_has = f_P_has := (sl_eq m_P_has).trans (by delta m_P_has f_P_has; first | (rw [m_P_hasNumber_f, m_P_hasNan_f]; done) | (rw [m_P_hasNumber_f, m_P_hasNan_f]; rfl))
noncomputable def m_P_cut (x : Int64) (y : Int64) (fb : Int32) : Int64 × Int64 :=
  let u1 := ((sl m_W_set) x y)
  let u2 := ((sl m_W_keep) fb u1.1 u1.2)
  (u2.1, u2.2)
theorem m_P_cut_f : sl m_P_cut = f_P_cut := (sl_eq m_P_cut).trans (by delta m_P_cut f_P_cut; first | (rw [m_W_set_f, m_W_keep_f]; done) | (rw [m_W_set_f, m_W_keep_f]; rfl))
noncomputable def m_P_read (fb : Int32) (fl : Int32) (ft : Int32) (fh : Int32) (mnh : Int64) (mnl : Int64) (mph : Int64) (mpl : Int64) (wh : Int64) (wl : Int64) (bh : Int64) (bl : Int64) : Int32 × Bool × Int32 × Int64 × Int64 :=
  let u1 := ((sl m_W_bitsAt) (fb - (1:Int32)) (1:Int32) wh wl)
  if (lg_cmp u1 (1:Int64)) = (0:Int32) then
    let u4 := ((sl m_P_readU) fl ft fh mnh mnl mph mpl wh wl bh bl)
    (u4.1, true, u4.2.1, u4.2.2.1, u4.2.2.2)
  else
    let u3 := ((sl m_P_readU) fl ft fh mnh mnl mph mpl wh wl bh bl)
    (u3.1, false, u3.2.1, u3.2.2.1, u3.2.2.2)
theorem m_P_read_f : sl m_P_read = f_P_read := (sl_eq m_P_read).trans (by delta m_P_read f_P_read; first | (rw [m_W_bitsAt_f, m_P_readU_f]; done) | (rw [m_W_bitsAt_f, m_P_readU_f]; rfl))
noncomputable def m_P_write (fb : Int32) (fl : Int32) (fg : Int32) (ft : Int32) (fh : Int32) (mnh : Int64) (mnl : Int64) (mph : Int64) (mpl : Int64) (kd : Int32) (ng : Bool) (ex : Int32) (bh : Int64) (bl : Int64) (wh : Int64) (wl : Int64) : Bool × Int64 × Int64 :=
  let u1 := ((sl m_P_has) fl fg mnh mnl mph mpl kd ex bh bl)
  if (bI u1) = (0:Int32) then
    (false, wh, wl)
  else
    let u3 := ((sl m_W_set) (0:Int64) (0:Int64))
    let u4 := ((sl m_P_writeU) fl ft fh kd ex bh bl)
    if (bI ng) = (0:Int32) then
      (true, u4.1, u4.2)
    else
      let u6 := ((sl m_W_addBits) (fb - (1:Int32)) (1:Int64) u4.1 u4.2)
      (true, u6.1, u6.2)
theorem m_P_write_f : sl m_P_write = f_P_write := (sl_eq m_P_write).trans (by delta m_P_write f_P_write; first | (rw [m_P_has_f, m_W_set_f, m_P_writeU_f, m_W_addBits_f]; done) | (rw [m_P_has_f, m_W_set_f, m_P_writeU_f, m_W_addBits_f]; rfl))
noncomputable def m_T_begins (x : Int64) (fh : Int32) : Bool :=
  if (lg_cmp (lushr_ x (fh - (2:Int32))) (3:Int64)) = (0:Int32) then
    true
  else
    false
theorem m_T_begins_f : sl m_T_begins = f_T_begins := (sl_eq m_T_begins).trans (by delta m_T_begins f_T_begins; rfl)
noncomputable def m_T_fieldOf (x : Int64) (fh : Int32) (fr : Int32) : Int64 :=
  let u1 := ((sl m_T_begins) x fh)
  if (bI u1) = (0:Int32) then
    let u3 := ((sl m_W_ones) fr)
    ((lshl_ (lushr_ x (fr + (3:Int32))) fr) ||| (x &&& u3))
  else
    let u4 := ((sl m_W_ones) fr)
    ((lshl_ ((lushr_ x (fr + (1:Int32))) &&& (3:Int64)) fr) ||| (x &&& u4))
theorem m_T_fieldOf_f : sl m_T_fieldOf = f_T_fieldOf := (sl_eq m_T_fieldOf).trans (by delta m_T_fieldOf f_T_fieldOf; first | (rw [m_T_begins_f, m_W_ones_f]; done) | (rw [m_T_begins_f, m_W_ones_f]; rfl))
noncomputable def m_T_leadOf (x : Int64) (fh : Int32) (fr : Int32) : Int32 :=
  let u1 := ((sl m_T_begins) x fh)
  if (bI u1) = (0:Int32) then
    (Int64.toInt32 ((lushr_ x fr) &&& (7:Int64)))
  else
    ((8:Int32) + (Int64.toInt32 ((lushr_ x fr) &&& (1:Int64))))
theorem m_T_leadOf_f : sl m_T_leadOf = f_T_leadOf := (sl_eq m_T_leadOf).trans (by delta m_T_leadOf f_T_leadOf; first | (rw [m_T_begins_f]; done) | (rw [m_T_begins_f]; rfl))
noncomputable def m_T_headOf (x : Int64) (y : Int32) (fr : Int32) : Int64 :=
  if (8:Int32) ≤ y then
    let z2 := (((24:Int64) ||| (lshl_ (lushr_ x fr) (1:Int32))) ||| (Int32.toInt64 (y &&& (1:Int32))))
    let u3 := ((sl m_W_ones) fr)
    ((lshl_ z2 fr) ||| (x &&& u3))
  else
    let u4 := ((sl m_W_ones) fr)
    ((lshl_ ((lshl_ (lushr_ x fr) (3:Int32)) ||| (Int32.toInt64 y)) fr) ||| (x &&& u4))
theorem m_T_headOf_f : sl m_T_headOf = f_T_headOf := (sl_eq m_T_headOf).trans (by delta m_T_headOf f_T_headOf; first | (rw [m_W_ones_f]; done) | (rw [m_W_ones_f]; rfl))
noncomputable def m_T_hasNumber (mnh : Int64) (mnl : Int64) (bh : Int64) (bl : Int64) : Bool :=
  let u1 := ((sl m_W_isAbove) bh bl mnh mnl)
  if (bI u1) = (0:Int32) then
    true
  else
    false
theorem m_T_hasNumber_f : sl m_T_hasNumber = f_T_hasNumber := (sl_eq m_T_hasNumber).trans (by delta m_T_hasNumber f_T_hasNumber; first | (rw [m_W_isAbove_f]; done) | (rw [m_W_isAbove_f]; rfl))
noncomputable def m_T_hasNan (mph : Int64) (mpl : Int64) (bh : Int64) (bl : Int64) : Bool :=
  let u1 := ((sl m_W_isAbove) bh bl mph mpl)
  if (bI u1) = (0:Int32) then
    true
  else
    false
theorem m_T_hasNan_f : sl m_T_hasNan = f_T_hasNan := (sl_eq m_T_hasNan).trans (by delta m_T_hasNan f_T_hasNan; first | (rw [m_W_isAbove_f]; done) | (rw [m_W_isAbove_f]; rfl))
noncomputable def m_T_headFor (x : Int32) (fl : Int32) (fh : Int32) (fr : Int32) (kd : Int32) (ex : Int32) : Int64 :=
  if kd = (0:Int32) then
    let u2 := ((sl m_T_headOf) (Int32.toInt64 (ex - fl)) x fr)
    u2
  else
    if kd = (1:Int32) then
      (lshl_ (30:Int64) (fh - (5:Int32)))
    else
      if kd = (2:Int32) then
        (lshl_ (31:Int64) (fh - (5:Int32)))
      else
        (lshl_ (63:Int64) (fh - (6:Int32)))
theorem m_T_headFor_f : sl m_T_headFor = f_T_headFor := (sl_eq m_T_headFor).trans (by delta m_T_headFor f_T_headFor; first | (rw [m_T_headOf_f]; done) | (rw [m_T_headOf_f]; rfl))
noncomputable def mlf_T_readBody : Nat → Int64 → Int64 → Int32 → Int64 → Int64 → Int64 × Int64
  | 0, _, _, _, _, _ => default
  | n + 1, wh, wl, x5, y2_0, y2_1 =>
    if x5 < (0:Int32) then
      (y2_0, y2_1)
    else
      let u3 := ((sl m_W_bitsAt) ((10:Int32) * x5) (10:Int32) wh wl)
      let u4 := ((sl m_E_read) (Int64.toInt32 u3))
      let u5 := ((sl m_W_times) (1000:Int32) u4 y2_0 y2_1)
      mlf_T_readBody n wh wl (x5 + (-1:Int32)) u5.1 u5.2
theorem mlf_T_readBody_f : mlf_T_readBody = lf_T_readBody := by delta mlf_T_readBody lf_T_readBody; delta mlf_T_readBody._f lf_T_readBody._f; first | (rw [m_W_bitsAt_f, m_E_read_f, m_W_times_f]; done) | (rw [m_W_bitsAt_f, m_E_read_f, m_W_times_f]; rfl)
def mlk_T_readBody : Nat → Int32 → Prop
  | 0, _ => False
  | n + 1, x5 => ((x5 < (0:Int32) → True) ∧ (¬ x5 < (0:Int32) → mlk_T_readBody n (x5 + (-1:Int32))))
theorem mlk_T_readBody_f : mlk_T_readBody = lk_T_readBody := by delta mlk_T_readBody lk_T_readBody; delta mlk_T_readBody._f lk_T_readBody._f; rfl
def mok_T_readBody (fd : Int32) : Prop := mlk_T_readBody 40 (fd - (1:Int32))
theorem mok_T_readBody_f : mok_T_readBody = ok_T_readBody := by delta mok_T_readBody ok_T_readBody; first | (rw [mlk_T_readBody_f]; done) | (rw [mlk_T_readBody_f]; rfl)
noncomputable def m_T_readBody (x : Int32) (fd : Int32) (wh : Int64) (wl : Int64) : Int64 × Int64 :=
  let u1 := ((sl m_W_set) (0:Int64) (Int32.toInt64 x))
  mlf_T_readBody 40 wh wl (fd - (1:Int32)) u1.1 u1.2
theorem m_T_readBody_f : sl m_T_readBody = f_T_readBody := (sl_eq m_T_readBody).trans (by delta m_T_readBody f_T_readBody; first | (rw [m_W_set_f, mlf_T_readBody_f]; done) | (rw [m_W_set_f, mlf_T_readBody_f]; rfl))
noncomputable def mlf_T_writeTail : Nat → Int32 → Int32 → Int64 → Int64 → Int64 → Int64 → Int32 × Int64 × Int64 × Int64 × Int64
  | 0, _, _, _, _, _, _ => default
  | n + 1, fd, x3, y1_0, y1_1, y2_0, y2_1 =>
    if fd ≤ x3 then
      let u3 := ((sl m_W_half) false y2_0 y2_1)
      ((Int64.toInt32 u3), y2_0, y2_1, y1_0, y1_1)
    else
      let u4 := ((sl m_W_take) y2_0 y2_1)
      let u5 := ((sl m_E_write) u4.1)
      let u6 := ((sl m_W_addBits) ((10:Int32) * x3) (Int32.toInt64 u5) y1_0 y1_1)
      mlf_T_writeTail n fd (x3 + (1:Int32)) u6.1 u6.2 u4.2.1 u4.2.2
theorem mlf_T_writeTail_f : mlf_T_writeTail = lf_T_writeTail := by delta mlf_T_writeTail lf_T_writeTail; delta mlf_T_writeTail._f lf_T_writeTail._f; first | (rw [m_W_half_f, m_W_take_f, m_E_write_f, m_W_addBits_f]; done) | (rw [m_W_half_f, m_W_take_f, m_E_write_f, m_W_addBits_f]; rfl)
def mlk_T_writeTail : Nat → Int32 → Int32 → Prop
  | 0, _, _ => False
  | n + 1, fd, x3 => ((fd ≤ x3 → True) ∧ (¬ fd ≤ x3 → mlk_T_writeTail n fd (x3 + (1:Int32))))
theorem mlk_T_writeTail_f : mlk_T_writeTail = lk_T_writeTail := by delta mlk_T_writeTail lk_T_writeTail; delta mlk_T_writeTail._f lk_T_writeTail._f; rfl
