def mok_T_writeTail (fd : Int32) : Prop := mlk_T_writeTail 40 fd (0:Int32)
theorem mok_T_writeTail_f : mok_T_writeTail = ok_T_writeTail := by delta mok_T_writeTail ok_T_writeTail; first | (rw [mlk_T_writeTail_f]; done) | (rw [mlk_T_writeTail_f]; rfl)
noncomputable def m_T_writeTail (fd : Int32) (bh : Int64) (bl : Int64) (wh : Int64) (wl : Int64) : Int32 × Int64 × Int64 × Int64 × Int64 :=
  let u1 := ((sl m_W_copy) bh bl)
  mlf_T_writeTail 40 fd (0:Int32) wh wl u1.1 u1.2
theorem m_T_writeTail_f : sl m_T_writeTail = f_T_writeTail := (sl_eq m_T_writeTail).trans (by delta m_T_writeTail f_T_writeTail; first | (rw [m_W_copy_f, mlf_T_writeTail_f]; done) | (rw [m_W_copy_f, mlf_T_writeTail_f]; rfl))
def mok_T_readU (fd : Int32) : Prop := mok_T_readBody fd
theorem mok_T_readU_f : mok_T_readU = ok_T_readU := by delta mok_T_readU ok_T_readU; first | (rw [mok_T_readBody_f]; done) | (rw [mok_T_readBody_f]; rfl)
noncomputable def m_T_readU (fl : Int32) (fd : Int32) (ft : Int32) (fh : Int32) (fr : Int32) (wh : Int64) (wl : Int64) (bh : Int64) (bl : Int64) : Int32 × Int32 × Int64 × Int64 :=
  let u1 := ((sl m_W_bitsAt) ft fh wh wl)
  if (lg_cmp (lushr_ u1 (fh - (5:Int32))) (31:Int64)) = (0:Int32) then
    if (lg_cmp ((lushr_ u1 (fh - (6:Int32))) &&& (1:Int64)) (1:Int64)) = (0:Int32) then
      let u13 := ((sl m_T_readBody) (0:Int32) fd wh wl)
      let u15 := ((sl m_D_become) (3:Int32) (0:Int32) u13.1 u13.2)
      (u15.1, u15.2.1, u15.2.2.1, u15.2.2.2)
    else
      let u10 := ((sl m_T_readBody) (0:Int32) fd wh wl)
      let u12 := ((sl m_D_become) (2:Int32) (0:Int32) u10.1 u10.2)
      (u12.1, u12.2.1, u12.2.2.1, u12.2.2.2)
  else
    if (lg_cmp (lushr_ u1 (fh - (5:Int32))) (30:Int64)) = (0:Int32) then
      let u8 := ((sl m_D_become) (1:Int32) (0:Int32) bh bl)
      (u8.1, u8.2.1, u8.2.2.1, u8.2.2.2)
    else
      let u4 := ((sl m_T_leadOf) u1 fh fr)
      let u5 := ((sl m_T_readBody) u4 fd wh wl)
      let u6 := ((sl m_T_fieldOf) u1 fh fr)
      let u7 := ((sl m_D_become) (0:Int32) ((Int64.toInt32 u6) + fl) u5.1 u5.2)
      (u7.1, u7.2.1, u7.2.2.1, u7.2.2.2)
theorem m_T_readU_f : sl m_T_readU = f_T_readU := (sl_eq m_T_readU).trans (by delta m_T_readU f_T_readU; first | (rw [m_W_bitsAt_f, m_T_readBody_f, m_D_become_f, m_T_leadOf_f, m_T_fieldOf_f]; done) | (rw [m_W_bitsAt_f, m_T_readBody_f, m_D_become_f, m_T_leadOf_f, m_T_fieldOf_f]; rfl))
def mok_T_writeU (fd : Int32) : Prop := mok_T_writeTail fd
theorem mok_T_writeU_f : mok_T_writeU = ok_T_writeU := by delta mok_T_writeU ok_T_writeU; first | (rw [mok_T_writeTail_f]; done) | (rw [mok_T_writeTail_f]; rfl)
noncomputable def m_T_writeU (fl : Int32) (fd : Int32) (ft : Int32) (fh : Int32) (fr : Int32) (kd : Int32) (ex : Int32) (bh : Int64) (bl : Int64) (wh : Int64) (wl : Int64) : Int64 × Int64 × Int64 × Int64 :=
  let u1 := ((sl m_T_writeTail) fd bh bl wh wl)
  let u2 := ((sl m_T_headFor) u1.1 fl fh fr kd ex)
  let u3 := ((sl m_W_addBits) ft u2 u1.2.2.2.1 u1.2.2.2.2)
  (u1.2.1, u1.2.2.1, u3.1, u3.2)
theorem m_T_writeU_f : sl m_T_writeU = f_T_writeU := (sl_eq m_T_writeU).trans (by delta m_T_writeU f_T_writeU; first | (rw [m_T_writeTail_f, m_T_headFor_f, m_W_addBits_f]; done) | (rw [m_T_writeTail_f, m_T_headFor_f, m_W_addBits_f]; rfl))
noncomputable def m_T_has (fl : Int32) (fg : Int32) (mnh : Int64) (mnl : Int64) (mph : Int64) (mpl : Int64) (kd : Int32) (ex : Int32) (bh : Int64) (bl : Int64) : Bool :=
  if kd = (0:Int32) then
    if ex < fl then
      false
    else
      if fg < ex then
        false
      else
        let u4 := ((sl m_T_hasNumber) mnh mnl bh bl)
        if (bI u4) = (0:Int32) then
          false
        else
          true
  else
    if kd = (1:Int32) then
      true
    else
      let u7 := ((sl m_T_hasNan) mph mpl bh bl)
      u7
theorem m_T_has_f : sl m_T_has = f_T_has := (sl_eq m_T_has).trans (by delta m_T_has f_T_has; first | (rw [m_T_hasNumber_f, m_T_hasNan_f]; done) | (rw [m_T_hasNumber_f, m_T_hasNan_f]; rfl))
noncomputable def m_T_cut (x : Int64) (y : Int64) (fb : Int32) : Int64 × Int64 :=
  let u1 := ((sl m_W_set) x y)
  let u2 := ((sl m_W_keep) fb u1.1 u1.2)
  (u2.1, u2.2)
theorem m_T_cut_f : sl m_T_cut = f_T_cut := (sl_eq m_T_cut).trans (by delta m_T_cut f_T_cut; first | (rw [m_W_set_f, m_W_keep_f]; done) | (rw [m_W_set_f, m_W_keep_f]; rfl))
def mok_T_read (fd : Int32) : Prop := mok_T_readU fd
theorem mok_T_read_f : mok_T_read = ok_T_read := by delta mok_T_read ok_T_read; first | (rw [mok_T_readU_f]; done) | (rw [mok_T_readU_f]; rfl)
noncomputable def m_T_read (fb : Int32) (fl : Int32) (fd : Int32) (ft : Int32) (fh : Int32) (fr : Int32) (wh : Int64) (wl : Int64) (bh : Int64) (bl : Int64) : Int32 × Bool × Int32 × Int64 × Int64 :=
  let u1 := ((sl m_W_bitsAt) (fb - (1:Int32)) (1:Int32) wh wl)
  if (lg_cmp u1 (1:Int64)) = (0:Int32) then
    let u4 := ((sl m_T_readU) fl fd ft fh fr wh wl bh bl)
    (u4.1, true, u4.2.1, u4.2.2.1, u4.2.2.2)
  else
    let u3 := ((sl m_T_readU) fl fd ft fh fr wh wl bh bl)
    (u3.1, false, u3.2.1, u3.2.2.1, u3.2.2.2)
theorem m_T_read_f : sl m_T_read = f_T_read := (sl_eq m_T_read).trans (by delta m_T_read f_T_read; first | (rw [m_W_bitsAt_f, m_T_readU_f]; done) | (rw [m_W_bitsAt_f, m_T_readU_f]; rfl))
def mok_T_write (fd : Int32) : Prop := mok_T_writeU fd
theorem mok_T_write_f : mok_T_write = ok_T_write := by delta mok_T_write ok_T_write; first | (rw [mok_T_writeU_f]; done) | (rw [mok_T_writeU_f]; rfl)
noncomputable def m_T_write (fb : Int32) (fl : Int32) (fg : Int32) (fd : Int32) (ft : Int32) (fh : Int32) (fr : Int32) (mnh : Int64) (mnl : Int64) (mph : Int64) (mpl : Int64) (lfh : Int64) (lfl : Int64) (kd : Int32) (ng : Bool) (ex : Int32) (bh : Int64) (bl : Int64) (wh : Int64) (wl : Int64) : Bool × Int64 × Int64 × Int64 × Int64 :=
  let u1 := ((sl m_T_has) fl fg mnh mnl mph mpl kd ex bh bl)
  if (bI u1) = (0:Int32) then
    (false, lfh, lfl, wh, wl)
  else
    let u3 := ((sl m_W_set) (0:Int64) (0:Int64))
    let u4 := ((sl m_T_writeU) fl fd ft fh fr kd ex bh bl u3.1 u3.2)
    if (bI ng) = (0:Int32) then
      (true, u4.1, u4.2.1, u4.2.2.1, u4.2.2.2)
    else
      let u6 := ((sl m_W_addBits) (fb - (1:Int32)) (1:Int64) u4.2.2.1 u4.2.2.2)
      (true, u4.1, u4.2.1, u6.1, u6.2)
theorem m_T_write_f : sl m_T_write = f_T_write := (sl_eq m_T_write).trans (by delta m_T_write f_T_write; first | (rw [m_T_has_f, m_W_set_f, m_T_writeU_f, m_W_addBits_f]; done) | (rw [m_T_has_f, m_W_set_f, m_T_writeU_f, m_W_addBits_f]; rfl))
noncomputable def m_M_thrown (co : Int32) : Int32 :=
  co
theorem m_M_thrown_f : sl m_M_thrown = f_M_thrown := (sl_eq m_M_thrown).trans (by delta m_M_thrown f_M_thrown; rfl)
noncomputable def m_M_isFormat (x : Int32) : Bool :=
  if x < (0:Int32) then
    false
  else
    if (10:Int32) ≤ x then
      false
    else
      true
theorem m_M_isFormat_f : sl m_M_isFormat = f_M_isFormat := (sl_eq m_M_isFormat).trans (by delta m_M_isFormat f_M_isFormat; rfl)
noncomputable def m_M_width (x : Int32) : Int32 :=
  if (4:Int32) ≤ x then
    ((32:Int32) <<< (((x - (4:Int32)) - (x - (4:Int32)) / (3:Int32) * (3:Int32)) &&& 31))
  else
    ((16:Int32) <<< (x &&& 31))
theorem m_M_width_f : sl m_M_width = f_M_width := (sl_eq m_M_width).trans (by delta m_M_width f_M_width; rfl)
noncomputable def m_M_digitsOf (x : Int32) : Int32 :=
  if x = (0:Int32) then
    (11:Int32)
  else
    if x = (1:Int32) then
      (24:Int32)
    else
      if x = (2:Int32) then
        (53:Int32)
      else
        if x = (3:Int32) then
          (113:Int32)
        else
          if ((x - (4:Int32)) - (x - (4:Int32)) / (3:Int32) * (3:Int32)) = (0:Int32) then
            (7:Int32)
          else
            if ((x - (4:Int32)) - (x - (4:Int32)) / (3:Int32) * (3:Int32)) = (1:Int32) then
              (16:Int32)
            else
              (34:Int32)
theorem m_M_digitsOf_f : sl m_M_digitsOf = f_M_digitsOf := (sl_eq m_M_digitsOf).trans (by delta m_M_digitsOf f_M_digitsOf; rfl)
noncomputable def m_M_most (x : Int32) : Int32 :=
  if x = (0:Int32) then
    (15:Int32)
  else
    if x = (1:Int32) then
      (127:Int32)
    else
      if x = (2:Int32) then
        (1023:Int32)
      else
        if x = (3:Int32) then
          (16383:Int32)
        else
          if ((x - (4:Int32)) - (x - (4:Int32)) / (3:Int32) * (3:Int32)) = (0:Int32) then
            (96:Int32)
          else
            if ((x - (4:Int32)) - (x - (4:Int32)) / (3:Int32) * (3:Int32)) = (1:Int32) then
              (384:Int32)
            else
              (6144:Int32)
theorem m_M_most_f : sl m_M_most = f_M_most := (sl_eq m_M_most).trans (by delta m_M_most f_M_most; rfl)
noncomputable def m_M_least (x : Int32) : Int32 :=
  let u1 := ((sl m_M_most) x)
  let u2 := ((sl m_M_digitsOf) x)
  (((2:Int32) - u1) - u2)
theorem m_M_least_f : sl m_M_least = f_M_least := (sl_eq m_M_least).trans (by delta m_M_least f_M_least; first | (rw [m_M_most_f, m_M_digitsOf_f]; done) | (rw [m_M_most_f, m_M_digitsOf_f]; rfl))
noncomputable def m_M_greatest (x : Int32) : Int32 :=
  let u1 := ((sl m_M_most) x)
  let u2 := ((sl m_M_digitsOf) x)
  ((u1 + (1:Int32)) - u2)
theorem m_M_greatest_f : sl m_M_greatest = f_M_greatest := (sl_eq m_M_greatest).trans (by delta m_M_greatest f_M_greatest; first | (rw [m_M_most_f, m_M_digitsOf_f]; done) | (rw [m_M_most_f, m_M_digitsOf_f]; rfl))
noncomputable def m_M_tail (x : Int32) : Int32 :=
  let u1 := ((sl m_M_digitsOf) x)
  ((10:Int32) * ((u1 - (1:Int32)) / (3:Int32)))
theorem m_M_tail_f : sl m_M_tail = f_M_tail := (sl_eq m_M_tail).trans (by delta m_M_tail f_M_tail; first | (rw [m_M_digitsOf_f]; done) | (rw [m_M_digitsOf_f]; rfl))
noncomputable def m_M_be0 (x : Int64) (w : Nat → Int64) : (Nat → Int64) :=
  (vp_updL (vp_updL (vp_updL (vp_updL w 0 (x &&& (4294967295:Int64))) 1 (lushr_ x (32:Int32))) 2 (0:Int64)) 3 (0:Int64))
theorem m_M_be0_f : sl m_M_be0 = f_M_be0 := (sl_eq m_M_be0).trans (by delta m_M_be0 f_M_be0; rfl)
noncomputable def m_M_be1 (x : Int64) (w : Nat → Int64) : (Nat → Int64) :=
  (vp_updL (vp_updL (vp_updL (vp_updL w 4 (x &&& (4294967295:Int64))) 5 (lushr_ x (32:Int32))) 6 (0:Int64)) 7 (0:Int64))
theorem m_M_be1_f : sl m_M_be1 = f_M_be1 := (sl_eq m_M_be1).trans (by delta m_M_be1 f_M_be1; rfl)
noncomputable def m_M_times0 (x : Int32) (y : Int32) (w : Nat → Int64) : (Nat → Int64) :=
  let z3 := (((w 1) * (Int32.toInt64 x)) + (lushr_ (((w 0) * (Int32.toInt64 x)) + (Int32.toInt64 y)) (32:Int32)))
  let z5 := (lushr_ (((w 2) * (Int32.toInt64 x)) + (lushr_ z3 (32:Int32))) (32:Int32))
  (vp_updL (vp_updL (vp_updL (vp_updL w 0 ((((w 0) * (Int32.toInt64 x)) + (Int32.toInt64 y)) &&& (4294967295:Int64))) 1 (z3 &&& (4294967295:Int64))) 2 ((((w 2) * (Int32.toInt64 x)) + (lushr_ z3 (32:Int32))) &&& (4294967295:Int64))) 3 ((((w 3) * (Int32.toInt64 x)) + z5) &&& (4294967295:Int64)))
theorem m_M_times0_f : sl m_M_times0 = f_M_times0 := (sl_eq m_M_times0).trans (by delta m_M_times0 f_M_times0; rfl)
noncomputable def m_M_times1 (x : Int32) (y : Int32) (w : Nat → Int64) : (Nat → Int64) :=
  let z3 := (((w 5) * (Int32.toInt64 x)) + (lushr_ (((w 4) * (Int32.toInt64 x)) + (Int32.toInt64 y)) (32:Int32)))
  let z5 := (lushr_ (((w 6) * (Int32.toInt64 x)) + (lushr_ z3 (32:Int32))) (32:Int32))
  (vp_updL (vp_updL (vp_updL (vp_updL w 4 ((((w 4) * (Int32.toInt64 x)) + (Int32.toInt64 y)) &&& (4294967295:Int64))) 5 (z3 &&& (4294967295:Int64))) 6 ((((w 6) * (Int32.toInt64 x)) + (lushr_ z3 (32:Int32))) &&& (4294967295:Int64))) 7 ((((w 7) * (Int32.toInt64 x)) + z5) &&& (4294967295:Int64)))
theorem m_M_times1_f : sl m_M_times1 = f_M_times1 := (sl_eq m_M_times1).trans (by delta m_M_times1 f_M_times1; rfl)
noncomputable def m_M_over2 (w : Nat → Int64) : Int32 × (Nat → Int64) :=
  let z2 := (((lshl_ (0:Int64) (32:Int32)) ||| (w 11)) - ((lshl_ (0:Int64) (32:Int32)) ||| (w 11)) / (1000:Int64) * (1000:Int64))
  let z4 := (((lshl_ z2 (32:Int32)) ||| (w 10)) - ((lshl_ z2 (32:Int32)) ||| (w 10)) / (1000:Int64) * (1000:Int64))
  let z6 := (((lshl_ z4 (32:Int32)) ||| (w 9)) - ((lshl_ z4 (32:Int32)) ||| (w 9)) / (1000:Int64) * (1000:Int64))
  let z8 := (((lshl_ z6 (32:Int32)) ||| (w 8)) - ((lshl_ z6 (32:Int32)) ||| (w 8)) / (1000:Int64) * (1000:Int64))
  ((Int64.toInt32 z8), (vp_updL (vp_updL (vp_updL (vp_updL w 11 (((lshl_ (0:Int64) (32:Int32)) ||| (w 11)) / (1000:Int64))) 10 (((lshl_ z2 (32:Int32)) ||| (w 10)) / (1000:Int64))) 9 (((lshl_ z4 (32:Int32)) ||| (w 9)) / (1000:Int64))) 8 (((lshl_ z6 (32:Int32)) ||| (w 8)) / (1000:Int64))))
theorem m_M_over2_f : sl m_M_over2 = f_M_over2 := (sl_eq m_M_over2).trans (by delta m_M_over2 f_M_over2; rfl)
noncomputable def mlf_M_power1 : Nat → Int32 → Int32 → Int32 → ((Nat → Int64)) → (Nat → Int64)
  | 0, _, _, _, _ => default
  | n + 1, x, y, x4, y1_a =>
    if y ≤ x4 then
      y1_a
    else
      let u3 := ((sl m_M_times1) x (0:Int32) y1_a)
      mlf_M_power1 n x y (x4 + (1:Int32)) u3
theorem mlf_M_power1_f : mlf_M_power1 = lf_M_power1 := by delta mlf_M_power1 lf_M_power1; delta mlf_M_power1._f lf_M_power1._f; first | (rw [m_M_times1_f]; done) | (rw [m_M_times1_f]; rfl)
def mlk_M_power1 : Nat → Int32 → Int32 → Prop
  | 0, _, _ => False
  | n + 1, y, x4 => ((y ≤ x4 → True) ∧ (¬ y ≤ x4 → mlk_M_power1 n y (x4 + (1:Int32))))
theorem mlk_M_power1_f : mlk_M_power1 = lk_M_power1 := by delta mlk_M_power1 lk_M_power1; delta mlk_M_power1._f lk_M_power1._f; rfl
def mok_M_power1 (y : Int32) : Prop := mlk_M_power1 200 y (0:Int32)
theorem mok_M_power1_f : mok_M_power1 = ok_M_power1 := by delta mok_M_power1 ok_M_power1; first | (rw [mlk_M_power1_f]; done) | (rw [mlk_M_power1_f]; rfl)
noncomputable def m_M_power1 (x : Int32) (y : Int32) (w : Nat → Int64) : (Nat → Int64) :=
  let u1 := ((sl m_M_be1) (1:Int64) w)
  mlf_M_power1 200 x y (0:Int32) u1
theorem m_M_power1_f : sl m_M_power1 = f_M_power1 := (sl_eq m_M_power1).trans (by delta m_M_power1 f_M_power1; first | (rw [m_M_be1_f, mlf_M_power1_f]; done) | (rw [m_M_be1_f, mlf_M_power1_f]; rfl))
noncomputable def m_M_isBelow (w : Nat → Int64) : Bool :=
  if (lg_cmp (w 3) (w 7)) = (0:Int32) then
    if (lg_cmp (w 2) (w 6)) = (0:Int32) then
      if (lg_cmp (w 1) (w 5)) = (0:Int32) then
        if (lg_cmp (w 0) (w 4)) = (0:Int32) then
          false
        else
          if (0:Int32) ≤ (lg_cmp (w 0) (w 4)) then
            false
          else
            true
      else
        if (0:Int32) ≤ (lg_cmp (w 1) (w 5)) then
          false
        else
          true
    else
      if (0:Int32) ≤ (lg_cmp (w 2) (w 6)) then
        false
      else
        true
  else
    if (0:Int32) ≤ (lg_cmp (w 3) (w 7)) then
      false
    else
      true
theorem m_M_isBelow_f : sl m_M_isBelow = f_M_isBelow := (sl_eq m_M_isBelow).trans (by delta m_M_isBelow f_M_isBelow; rfl)
noncomputable def m_M_isZero (w : Nat → Int64) : Bool :=
  if (lg_cmp ((((w 0) ||| (w 1)) ||| (w 2)) ||| (w 3)) (0:Int64)) = (0:Int32) then
    true
  else
    false
theorem m_M_isZero_f : sl m_M_isZero = f_M_isZero := (sl_eq m_M_isZero).trans (by delta m_M_isZero f_M_isZero; rfl)
def mok_M_bitOf (x : Int32) : Prop := (vp_in ((0:Int32) + (x / (32:Int32))) 12)
theorem mok_M_bitOf_f : mok_M_bitOf = ok_M_bitOf := by delta mok_M_bitOf ok_M_bitOf; rfl
noncomputable def m_M_bitOf (x : Int32) (w : Nat → Int64) : Int32 :=
  (Int64.toInt32 ((lshr_ (w (Int32.toNatClampNeg ((0:Int32) + (x / (32:Int32))))) (x - x / (32:Int32) * (32:Int32))) &&& (1:Int64)))
theorem m_M_bitOf_f : sl m_M_bitOf = f_M_bitOf := (sl_eq m_M_bitOf).trans (by delta m_M_bitOf f_M_bitOf; rfl)
noncomputable def m_M_bit (x : Int32) (lh : Int64) (ll : Int64) : Int32 :=
  if (64:Int32) ≤ x then
    (Int64.toInt32 ((lushr_ lh (x - (64:Int32))) &&& (1:Int64)))
  else
    (Int64.toInt32 ((lushr_ ll x) &&& (1:Int64)))
theorem m_M_bit_f : sl m_M_bit = f_M_bit := (sl_eq m_M_bit).trans (by delta m_M_bit f_M_bit; rfl)
noncomputable def mlf_M_field : Nat → Int32 → Int64 → Int64 → Int32 → Int32 → Int32
  | 0, _, _, _, _, _ => default
  | n + 1, x, lh, ll, x4, x3 =>
    if x4 < (0:Int32) then
      x3
    else
      let u2 := ((sl m_M_bit) (x + x4) lh ll)
      mlf_M_field n x lh ll (x4 + (-1:Int32)) (((2:Int32) * x3) + u2)
theorem mlf_M_field_f : mlf_M_field = lf_M_field := by delta mlf_M_field lf_M_field; delta mlf_M_field._f lf_M_field._f; first | (rw [m_M_bit_f]; done) | (rw [m_M_bit_f]; rfl)
def mlk_M_field : Nat → Int32 → Prop
  | 0, _ => False
  | n + 1, x4 => ((x4 < (0:Int32) → True) ∧ (¬ x4 < (0:Int32) → mlk_M_field n (x4 + (-1:Int32))))
theorem mlk_M_field_f : mlk_M_field = lk_M_field := by delta mlk_M_field lk_M_field; delta mlk_M_field._f lk_M_field._f; rfl
def mok_M_field (y : Int32) : Prop := mlk_M_field 200 (y - (1:Int32))
theorem mok_M_field_f : mok_M_field = ok_M_field := by delta mok_M_field ok_M_field; first | (rw [mlk_M_field_f]; done) | (rw [mlk_M_field_f]; rfl)
noncomputable def m_M_field (x : Int32) (y : Int32) (lh : Int64) (ll : Int64) : Int32 :=
  mlf_M_field 200 x lh ll (y - (1:Int32)) (0:Int32)
theorem m_M_field_f : sl m_M_field = f_M_field := (sl_eq m_M_field).trans (by delta m_M_field f_M_field; first | (rw [mlf_M_field_f]; done) | (rw [mlf_M_field_f]; rfl))
noncomputable def mlf_M_take : Nat → Int32 → Int64 → Int64 → Int32 → ((Nat → Int64)) → (Nat → Int64)
  | 0, _, _, _, _, _ => default
  | n + 1, x, lh, ll, x3, y1_a =>
    if x3 < (0:Int32) then
      y1_a
    else
      let u3 := ((sl m_M_bit) (x + x3) lh ll)
      let u4 := ((sl m_M_times0) (2:Int32) u3 y1_a)
      mlf_M_take n x lh ll (x3 + (-1:Int32)) u4
theorem mlf_M_take_f : mlf_M_take = lf_M_take := by delta mlf_M_take lf_M_take; delta mlf_M_take._f lf_M_take._f; first | (rw [m_M_bit_f, m_M_times0_f]; done) | (rw [m_M_bit_f, m_M_times0_f]; rfl)
def mlk_M_take : Nat → Int32 → Prop
  | 0, _ => False
  | n + 1, x3 => ((x3 < (0:Int32) → True) ∧ (¬ x3 < (0:Int32) → mlk_M_take n (x3 + (-1:Int32))))
theorem mlk_M_take_f : mlk_M_take = lk_M_take := by delta mlk_M_take lk_M_take; delta mlk_M_take._f lk_M_take._f; rfl
def mok_M_take (y : Int32) : Prop := mlk_M_take 200 (y - (1:Int32))
theorem mok_M_take_f : mok_M_take = ok_M_take := by delta mok_M_take ok_M_take; first | (rw [mlk_M_take_f]; done) | (rw [mlk_M_take_f]; rfl)
noncomputable def m_M_take (x : Int32) (y : Int32) (lh : Int64) (ll : Int64) (w : Nat → Int64) : (Nat → Int64) :=
  let u1 := ((sl m_M_be0) (0:Int64) w)
  mlf_M_take 200 x lh ll (y - (1:Int32)) u1
theorem m_M_take_f : sl m_M_take = f_M_take := (sl_eq m_M_take).trans (by delta m_M_take f_M_take; first | (rw [m_M_be0_f, mlf_M_take_f]; done) | (rw [m_M_be0_f, mlf_M_take_f]; rfl))
noncomputable def m_M_set (x : Int32) (y : Int32) (lh : Int64) (ll : Int64) : Int64 × Int64 :=
  if (64:Int32) ≤ x then
    ((lh ||| (lshl_ (Int32.toInt64 y) (x - (64:Int32)))), ll)
  else
    (lh, (ll ||| (lshl_ (Int32.toInt64 y) x)))
theorem m_M_set_f : sl m_M_set = f_M_set := (sl_eq m_M_set).trans (by delta m_M_set f_M_set; rfl)
noncomputable def mlf_M_lay : Nat → Int32 → Int32 → Int32 → Int32 → Int64 → Int64 → Int64 × Int64
  | 0, _, _, _, _, _, _ => default
  | n + 1, x, y, z, x4, y0_7, y0_8 =>
    if z ≤ x4 then
      (y0_7, y0_8)
    else
      let u2 := ((sl m_M_set) (y + x4) ((x >>> (x4 &&& 31)) &&& (1:Int32)) y0_7 y0_8)
      mlf_M_lay n x y z (x4 + (1:Int32)) u2.1 u2.2
theorem mlf_M_lay_f : mlf_M_lay = lf_M_lay := by delta mlf_M_lay lf_M_lay; delta mlf_M_lay._f lf_M_lay._f; first | (rw [m_M_set_f]; done) | (rw [m_M_set_f]; rfl)
def mlk_M_lay : Nat → Int32 → Int32 → Prop
  | 0, _, _ => False
  | n + 1, z, x4 => ((z ≤ x4 → True) ∧ (¬ z ≤ x4 → mlk_M_lay n z (x4 + (1:Int32))))
theorem mlk_M_lay_f : mlk_M_lay = lk_M_lay := by delta mlk_M_lay lk_M_lay; delta mlk_M_lay._f lk_M_lay._f; rfl
def mok_M_lay (z : Int32) : Prop := mlk_M_lay 200 z (0:Int32)
theorem mok_M_lay_f : mok_M_lay = ok_M_lay := by delta mok_M_lay ok_M_lay; first | (rw [mlk_M_lay_f]; done) | (rw [mlk_M_lay_f]; rfl)
noncomputable def m_M_lay (x : Int32) (y : Int32) (z : Int32) (lh : Int64) (ll : Int64) : Int64 × Int64 :=
  mlf_M_lay 200 x y z (0:Int32) lh ll
theorem m_M_lay_f : sl m_M_lay = f_M_lay := (sl_eq m_M_lay).trans (by delta m_M_lay f_M_lay; first | (rw [mlf_M_lay_f]; done) | (rw [mlf_M_lay_f]; rfl))
noncomputable def mlf_M_layNumber : Nat → Int32 → Int32 → (Nat → Int64) → Int32 → Int64 → Int64 → Int64 × Int64
  | 0, _, _, _, _, _, _ => default
  | n + 1, x, y, w, x3, y0_7, y0_8 =>
    if y ≤ x3 then
      (y0_7, y0_8)
    else
      let u2 := ((sl m_M_bitOf) x3 w)
      let u3 := ((sl m_M_set) (x + x3) u2 y0_7 y0_8)
      mlf_M_layNumber n x y w (x3 + (1:Int32)) u3.1 u3.2
theorem mlf_M_layNumber_f : mlf_M_layNumber = lf_M_layNumber := by delta mlf_M_layNumber lf_M_layNumber; delta mlf_M_layNumber._f lf_M_layNumber._f; first | (rw [m_M_bitOf_f, m_M_set_f]; done) | (rw [m_M_bitOf_f, m_M_set_f]; rfl)
def mlk_M_layNumber : Nat → Int32 → Int32 → Prop
  | 0, _, _ => False
  | n + 1, y, x3 => ((y ≤ x3 → True) ∧ (¬ y ≤ x3 → (mok_M_bitOf x3 ∧ mlk_M_layNumber n y (x3 + (1:Int32)))))
theorem mlk_M_layNumber_f : mlk_M_layNumber = lk_M_layNumber := by delta mlk_M_layNumber lk_M_layNumber; delta mlk_M_layNumber._f lk_M_layNumber._f; first | (rw [mok_M_bitOf_f]; done) | (rw [mok_M_bitOf_f]; rfl)
def mok_M_layNumber (y : Int32) : Prop := mlk_M_layNumber 200 y (0:Int32)
theorem mok_M_layNumber_f : mok_M_layNumber = ok_M_layNumber := by delta mok_M_layNumber ok_M_layNumber; first | (rw [mlk_M_layNumber_f]; done) | (rw [mlk_M_layNumber_f]; rfl)
noncomputable def m_M_layNumber (x : Int32) (y : Int32) (lh : Int64) (ll : Int64) (w : Nat → Int64) : Int64 × Int64 :=
  mlf_M_layNumber 200 x y w (0:Int32) lh ll
theorem m_M_layNumber_f : sl m_M_layNumber = f_M_layNumber := (sl_eq m_M_layNumber).trans (by delta m_M_layNumber f_M_layNumber; first | (rw [mlf_M_layNumber_f]; done) | (rw [mlf_M_layNumber_f]; rfl))
noncomputable def m_M_mask (x : Int32) (lh : Int64) (ll : Int64) : Int64 × Int64 :=
  let u1 := ((sl m_M_width) x)
  if (128:Int32) ≤ u1 then
    if (64:Int32) ≤ u1 then
      (lh, ll)
    else
      (lh, (ll &&& ((lshl_ (1:Int64) u1) - (1:Int64))))
  else
    if (64:Int32) ≤ u1 then
      ((0:Int64), ll)
    else
      ((0:Int64), (ll &&& ((lshl_ (1:Int64) u1) - (1:Int64))))
theorem m_M_mask_f : sl m_M_mask = f_M_mask := (sl_eq m_M_mask).trans (by delta m_M_mask f_M_mask; first | (rw [m_M_width_f]; done) | (rw [m_M_width_f]; rfl))
def mok_M_takeAtMost (y : Int32) (z : Int32) (v : Int32) : Prop := (mok_M_take y ∧ (mok_M_power1 z ∧ ((vp_in ((v + (2:Int32)) / (32:Int32)) 12) ∧ ((vp_in ((v + (2:Int32)) / (32:Int32)) 12) ∧ mok_M_power1 z))))
theorem mok_M_takeAtMost_f : mok_M_takeAtMost = ok_M_takeAtMost := by delta mok_M_takeAtMost ok_M_takeAtMost; first | (rw [mok_M_take_f, mok_M_power1_f]; done) | (rw [mok_M_take_f, mok_M_power1_f]; rfl)
noncomputable def m_M_takeAtMost (x : Int32) (y : Int32) (z : Int32) (v : Int32) (lh : Int64) (ll : Int64) (w : Nat → Int64) : (Nat → Int64) :=
  let u1 := ((sl m_M_take) (0:Int32) y lh ll w)
  if x ≤ (0:Int32) then
    let u3 := ((sl m_M_power1) (10:Int32) z u1)
    let u4 := ((sl m_M_isBelow) u3)
    if (bI u4) = (0:Int32) then
      let u6 := ((sl m_M_be0) (0:Int64) u3)
      u6
    else
      u3
  else
    let u7 := ((sl m_M_power1) (10:Int32) z (vp_updL u1 (Int32.toNatClampNeg ((v + (2:Int32)) / (32:Int32))) ((u1 (Int32.toNatClampNeg ((v + (2:Int32)) / (32:Int32)))) ||| (lshl_ (1:Int64) ((v + (2:Int32)) - (v + (2:Int32)) / (32:Int32) * (32:Int32))))))
    let u8 := ((sl m_M_isBelow) u7)
    if (bI u8) = (0:Int32) then
      let u10 := ((sl m_M_be0) (0:Int64) u7)
      u10
    else
      u7
theorem m_M_takeAtMost_f : sl m_M_takeAtMost = f_M_takeAtMost := (sl_eq m_M_takeAtMost).trans (by delta m_M_takeAtMost f_M_takeAtMost; first | (rw [m_M_take_f, m_M_power1_f, m_M_isBelow_f, m_M_be0_f]; done) | (rw [m_M_take_f, m_M_power1_f, m_M_isBelow_f, m_M_be0_f]; rfl))
noncomputable def mlf_M_takeDigits : Nat → Int64 → Int64 → (Nat → Int32) → Int32 → ((Nat → Int64)) → (Nat → Int64)
  | 0, _, _, _, _, _ => default
  | n + 1, lh, ll, sp, x2, y1_a =>
    if x2 < (0:Int32) then
      y1_a
    else
      let u3 := ((sl m_M_field) ((10:Int32) * x2) (10:Int32) lh ll)
      let u4 := ((sl m_M_times0) (1000:Int32) (sp (Int32.toNatClampNeg u3)) y1_a)
      mlf_M_takeDigits n lh ll sp (x2 + (-1:Int32)) u4
theorem mlf_M_takeDigits_f : mlf_M_takeDigits = lf_M_takeDigits := by delta mlf_M_takeDigits lf_M_takeDigits; delta mlf_M_takeDigits._f lf_M_takeDigits._f; first | (rw [m_M_field_f, m_M_times0_f]; done) | (rw [m_M_field_f, m_M_times0_f]; rfl)
def mlk_M_takeDigits : Nat → Int64 → Int64 → Int32 → Prop
  | 0, _, _, _ => False
  | n + 1, lh, ll, x2 => ((x2 < (0:Int32) → True) ∧ (¬ x2 < (0:Int32) → (mok_M_field (10:Int32) ∧ (∀ u3, u3 = ((sl m_M_field) ((10:Int32) * x2) (10:Int32) lh ll) → ((vp_in u3 1024) ∧ mlk_M_takeDigits n lh ll (x2 + (-1:Int32)))))))
theorem mlk_M_takeDigits_f : mlk_M_takeDigits = lk_M_takeDigits := by delta mlk_M_takeDigits lk_M_takeDigits; delta mlk_M_takeDigits._f lk_M_takeDigits._f; first | (rw [mok_M_field_f, m_M_field_f]; done) | (rw [mok_M_field_f, m_M_field_f]; rfl)
def mok_M_takeDigits (x : Int32) (lh : Int64) (ll : Int64) : Prop := (∀ u1, u1 = ((sl m_M_tail) x) → mlk_M_takeDigits 200 lh ll ((u1 / (10:Int32)) - (1:Int32)))
theorem mok_M_takeDigits_f : mok_M_takeDigits = ok_M_takeDigits := by delta mok_M_takeDigits ok_M_takeDigits; first | (rw [m_M_tail_f, mlk_M_takeDigits_f]; done) | (rw [m_M_tail_f, mlk_M_takeDigits_f]; rfl)
noncomputable def m_M_takeDigits (x : Int32) (lh : Int64) (ll : Int64) (w : Nat → Int64) (sp : Nat → Int32) : (Nat → Int64) :=
  let u1 := ((sl m_M_tail) x)
  mlf_M_takeDigits 200 lh ll sp ((u1 / (10:Int32)) - (1:Int32)) w
theorem m_M_takeDigits_f : sl m_M_takeDigits = f_M_takeDigits := (sl_eq m_M_takeDigits).trans (by delta m_M_takeDigits f_M_takeDigits; first | (rw [m_M_tail_f, mlf_M_takeDigits_f]; done) | (rw [m_M_tail_f, mlf_M_takeDigits_f]; rfl))
def mok_M_openBinary (x : Int32) : Prop := (∀ u1, u1 = ((sl m_M_digitsOf) x) → (∀ u2, u2 = ((sl m_M_width) x) → (mok_M_field (u2 - u1) ∧ (mok_M_take (u1 - (1:Int32)) ∧ (mok_M_take (u1 - (2:Int32)) ∧ ((vp_in ((u1 - (1:Int32)) / (32:Int32)) 12) ∧ (vp_in ((u1 - (1:Int32)) / (32:Int32)) 12)))))))
theorem mok_M_openBinary_f : mok_M_openBinary = ok_M_openBinary := by delta mok_M_openBinary ok_M_openBinary; first | (rw [m_M_digitsOf_f, m_M_width_f, mok_M_field_f, mok_M_take_f]; done) | (rw [m_M_digitsOf_f, m_M_width_f, mok_M_field_f, mok_M_take_f]; rfl)
noncomputable def m_M_openBinary (x : Int32) (kd : Int32) (ex : Int32) (lh : Int64) (ll : Int64) (w : Nat → Int64) : Int32 × Int32 × (Nat → Int64) :=
  let u1 := ((sl m_M_digitsOf) x)
  let u2 := ((sl m_M_width) x)
  let u3 := ((sl m_M_field) (u1 - (1:Int32)) (u2 - u1) lh ll)
  let u4 := ((sl m_M_take) (0:Int32) (u1 - (1:Int32)) lh ll w)
  if u3 = (((1:Int32) <<< ((u2 - u1) &&& 31)) - (1:Int32)) then
    let u11 := ((sl m_M_isZero) u4)
    if (bI u11) = (0:Int32) then
      let u13 := ((sl m_M_bit) (u1 - (2:Int32)) lh ll)
      if u13 = (1:Int32) then
        let u16 := ((sl m_M_take) (0:Int32) (u1 - (2:Int32)) lh ll u4)
        ((2:Int32), ex, u16)
      else
        let u15 := ((sl m_M_take) (0:Int32) (u1 - (2:Int32)) lh ll u4)
        ((3:Int32), ex, u15)
    else
      ((1:Int32), ex, u4)
  else
    if u3 = (0:Int32) then
      let u9 := ((sl m_M_least) x)
      if u3 = (0:Int32) then
        (kd, u9, u4)
      else
        (kd, u9, (vp_updL u4 (Int32.toNatClampNeg ((u1 - (1:Int32)) / (32:Int32))) ((u4 (Int32.toNatClampNeg ((u1 - (1:Int32)) / (32:Int32)))) ||| (lshl_ (1:Int64) ((u1 - (1:Int32)) - (u1 - (1:Int32)) / (32:Int32) * (32:Int32))))))
    else
      let u7 := ((sl m_M_least) x)
      if u3 = (0:Int32) then
        (kd, ((u3 - (1:Int32)) + u7), u4)
      else
        (kd, ((u3 - (1:Int32)) + u7), (vp_updL u4 (Int32.toNatClampNeg ((u1 - (1:Int32)) / (32:Int32))) ((u4 (Int32.toNatClampNeg ((u1 - (1:Int32)) / (32:Int32)))) ||| (lshl_ (1:Int64) ((u1 - (1:Int32)) - (u1 - (1:Int32)) / (32:Int32) * (32:Int32))))))
theorem m_M_openBinary_f : sl m_M_openBinary = f_M_openBinary := (sl_eq m_M_openBinary).trans (by delta m_M_openBinary f_M_openBinary; first | (rw [m_M_digitsOf_f, m_M_width_f, m_M_field_f, m_M_take_f, m_M_isZero_f, m_M_bit_f, m_M_least_f]; done) | (rw [m_M_digitsOf_f, m_M_width_f, m_M_field_f, m_M_take_f, m_M_isZero_f, m_M_bit_f, m_M_least_f]; rfl))
