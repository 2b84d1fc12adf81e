def f_Long_compare (x : Int64) (y : Int64) : Int32 :=
  if (0:Int32) ≤ (lg_cmp x y) then
    if (lg_cmp x y) = (0:Int32) then
      (0:Int32)
    else
      (1:Int32)
  else
    (-1:Int32)
def f_Long_compareU (x : Int64) (y : Int64) : Int32 :=
  let u1 := (f_Long_compare (x + (-9223372036854775808:Int64)) (y + (-9223372036854775808:Int64)))
  u1
def f_W_ones (x : Int32) : Int64 :=
  ((lshl_ (1:Int64) x) - (1:Int64))
def f_W_set (x : Int64) (y : Int64) : Int64 × Int64 :=
  (x, y)
def f_W_copy (oh : Int64) (ol : Int64) : Int64 × Int64 :=
  let u1 := (f_W_set oh ol)
  (u1.1, u1.2)
def f_W_half (x : Bool) (wh : Int64) (wl : Int64) : Int64 :=
  if (bI x) = (0:Int32) then
    wl
  else
    wh
def f_W_isZero (wh : Int64) (wl : Int64) : Bool :=
  if (lg_cmp wh (0:Int64)) = (0:Int32) then
    if (lg_cmp wl (0:Int64)) = (0:Int32) then
      true
    else
      false
  else
    false
def f_W_isSame (wh : Int64) (wl : Int64) (oh : Int64) (ol : Int64) : Bool :=
  if (lg_cmp wh oh) = (0:Int32) then
    if (lg_cmp wl ol) = (0:Int32) then
      true
    else
      false
  else
    false
def f_W_isAbove (wh : Int64) (wl : Int64) (oh : Int64) (ol : Int64) : Bool :=
  if (lg_cmp wh oh) = (0:Int32) then
    let u4 := (f_Long_compareU wl ol)
    if u4 ≤ (0:Int32) then
      false
    else
      true
  else
    let u2 := (f_Long_compareU wh oh)
    if u2 ≤ (0:Int32) then
      false
    else
      true
def f_W_fits (x : Int32) (wh : Int64) (wl : Int64) : Bool :=
  if x < (64:Int32) then
    if (lg_cmp wh (0:Int64)) = (0:Int32) then
      if (lg_cmp (lushr_ wl x) (0:Int64)) = (0:Int32) then
        true
      else
        false
    else
      false
  else
    if (lg_cmp (lushr_ wh (x - (64:Int32))) (0:Int64)) = (0:Int32) then
      true
    else
      false
def f_W_keep (x : Int32) (wh : Int64) (wl : Int64) : Int64 × Int64 :=
  if x < (128:Int32) then
    if x < (64:Int32) then
      let u3 := (f_W_ones x)
      ((0:Int64), (wl &&& u3))
    else
      let u4 := (f_W_ones (x - (64:Int32)))
      ((wh &&& u4), wl)
  else
    (wh, wl)
def f_W_bitsAt (x : Int32) (y : Int32) (wh : Int64) (wl : Int64) : Int64 :=
  if x < (64:Int32) then
    if x = (0:Int32) then
      let u4 := (f_W_ones y)
      (wl &&& u4)
    else
      let u3 := (f_W_ones y)
      (((lushr_ wl x) ||| (lshl_ wh ((64:Int32) - x))) &&& u3)
  else
    let u5 := (f_W_ones y)
    ((lushr_ wh (x - (64:Int32))) &&& u5)
def f_W_addBits (x : Int32) (y : Int64) (wh : Int64) (wl : Int64) : Int64 × Int64 :=
  if x < (64:Int32) then
    if x ≤ (0:Int32) then
      (wh, (wl ||| (lshl_ y x)))
    else
      ((wh ||| (lushr_ y ((64:Int32) - x))), (wl ||| (lshl_ y x)))
  else
    ((wh ||| (lshl_ y (x - (64:Int32)))), wl)
def f_W_times (x : Int32) (y : Int32) (wh : Int64) (wl : Int64) : Int64 × Int64 :=
  let z1 := (((wl &&& (4294967295:Int64)) * (Int32.toInt64 x)) + (Int32.toInt64 y))
  let z2 := (((lushr_ wl (32:Int32)) * (Int32.toInt64 x)) + (lushr_ z1 (32:Int32)))
  let z3 := (((wh &&& (4294967295:Int64)) * (Int32.toInt64 x)) + (lushr_ z2 (32:Int32)))
  let z4 := (((lushr_ wh (32:Int32)) * (Int32.toInt64 x)) + (lushr_ z3 (32:Int32)))
  (((lshl_ z4 (32:Int32)) ||| (z3 &&& (4294967295:Int64))), ((lshl_ z2 (32:Int32)) ||| (z1 &&& (4294967295:Int64))))
def f_W_take (wh : Int64) (wl : Int64) : Int32 × Int64 × Int64 :=
  let z1 := ((lshl_ ((lushr_ wh (32:Int32)) - (lushr_ wh (32:Int32)) / (1000:Int64) * (1000:Int64)) (32:Int32)) ||| (wh &&& (4294967295:Int64)))
  let z2 := ((lshl_ (z1 - z1 / (1000:Int64) * (1000:Int64)) (32:Int32)) ||| (lushr_ wl (32:Int32)))
  let z3 := ((lshl_ (z2 - z2 / (1000:Int64) * (1000:Int64)) (32:Int32)) ||| (wl &&& (4294967295:Int64)))
  ((Int64.toInt32 (z3 - z3 / (1000:Int64) * (1000:Int64))), ((lshl_ ((lushr_ wh (32:Int32)) / (1000:Int64)) (32:Int32)) ||| (z1 / (1000:Int64))), ((lshl_ (z2 / (1000:Int64)) (32:Int32)) ||| (z3 / (1000:Int64))))
def f_D_init : Int32 × Bool × Int32 × Int64 × Int64 :=
  ((0:Int32), false, (0:Int32), 0, 0)
def f_D_become (x : Int32) (y : Int32) (bh : Int64) (bl : Int64) : Int32 × Int32 × Int64 × Int64 :=
  if x = (0:Int32) then
    if x = (1:Int32) then
      let u5 := (f_W_set (0:Int64) (0:Int64))
      (x, y, u5.1, u5.2)
    else
      (x, y, bh, bl)
  else
    if x = (1:Int32) then
      let u3 := (f_W_set (0:Int64) (0:Int64))
      (x, (0:Int32), u3.1, u3.2)
    else
      (x, (0:Int32), bh, bl)
def f_E_join (x : Int32) (y : Int32) (z : Int32) : Int32 :=
  ((((100:Int32) * x) + ((10:Int32) * y)) + z)
def f_E_bits (x : Int32) (y : Int32) (z : Int32) : Int32 :=
  (((x <<< ((7:Int32) &&& 31)) ||| (y <<< ((4:Int32) &&& 31))) ||| z)
def f_E_two (x : Int32) (y : Int32) (z : Int32) : Int32 :=
  if (y >>> ((1:Int32) &&& 31)) = (0:Int32) then
    let u2 := (f_E_join ((8:Int32) + (x &&& (1:Int32))) ((8:Int32) + (y &&& (1:Int32))) ((x &&& (6:Int32)) + z))
    u2
  else
    if (y >>> ((1:Int32) &&& 31)) = (1:Int32) then
      let u4 := (f_E_join ((8:Int32) + (x &&& (1:Int32))) ((x &&& (6:Int32)) + (y &&& (1:Int32))) ((8:Int32) + z))
      u4
    else
      if (y >>> ((1:Int32) &&& 31)) = (2:Int32) then
        let u6 := (f_E_join x ((8:Int32) + (y &&& (1:Int32))) ((8:Int32) + z))
        u6
      else
        let u7 := (f_E_join ((8:Int32) + (x &&& (1:Int32))) ((8:Int32) + (y &&& (1:Int32))) ((8:Int32) + z))
        u7
def f_E_read (x : Int32) : Int32 :=
  if (x &&& (8:Int32)) = (0:Int32) then
    let u9 := (f_E_join ((x >>> ((7:Int32) &&& 31)) &&& (7:Int32)) ((x >>> ((4:Int32) &&& 31)) &&& (7:Int32)) (x &&& (7:Int32)))
    u9
  else
    if ((x &&& (7:Int32)) >>> ((1:Int32) &&& 31)) = (0:Int32) then
      let u3 := (f_E_join ((x >>> ((7:Int32) &&& 31)) &&& (7:Int32)) ((x >>> ((4:Int32) &&& 31)) &&& (7:Int32)) ((8:Int32) + ((x &&& (7:Int32)) &&& (1:Int32))))
      u3
    else
      if ((x &&& (7:Int32)) >>> ((1:Int32) &&& 31)) = (1:Int32) then
        let u5 := (f_E_join ((x >>> ((7:Int32) &&& 31)) &&& (7:Int32)) ((8:Int32) + (((x >>> ((4:Int32) &&& 31)) &&& (7:Int32)) &&& (1:Int32))) ((((x >>> ((4:Int32) &&& 31)) &&& (7:Int32)) &&& (6:Int32)) + ((x &&& (7:Int32)) &&& (1:Int32))))
        u5
      else
        if ((x &&& (7:Int32)) >>> ((1:Int32) &&& 31)) = (2:Int32) then
          let u7 := (f_E_join ((8:Int32) + (((x >>> ((7:Int32) &&& 31)) &&& (7:Int32)) &&& (1:Int32))) ((x >>> ((4:Int32) &&& 31)) &&& (7:Int32)) ((((x >>> ((7:Int32) &&& 31)) &&& (7:Int32)) &&& (6:Int32)) + ((x &&& (7:Int32)) &&& (1:Int32))))
          u7
        else
          let u8 := (f_E_two ((x >>> ((7:Int32) &&& 31)) &&& (7:Int32)) ((x >>> ((4:Int32) &&& 31)) &&& (7:Int32)) ((x &&& (7:Int32)) &&& (1:Int32)))
          u8
def f_E_write (x : Int32) : Int32 :=
  let z1 := (((x / (10:Int32)) - (x / (10:Int32)) / (10:Int32) * (10:Int32)) &&& (1:Int32))
  if (((((x / (100:Int32)) &&& (8:Int32)) >>> ((1:Int32) &&& 31)) ||| ((((x / (10:Int32)) - (x / (10:Int32)) / (10:Int32) * (10:Int32)) &&& (8:Int32)) >>> ((2:Int32) &&& 31))) ||| (((x - x / (10:Int32) * (10:Int32)) &&& (8:Int32)) >>> ((3:Int32) &&& 31))) = (0:Int32) then
    let u3 := (f_E_bits (x / (100:Int32)) ((x / (10:Int32)) - (x / (10:Int32)) / (10:Int32) * (10:Int32)) (x - x / (10:Int32) * (10:Int32)))
    u3
  else
    if (((((x / (100:Int32)) &&& (8:Int32)) >>> ((1:Int32) &&& 31)) ||| ((((x / (10:Int32)) - (x / (10:Int32)) / (10:Int32) * (10:Int32)) &&& (8:Int32)) >>> ((2:Int32) &&& 31))) ||| (((x - x / (10:Int32) * (10:Int32)) &&& (8:Int32)) >>> ((3:Int32) &&& 31))) = (1:Int32) then
      let u5 := (f_E_bits (x / (100:Int32)) ((x / (10:Int32)) - (x / (10:Int32)) / (10:Int32) * (10:Int32)) ((8:Int32) ||| ((x - x / (10:Int32) * (10:Int32)) &&& (1:Int32))))
      u5
    else
      if (((((x / (100:Int32)) &&& (8:Int32)) >>> ((1:Int32) &&& 31)) ||| ((((x / (10:Int32)) - (x / (10:Int32)) / (10:Int32) * (10:Int32)) &&& (8:Int32)) >>> ((2:Int32) &&& 31))) ||| (((x - x / (10:Int32) * (10:Int32)) &&& (8:Int32)) >>> ((3:Int32) &&& 31))) = (2:Int32) then
        let u7 := (f_E_bits (x / (100:Int32)) (((x - x / (10:Int32) * (10:Int32)) &&& (6:Int32)) ||| z1) ((10:Int32) ||| ((x - x / (10:Int32) * (10:Int32)) &&& (1:Int32))))
        u7
      else
        if (((((x / (100:Int32)) &&& (8:Int32)) >>> ((1:Int32) &&& 31)) ||| ((((x / (10:Int32)) - (x / (10:Int32)) / (10:Int32) * (10:Int32)) &&& (8:Int32)) >>> ((2:Int32) &&& 31))) ||| (((x - x / (10:Int32) * (10:Int32)) &&& (8:Int32)) >>> ((3:Int32) &&& 31))) = (3:Int32) then
          let u9 := (f_E_bits (x / (100:Int32)) ((4:Int32) ||| z1) ((14:Int32) ||| ((x - x / (10:Int32) * (10:Int32)) &&& (1:Int32))))
          u9
        else
          if (((((x / (100:Int32)) &&& (8:Int32)) >>> ((1:Int32) &&& 31)) ||| ((((x / (10:Int32)) - (x / (10:Int32)) / (10:Int32) * (10:Int32)) &&& (8:Int32)) >>> ((2:Int32) &&& 31))) ||| (((x - x / (10:Int32) * (10:Int32)) &&& (8:Int32)) >>> ((3:Int32) &&& 31))) = (4:Int32) then
            let u11 := (f_E_bits (((x - x / (10:Int32) * (10:Int32)) &&& (6:Int32)) ||| ((x / (100:Int32)) &&& (1:Int32))) ((x / (10:Int32)) - (x / (10:Int32)) / (10:Int32) * (10:Int32)) ((12:Int32) ||| ((x - x / (10:Int32) * (10:Int32)) &&& (1:Int32))))
            u11
          else
            if (((((x / (100:Int32)) &&& (8:Int32)) >>> ((1:Int32) &&& 31)) ||| ((((x / (10:Int32)) - (x / (10:Int32)) / (10:Int32) * (10:Int32)) &&& (8:Int32)) >>> ((2:Int32) &&& 31))) ||| (((x - x / (10:Int32) * (10:Int32)) &&& (8:Int32)) >>> ((3:Int32) &&& 31))) = (5:Int32) then
              let u13 := (f_E_bits ((((x / (10:Int32)) - (x / (10:Int32)) / (10:Int32) * (10:Int32)) &&& (6:Int32)) ||| ((x / (100:Int32)) &&& (1:Int32))) ((2:Int32) ||| z1) ((14:Int32) ||| ((x - x / (10:Int32) * (10:Int32)) &&& (1:Int32))))
              u13
            else
              if (((((x / (100:Int32)) &&& (8:Int32)) >>> ((1:Int32) &&& 31)) ||| ((((x / (10:Int32)) - (x / (10:Int32)) / (10:Int32) * (10:Int32)) &&& (8:Int32)) >>> ((2:Int32) &&& 31))) ||| (((x - x / (10:Int32) * (10:Int32)) &&& (8:Int32)) >>> ((3:Int32) &&& 31))) = (6:Int32) then
                let u15 := (f_E_bits (((x - x / (10:Int32) * (10:Int32)) &&& (6:Int32)) ||| ((x / (100:Int32)) &&& (1:Int32))) z1 ((14:Int32) ||| ((x - x / (10:Int32) * (10:Int32)) &&& (1:Int32))))
                u15
              else
                let u16 := (f_E_bits ((x / (100:Int32)) &&& (1:Int32)) ((6:Int32) ||| z1) ((14:Int32) ||| ((x - x / (10:Int32) * (10:Int32)) &&& (1:Int32))))
                u16
def f_B_hasNumber (fp : Int32) (fl : Int32) (ft : Int32) (ex : Int32) (bh : Int64) (bl : Int64) : Bool :=
  let u1 := (f_W_fits ft bh bl)
  if (bI u1) = (0:Int32) then
    let u3 := (f_W_fits fp bh bl)
    u3
  else
    if ex = fl then
      true
    else
      false
def f_B_hasNan (ft : Int32) (kd : Int32) (bh : Int64) (bl : Int64) : Bool :=
  if kd = (3:Int32) then
    let u5 := (f_W_isZero bh bl)
    if (bI u5) = (0:Int32) then
      let u7 := (f_W_fits (ft - (1:Int32)) bh bl)
      if (bI u7) = (0:Int32) then
        false
      else
        true
    else
      let u10 := (f_W_fits (ft - (1:Int32)) bh bl)
      if (bI u10) = (0:Int32) then
        false
      else
        false
  else
    let u2 := (f_W_fits (ft - (1:Int32)) bh bl)
    if (bI u2) = (0:Int32) then
      false
    else
      true
def f_B_special (ft : Int32) (bh : Int64) (bl : Int64) : Int32 × Int32 × Int64 × Int64 :=
  let u1 := (f_W_isZero bh bl)
  if (bI u1) = (0:Int32) then
    let u3 := (f_W_bitsAt (ft - (1:Int32)) (1:Int32) bh bl)
    if (lg_cmp u3 (1:Int64)) = (0:Int32) then
      let u8 := (f_W_keep (ft - (1:Int32)) bh bl)
      let u10 := (f_D_become (2:Int32) (0:Int32) u8.1 u8.2)
      (u10.1, u10.2.1, u10.2.2.1, u10.2.2.2)
    else
      let u5 := (f_W_keep (ft - (1:Int32)) bh bl)
      let u7 := (f_D_become (3:Int32) (0:Int32) u5.1 u5.2)
      (u7.1, u7.2.1, u7.2.2.1, u7.2.2.2)
  else
    let u11 := (f_D_become (1:Int32) (0:Int32) bh bl)
    (u11.1, u11.2.1, u11.2.2.1, u11.2.2.2)
def f_B_readU (fl : Int32) (ft : Int32) (ff : Int32) (fu : Int64) (wh : Int64) (wl : Int64) : Int32 × Int32 × Int64 × Int64 :=
  let u1 := (f_W_bitsAt ft ff wh wl)
  let u2 := (f_W_copy wh wl)
  let u3 := (f_W_keep ft u2.1 u2.2)
  if (lg_cmp u1 fu) = (0:Int32) then
    let u9 := (f_B_special ft u3.1 u3.2)
    (u9.1, u9.2.1, u9.2.2.1, u9.2.2.2)
  else
    if (lg_cmp u1 (0:Int64)) = (0:Int32) then
      let u8 := (f_D_become (0:Int32) fl u3.1 u3.2)
      (u8.1, u8.2.1, u8.2.2.1, u8.2.2.2)
    else
      let u6 := (f_W_addBits ft (1:Int64) u3.1 u3.2)
      let u7 := (f_D_become (0:Int32) (((Int64.toInt32 u1) - (1:Int32)) + fl) u6.1 u6.2)
      (u7.1, u7.2.1, u7.2.2.1, u7.2.2.2)
def f_B_fieldOf (fl : Int32) (ft : Int32) (fu : Int64) (kd : Int32) (ex : Int32) (bh : Int64) (bl : Int64) : Int64 :=
  if kd = (0:Int32) then
    let u2 := (f_W_fits ft bh bl)
    if (bI u2) = (0:Int32) then
      (Int32.toInt64 ((ex - fl) + (1:Int32)))
    else
      (0:Int64)
  else
    fu
def f_B_writeU (fl : Int32) (ft : Int32) (fu : Int64) (kd : Int32) (ex : Int32) (bh : Int64) (bl : Int64) : Int64 × Int64 :=
  let u1 := (f_W_copy bh bl)
  let u2 := (f_W_keep ft u1.1 u1.2)
  let u3 := (f_B_fieldOf fl ft fu kd ex bh bl)
  let u4 := (f_W_addBits ft u3 u2.1 u2.2)
  if kd = (2:Int32) then
    let u6 := (f_W_addBits (ft - (1:Int32)) (1:Int64) u4.1 u4.2)
    (u6.1, u6.2)
  else
    (u4.1, u4.2)
def f_B_has (fp : Int32) (fl : Int32) (fg : Int32) (ft : Int32) (kd : Int32) (ex : Int32) (bh : Int64) (bl : Int64) : Bool :=
  if kd = (0:Int32) then
    if ex < fl then
      false
    else
      if fg < ex then
        false
      else
        let u4 := (f_B_hasNumber fp fl ft ex bh bl)
        if (bI u4) = (0:Int32) then
          false
        else
          true
  else
    if kd = (1:Int32) then
      true
    else
      let u7 := (f_B_hasNan ft kd bh bl)
      u7
def f_B_cut (x : Int64) (y : Int64) (fb : Int32) : Int64 × Int64 :=
  let u1 := (f_W_set x y)
  let u2 := (f_W_keep fb u1.1 u1.2)
  (u2.1, u2.2)
def f_B_read (fb : Int32) (fl : Int32) (ft : Int32) (ff : Int32) (fu : Int64) (wh : Int64) (wl : Int64) : Int32 × Bool × Int32 × Int64 × Int64 :=
  let u1 := (f_W_bitsAt (fb - (1:Int32)) (1:Int32) wh wl)
  if (lg_cmp u1 (1:Int64)) = (0:Int32) then
    let u4 := (f_B_readU fl ft ff fu wh wl)
    (u4.1, true, u4.2.1, u4.2.2.1, u4.2.2.2)
  else
    let u3 := (f_B_readU fl ft ff fu wh wl)
    (u3.1, false, u3.2.1, u3.2.2.1, u3.2.2.2)
def f_B_write (fb : Int32) (fp : Int32) (fl : Int32) (fg : Int32) (ft : Int32) (fu : Int64) (kd : Int32) (ng : Bool) (ex : Int32) (bh : Int64) (bl : Int64) (wh : Int64) (wl : Int64) : Bool × Int64 × Int64 :=
  let u1 := (f_B_has fp fl fg ft kd ex bh bl)
  if (bI u1) = (0:Int32) then
    (false, wh, wl)
  else
    let u3 := (f_W_set (0:Int64) (0:Int64))
    let u4 := (f_B_writeU fl ft fu kd ex bh bl)
    if (bI ng) = (0:Int32) then
      (true, u4.1, u4.2)
    else
      let u6 := (f_W_addBits (fb - (1:Int32)) (1:Int64) u4.1 u4.2)
      (true, u6.1, u6.2)
def f_P_begins (x : Int64) (fh : Int32) : Bool :=
  if (lg_cmp (lushr_ x (fh - (2:Int32))) (3:Int64)) = (0:Int32) then
    true
  else
    false
def f_P_fieldOf (x : Int64) (fh : Int32) : Int64 :=
  let u1 := (f_P_begins x fh)
  if (bI u1) = (0:Int32) then
    (lushr_ x (3:Int32))
  else
    let u3 := (f_W_ones (fh - (3:Int32)))
    ((lushr_ x (1:Int32)) &&& u3)
def f_P_leadOf (x : Int64) (fh : Int32) : Int32 :=
  let u1 := (f_P_begins x fh)
  if (bI u1) = (0:Int32) then
    (Int64.toInt32 (x &&& (7:Int64)))
  else
    ((8:Int32) + (Int64.toInt32 (x &&& (1:Int64))))
def f_P_headOf (x : Int64) (y : Int32) (fh : Int32) : Int64 :=
  if (8:Int32) ≤ y then
    (((lshl_ (3:Int64) (fh - (2:Int32))) ||| (lshl_ x (1:Int32))) ||| (Int32.toInt64 (y &&& (1:Int32))))
  else
    ((lshl_ x (3:Int32)) ||| (Int32.toInt64 y))
def f_P_hasNumber (mnh : Int64) (mnl : Int64) (bh : Int64) (bl : Int64) : Bool :=
  let u1 := (f_W_isAbove bh bl mnh mnl)
  if (bI u1) = (0:Int32) then
    true
  else
    false
def f_P_hasNan (mph : Int64) (mpl : Int64) (bh : Int64) (bl : Int64) : Bool :=
  let u1 := (f_W_isAbove bh bl mph mpl)
  if (bI u1) = (0:Int32) then
    true
  else
    false
def f_P_headFor (x : Int32) (fl : Int32) (fh : Int32) (kd : Int32) (ex : Int32) : Int64 :=
  if kd = (0:Int32) then
    let u2 := (f_P_headOf (Int32.toInt64 (ex - fl)) x fh)
    u2
  else
    if kd = (1:Int32) then
      (lshl_ (30:Int64) (fh - (5:Int32)))
    else
      if kd = (2:Int32) then
        (lshl_ (31:Int64) (fh - (5:Int32)))
      else
        (lshl_ (63:Int64) (fh - (6:Int32)))
def f_P_readBody (x : Int32) (ft : Int32) (moh : Int64) (mol : Int64) (wh : Int64) (wl : Int64) : Int64 × Int64 :=
  let u1 := (f_W_copy wh wl)
  let u2 := (f_W_keep ft u1.1 u1.2)
  let u3 := (f_W_addBits ft (Int32.toInt64 x) u2.1 u2.2)
  let u4 := (f_W_isAbove u3.1 u3.2 moh mol)
  if (bI u4) = (0:Int32) then
    (u3.1, u3.2)
  else
    let u6 := (f_W_set (0:Int64) (0:Int64))
    (u6.1, u6.2)
def f_P_writeTail (ft : Int32) (bh : Int64) (bl : Int64) : Int32 × Int64 × Int64 :=
  let u1 := (f_W_copy bh bl)
  let u2 := (f_W_keep ft u1.1 u1.2)
  let u3 := (f_W_bitsAt ft (4:Int32) bh bl)
  ((Int64.toInt32 u3), u2.1, u2.2)
def f_P_readU (fl : Int32) (ft : Int32) (fh : Int32) (mnh : Int64) (mnl : Int64) (mph : Int64) (mpl : Int64) (wh : Int64) (wl : Int64) (bh : Int64) (bl : Int64) : Int32 × Int32 × Int64 × Int64 :=
  let u1 := (f_W_bitsAt ft fh wh wl)
  if (lg_cmp (lushr_ u1 (fh - (5:Int32))) (31:Int64)) = (0:Int32) then
    if (lg_cmp ((lushr_ u1 (fh - (6:Int32))) &&& (1:Int64)) (1:Int64)) = (0:Int32) then
      let u13 := (f_P_readBody (0:Int32) ft mph mpl wh wl)
      let u15 := (f_D_become (3:Int32) (0:Int32) u13.1 u13.2)
      (u15.1, u15.2.1, u15.2.2.1, u15.2.2.2)
    else
      let u10 := (f_P_readBody (0:Int32) ft mph mpl wh wl)
      let u12 := (f_D_become (2:Int32) (0:Int32) u10.1 u10.2)
      (u12.1, u12.2.1, u12.2.2.1, u12.2.2.2)
  else
    if (lg_cmp (lushr_ u1 (fh - (5:Int32))) (30:Int64)) = (0:Int32) then
      let u8 := (f_D_become (1:Int32) (0:Int32) bh bl)
      (u8.1, u8.2.1, u8.2.2.1, u8.2.2.2)
    else
      let u4 := (f_P_leadOf u1 fh)
      let u5 := (f_P_readBody u4 ft mnh mnl wh wl)
      let u6 := (f_P_fieldOf u1 fh)
      let u7 := (f_D_become (0:Int32) ((Int64.toInt32 u6) + fl) u5.1 u5.2)
      (u7.1, u7.2.1, u7.2.2.1, u7.2.2.2)
def f_P_writeU (fl : Int32) (ft : Int32) (fh : Int32) (kd : Int32) (ex : Int32) (bh : Int64) (bl : Int64) : Int64 × Int64 :=
  let u1 := (f_P_writeTail ft bh bl)
  let u2 := (f_P_headFor u1.1 fl fh kd ex)
  let u3 := (f_W_addBits ft u2 u1.2.1 u1.2.2)
  (u3.1, u3.2)
def f_P_has (fl : Int32) (fg : Int32) (mnh : Int64) (mnl : Int64) (mph : Int64) (mpl : Int64) (kd : Int32) (ex : Int32) (bh : Int64) (bl : Int64) : Bool :=
  if kd = (0:Int32) then
    if ex < fl then
      false
    else
      if fg < ex then
        false
      else
        let u4 := (f_P_hasNumber mnh mnl bh bl)
        if (bI u4) = (0:Int32) then
          false
        else
          true
  else
    if kd = (1:Int32) then
      true
    else
      let u7 := (f_P_hasNan mph mpl bh bl)
      u7
def f_P_cut (x : Int64) (y : Int64) (fb : Int32) : Int64 × Int64 :=
  let u1 := (f_W_set x y)
  let u2 := (f_W_keep fb u1.1 u1.2)
  (u2.1, u2.2)
def f_P_read (fb : Int32) (fl : Int32) (ft : Int32) (fh : Int32) (mnh : Int64) (mnl : Int64) (mph : Int64) (mpl : Int64) (wh : Int64) (wl : Int64) (bh : Int64) (bl : Int64) : Int32 × Bool × Int32 × Int64 × Int64 :=
  let u1 := (f_W_bitsAt (fb - (1:Int32)) (1:Int32) wh wl)
  if (lg_cmp u1 (1:Int64)) = (0:Int32) then
    let u4 := (f_P_readU fl ft fh mnh mnl mph mpl wh wl bh bl)
    (u4.1, true, u4.2.1, u4.2.2.1, u4.2.2.2)
  else
    let u3 := (f_P_readU fl ft fh mnh mnl mph mpl wh wl bh bl)
    (u3.1, false, u3.2.1, u3.2.2.1, u3.2.2.2)
def f_P_write (fb : Int32) (fl : Int32) (fg : Int32) (ft : Int32) (fh : Int32) (mnh : Int64) (mnl : Int64) (mph : Int64) (mpl : Int64) (kd : Int32) (ng : Bool) (ex : Int32) (bh : Int64) (bl : Int64) (wh : Int64) (wl : Int64) : Bool × Int64 × Int64 :=
  let u1 := (f_P_has fl fg mnh mnl mph mpl kd ex bh bl)
  if (bI u1) = (0:Int32) then
    (false, wh, wl)
  else
    let u3 := (f_W_set (0:Int64) (0:Int64))
    let u4 := (f_P_writeU fl ft fh kd ex bh bl)
    if (bI ng) = (0:Int32) then
      (true, u4.1, u4.2)
    else
      let u6 := (f_W_addBits (fb - (1:Int32)) (1:Int64) u4.1 u4.2)
      (true, u6.1, u6.2)
def f_T_begins (x : Int64) (fh : Int32) : Bool :=
  if (lg_cmp (lushr_ x (fh - (2:Int32))) (3:Int64)) = (0:Int32) then
    true
  else
    false
def f_T_fieldOf (x : Int64) (fh : Int32) (fr : Int32) : Int64 :=
  let u1 := (f_T_begins x fh)
  if (bI u1) = (0:Int32) then
    let u3 := (f_W_ones fr)
    ((lshl_ (lushr_ x (fr + (3:Int32))) fr) ||| (x &&& u3))
  else
    let u4 := (f_W_ones fr)
    ((lshl_ ((lushr_ x (fr + (1:Int32))) &&& (3:Int64)) fr) ||| (x &&& u4))
def f_T_leadOf (x : Int64) (fh : Int32) (fr : Int32) : Int32 :=
  let u1 := (f_T_begins x fh)
  if (bI u1) = (0:Int32) then
    (Int64.toInt32 ((lushr_ x fr) &&& (7:Int64)))
  else
    ((8:Int32) + (Int64.toInt32 ((lushr_ x fr) &&& (1:Int64))))
def f_T_headOf (x : Int64) (y : Int32) (fr : Int32) : Int64 :=
  if (8:Int32) ≤ y then
    let z2 := (((24:Int64) ||| (lshl_ (lushr_ x fr) (1:Int32))) ||| (Int32.toInt64 (y &&& (1:Int32))))
    let u3 := (f_W_ones fr)
    ((lshl_ z2 fr) ||| (x &&& u3))
  else
    let u4 := (f_W_ones fr)
    ((lshl_ ((lshl_ (lushr_ x fr) (3:Int32)) ||| (Int32.toInt64 y)) fr) ||| (x &&& u4))
def f_T_hasNumber (mnh : Int64) (mnl : Int64) (bh : Int64) (bl : Int64) : Bool :=
  let u1 := (f_W_isAbove bh bl mnh mnl)
  if (bI u1) = (0:Int32) then
    true
  else
    false
def f_T_hasNan (mph : Int64) (mpl : Int64) (bh : Int64) (bl : Int64) : Bool :=
  let u1 := (f_W_isAbove bh bl mph mpl)
  if (bI u1) = (0:Int32) then
    true
  else
    false
def f_T_headFor (x : Int32) (fl : Int32) (fh : Int32) (fr : Int32) (kd : Int32) (ex : Int32) : Int64 :=
  if kd = (0:Int32) then
    let u2 := (f_T_headOf (Int32.toInt64 (ex - fl)) x fr)
    u2
  else
    if kd = (1:Int32) then
      (lshl_ (30:Int64) (fh - (5:Int32)))
    else
      if kd = (2:Int32) then
        (lshl_ (31:Int64) (fh - (5:Int32)))
      else
        (lshl_ (63:Int64) (fh - (6:Int32)))
def lf_T_readBody : Nat → Int64 → Int64 → Int32 → Int64 → Int64 → Int64 × Int64
  | 0, _, _, _, _, _ => default
  | n + 1, wh, wl, x5, y2_0, y2_1 =>
    if x5 < (0:Int32) then
      (y2_0, y2_1)
    else
      let u3 := (f_W_bitsAt ((10:Int32) * x5) (10:Int32) wh wl)
      let u4 := (f_E_read (Int64.toInt32 u3))
      let u5 := (f_W_times (1000:Int32) u4 y2_0 y2_1)
      lf_T_readBody n wh wl (x5 + (-1:Int32)) u5.1 u5.2
def lk_T_readBody : Nat → Int32 → Prop
  | 0, _ => False
  | n + 1, x5 => ((x5 < (0:Int32) → True) ∧ (¬ x5 < (0:Int32) → lk_T_readBody n (x5 + (-1:Int32))))
def ok_T_readBody (fd : Int32) : Prop := lk_T_readBody 40 (fd - (1:Int32))
def f_T_readBody (x : Int32) (fd : Int32) (wh : Int64) (wl : Int64) : Int64 × Int64 :=
  let u1 := (f_W_set (0:Int64) (Int32.toInt64 x))
  lf_T_readBody 40 wh wl (fd - (1:Int32)) u1.1 u1.2
def lf_T_writeTail : Nat → Int32 → Int32 → Int64 → Int64 → Int64 → Int64 → Int32 × Int64 × Int64 × Int64 × Int64
  | 0, _, _, _, _, _, _ => default
  | n + 1, fd, x3, y1_0, y1_1, y2_0, y2_1 =>
    if fd ≤ x3 then
      let u3 := (f_W_half false y2_0 y2_1)
      ((Int64.toInt32 u3), y2_0, y2_1, y1_0, y1_1)
    else
      let u4 := (f_W_take y2_0 y2_1)
      let u5 := (f_E_write u4.1)
      let u6 := (f_W_addBits ((10:Int32) * x3) (Int32.toInt64 u5) y1_0 y1_1)
      lf_T_writeTail n fd (x3 + (1:Int32)) u6.1 u6.2 u4.2.1 u4.2.2
def lk_T_writeTail : Nat → Int32 → Int32 → Prop
  | 0, _, _ => False
  | n + 1, fd, x3 => ((fd ≤ x3 → True) ∧ (¬ fd ≤ x3 → lk_T_writeTail n fd (x3 + (1:Int32))))
def ok_T_writeTail (fd : Int32) : Prop := lk_T_writeTail 40 fd (0:Int32)
def f_T_writeTail (fd : Int32) (bh : Int64) (bl : Int64) (wh : Int64) (wl : Int64) : Int32 × Int64 × Int64 × Int64 × Int64 :=
  let u1 := (f_W_copy bh bl)
  lf_T_writeTail 40 fd (0:Int32) wh wl u1.1 u1.2
def ok_T_readU (fd : Int32) : Prop := ok_T_readBody fd
def f_T_readU (fl : Int32) (fd : Int32) (ft : Int32) (fh : Int32) (fr : Int32) (wh : Int64) (wl : Int64) (bh : Int64) (bl : Int64) : Int32 × Int32 × Int64 × Int64 :=
  let u1 := (f_W_bitsAt ft fh wh wl)
  if (lg_cmp (lushr_ u1 (fh - (5:Int32))) (31:Int64)) = (0:Int32) then
    if (lg_cmp ((lushr_ u1 (fh - (6:Int32))) &&& (1:Int64)) (1:Int64)) = (0:Int32) then
      let u13 := (f_T_readBody (0:Int32) fd wh wl)
      let u15 := (f_D_become (3:Int32) (0:Int32) u13.1 u13.2)
      (u15.1, u15.2.1, u15.2.2.1, u15.2.2.2)
    else
      let u10 := (f_T_readBody (0:Int32) fd wh wl)
      let u12 := (f_D_become (2:Int32) (0:Int32) u10.1 u10.2)
      (u12.1, u12.2.1, u12.2.2.1, u12.2.2.2)
  else
    if (lg_cmp (lushr_ u1 (fh - (5:Int32))) (30:Int64)) = (0:Int32) then
      let u8 := (f_D_become (1:Int32) (0:Int32) bh bl)
      (u8.1, u8.2.1, u8.2.2.1, u8.2.2.2)
    else
      let u4 := (f_T_leadOf u1 fh fr)
      let u5 := (f_T_readBody u4 fd wh wl)
      let u6 := (f_T_fieldOf u1 fh fr)
      let u7 := (f_D_become (0:Int32) ((Int64.toInt32 u6) + fl) u5.1 u5.2)
      (u7.1, u7.2.1, u7.2.2.1, u7.2.2.2)
def ok_T_writeU (fd : Int32) : Prop := ok_T_writeTail fd
def f_T_writeU (fl : Int32) (fd : Int32) (ft : Int32) (fh : Int32) (fr : Int32) (kd : Int32) (ex : Int32) (bh : Int64) (bl : Int64) (wh : Int64) (wl : Int64) : Int64 × Int64 × Int64 × Int64 :=
  let u1 := (f_T_writeTail fd bh bl wh wl)
  let u2 := (f_T_headFor u1.1 fl fh fr kd ex)
  let u3 := (f_W_addBits ft u2 u1.2.2.2.1 u1.2.2.2.2)
  (u1.2.1, u1.2.2.1, u3.1, u3.2)
def f_T_has (fl : Int32) (fg : Int32) (mnh : Int64) (mnl : Int64) (mph : Int64) (mpl : Int64) (kd : Int32) (ex : Int32) (bh : Int64) (bl : Int64) : Bool :=
  if kd = (0:Int32) then
    if ex < fl then
      false
    else
      if fg < ex then
        false
      else
        let u4 := (f_T_hasNumber mnh mnl bh bl)
        if (bI u4) = (0:Int32) then
          false
        else
          true
  else
    if kd = (1:Int32) then
      true
    else
      let u7 := (f_T_hasNan mph mpl bh bl)
      u7
def f_T_cut (x : Int64) (y : Int64) (fb : Int32) : Int64 × Int64 :=
  let u1 := (f_W_set x y)
  let u2 := (f_W_keep fb u1.1 u1.2)
  (u2.1, u2.2)
def ok_T_read (fd : Int32) : Prop := ok_T_readU fd
def f_T_read (fb : Int32) (fl : Int32) (fd : Int32) (ft : Int32) (fh : Int32) (fr : Int32) (wh : Int64) (wl : Int64) (bh : Int64) (bl : Int64) : Int32 × Bool × Int32 × Int64 × Int64 :=
  let u1 := (f_W_bitsAt (fb - (1:Int32)) (1:Int32) wh wl)
  if (lg_cmp u1 (1:Int64)) = (0:Int32) then
    let u4 := (f_T_readU fl fd ft fh fr wh wl bh bl)
    (u4.1, true, u4.2.1, u4.2.2.1, u4.2.2.2)
  else
    let u3 := (f_T_readU fl fd ft fh fr wh wl bh bl)
    (u3.1, false, u3.2.1, u3.2.2.1, u3.2.2.2)
def ok_T_write (fd : Int32) : Prop := ok_T_writeU fd
def f_T_write (fb : Int32) (fl : Int32) (fg : Int32) (fd : Int32) (ft : Int32) (fh : Int32) (fr : Int32) (mnh : Int64) (mnl : Int64) (mph : Int64) (mpl : Int64) (lfh : Int64) (lfl : Int64) (kd : Int32) (ng : Bool) (ex : Int32) (bh : Int64) (bl : Int64) (wh : Int64) (wl : Int64) : Bool × Int64 × Int64 × Int64 × Int64 :=
  let u1 := (f_T_has fl fg mnh mnl mph mpl kd ex bh bl)
  if (bI u1) = (0:Int32) then
    (false, lfh, lfl, wh, wl)
  else
    let u3 := (f_W_set (0:Int64) (0:Int64))
    let u4 := (f_T_writeU fl fd ft fh fr kd ex bh bl u3.1 u3.2)
    if (bI ng) = (0:Int32) then
      (true, u4.1, u4.2.1, u4.2.2.1, u4.2.2.2)
    else
      let u6 := (f_W_addBits (fb - (1:Int32)) (1:Int64) u4.2.2.1 u4.2.2.2)
      (true, u4.1, u4.2.1, u6.1, u6.2)
def f_M_thrown (co : Int32) : Int32 :=
  co
def f_M_isFormat (x : Int32) : Bool :=
  if x < (0:Int32) then
    false
  else
    if (10:Int32) ≤ x then
      false
    else
      true
def f_M_width (x : Int32) : Int32 :=
  if (4:Int32) ≤ x then
    ((32:Int32) <<< (((x - (4:Int32)) - (x - (4:Int32)) / (3:Int32) * (3:Int32)) &&& 31))
  else
    ((16:Int32) <<< (x &&& 31))
def f_M_digitsOf (x : Int32) : Int32 :=
  if x = (0:Int32) then
    (11:Int32)
  else
    if x = (1:Int32) then
      (24:Int32)
    else
      if x = (2:Int32) then
        (53:Int32)
      else
        if x = (3:Int32) then
          (113:Int32)
        else
          if ((x - (4:Int32)) - (x - (4:Int32)) / (3:Int32) * (3:Int32)) = (0:Int32) then
            (7:Int32)
          else
            if ((x - (4:Int32)) - (x - (4:Int32)) / (3:Int32) * (3:Int32)) = (1:Int32) then
              (16:Int32)
            else
              (34:Int32)
def f_M_most (x : Int32) : Int32 :=
  if x = (0:Int32) then
    (15:Int32)
  else
    if x = (1:Int32) then
      (127:Int32)
    else
      if x = (2:Int32) then
        (1023:Int32)
      else
        if x = (3:Int32) then
          (16383:Int32)
        else
          if ((x - (4:Int32)) - (x - (4:Int32)) / (3:Int32) * (3:Int32)) = (0:Int32) then
            (96:Int32)
          else
            if ((x - (4:Int32)) - (x - (4:Int32)) / (3:Int32) * (3:Int32)) = (1:Int32) then
              (384:Int32)
            else
              (6144:Int32)
def f_M_least (x : Int32) : Int32 :=
  let u1 := (f_M_most x)
  let u2 := (f_M_digitsOf x)
  (((2:Int32) - u1) - u2)
def f_M_greatest (x : Int32) : Int32 :=
  let u1 := (f_M_most x)
  let u2 := (f_M_digitsOf x)
  ((u1 + (1:Int32)) - u2)
def f_M_tail (x : Int32) : Int32 :=
  let u1 := (f_M_digitsOf x)
  ((10:Int32) * ((u1 - (1:Int32)) / (3:Int32)))
def f_M_be0 (x : Int64) (w : Nat → Int64) : (Nat → Int64) :=
  (vp_updL (vp_updL (vp_updL (vp_updL w 0 (x &&& (4294967295:Int64))) 1 (lushr_ x (32:Int32))) 2 (0:Int64)) 3 (0:Int64))
def f_M_be1 (x : Int64) (w : Nat → Int64) : (Nat → Int64) :=
  (vp_updL (vp_updL (vp_updL (vp_updL w 4 (x &&& (4294967295:Int64))) 5 (lushr_ x (32:Int32))) 6 (0:Int64)) 7 (0:Int64))
def f_M_times0 (x : Int32) (y : Int32) (w : Nat → Int64) : (Nat → Int64) :=
  let z3 := (((w 1) * (Int32.toInt64 x)) + (lushr_ (((w 0) * (Int32.toInt64 x)) + (Int32.toInt64 y)) (32:Int32)))
  let z5 := (lushr_ (((w 2) * (Int32.toInt64 x)) + (lushr_ z3 (32:Int32))) (32:Int32))
  (vp_updL (vp_updL (vp_updL (vp_updL w 0 ((((w 0) * (Int32.toInt64 x)) + (Int32.toInt64 y)) &&& (4294967295:Int64))) 1 (z3 &&& (4294967295:Int64))) 2 ((((w 2) * (Int32.toInt64 x)) + (lushr_ z3 (32:Int32))) &&& (4294967295:Int64))) 3 ((((w 3) * (Int32.toInt64 x)) + z5) &&& (4294967295:Int64)))
def f_M_times1 (x : Int32) (y : Int32) (w : Nat → Int64) : (Nat → Int64) :=
  let z3 := (((w 5) * (Int32.toInt64 x)) + (lushr_ (((w 4) * (Int32.toInt64 x)) + (Int32.toInt64 y)) (32:Int32)))
  let z5 := (lushr_ (((w 6) * (Int32.toInt64 x)) + (lushr_ z3 (32:Int32))) (32:Int32))
  (vp_updL (vp_updL (vp_updL (vp_updL w 4 ((((w 4) * (Int32.toInt64 x)) + (Int32.toInt64 y)) &&& (4294967295:Int64))) 5 (z3 &&& (4294967295:Int64))) 6 ((((w 6) * (Int32.toInt64 x)) + (lushr_ z3 (32:Int32))) &&& (4294967295:Int64))) 7 ((((w 7) * (Int32.toInt64 x)) + z5) &&& (4294967295:Int64)))
def f_M_over2 (w : Nat → Int64) : Int32 × (Nat → Int64) :=
  let z2 := (((lshl_ (0:Int64) (32:Int32)) ||| (w 11)) - ((lshl_ (0:Int64) (32:Int32)) ||| (w 11)) / (1000:Int64) * (1000:Int64))
  let z4 := (((lshl_ z2 (32:Int32)) ||| (w 10)) - ((lshl_ z2 (32:Int32)) ||| (w 10)) / (1000:Int64) * (1000:Int64))
  let z6 := (((lshl_ z4 (32:Int32)) ||| (w 9)) - ((lshl_ z4 (32:Int32)) ||| (w 9)) / (1000:Int64) * (1000:Int64))
  let z8 := (((lshl_ z6 (32:Int32)) ||| (w 8)) - ((lshl_ z6 (32:Int32)) ||| (w 8)) / (1000:Int64) * (1000:Int64))
  ((Int64.toInt32 z8), (vp_updL (vp_updL (vp_updL (vp_updL w 11 (((lshl_ (0:Int64) (32:Int32)) ||| (w 11)) / (1000:Int64))) 10 (((lshl_ z2 (32:Int32)) ||| (w 10)) / (1000:Int64))) 9 (((lshl_ z4 (32:Int32)) ||| (w 9)) / (1000:Int64))) 8 (((lshl_ z6 (32:Int32)) ||| (w 8)) / (1000:Int64))))
def lf_M_power1 : Nat → Int32 → Int32 → Int32 → ((Nat → Int64)) → (Nat → Int64)
  | 0, _, _, _, _ => default
  | n + 1, x, y, x4, y1_a =>
    if y ≤ x4 then
      y1_a
    else
      let u3 := (f_M_times1 x (0:Int32) y1_a)
      lf_M_power1 n x y (x4 + (1:Int32)) u3
def lk_M_power1 : Nat → Int32 → Int32 → Prop
  | 0, _, _ => False
  | n + 1, y, x4 => ((y ≤ x4 → True) ∧ (¬ y ≤ x4 → lk_M_power1 n y (x4 + (1:Int32))))
def ok_M_power1 (y : Int32) : Prop := lk_M_power1 200 y (0:Int32)
def f_M_power1 (x : Int32) (y : Int32) (w : Nat → Int64) : (Nat → Int64) :=
  let u1 := (f_M_be1 (1:Int64) w)
  lf_M_power1 200 x y (0:Int32) u1
def f_M_isBelow (w : Nat → Int64) : Bool :=
  if (lg_cmp (w 3) (w 7)) = (0:Int32) then
    if (lg_cmp (w 2) (w 6)) = (0:Int32) then
      if (lg_cmp (w 1) (w 5)) = (0:Int32) then
        if (lg_cmp (w 0) (w 4)) = (0:Int32) then
          false
        else
          if (0:Int32) ≤ (lg_cmp (w 0) (w 4)) then
            false
          else
            true
      else
        if (0:Int32) ≤ (lg_cmp (w 1) (w 5)) then
          false
        else
          true
    else
      if (0:Int32) ≤ (lg_cmp (w 2) (w 6)) then
        false
      else
        true
  else
    if (0:Int32) ≤ (lg_cmp (w 3) (w 7)) then
      false
    else
      true
def f_M_isZero (w : Nat → Int64) : Bool :=
  if (lg_cmp ((((w 0) ||| (w 1)) ||| (w 2)) ||| (w 3)) (0:Int64)) = (0:Int32) then
    true
  else
    false
def ok_M_bitOf (x : Int32) : Prop := (vp_in ((0:Int32) + (x / (32:Int32))) 12)
def f_M_bitOf (x : Int32) (w : Nat → Int64) : Int32 :=
  (Int64.toInt32 ((lshr_ (w (Int32.toNatClampNeg ((0:Int32) + (x / (32:Int32))))) (x - x / (32:Int32) * (32:Int32))) &&& (1:Int64)))
def f_M_bit (x : Int32) (lh : Int64) (ll : Int64) : Int32 :=
  if (64:Int32) ≤ x then
    (Int64.toInt32 ((lushr_ lh (x - (64:Int32))) &&& (1:Int64)))
  else
    (Int64.toInt32 ((lushr_ ll x) &&& (1:Int64)))
def lf_M_field : Nat → Int32 → Int64 → Int64 → Int32 → Int32 → Int32
  | 0, _, _, _, _, _ => default
  | n + 1, x, lh, ll, x4, x3 =>
    if x4 < (0:Int32) then
      x3
    else
      let u2 := (f_M_bit (x + x4) lh ll)
      lf_M_field n x lh ll (x4 + (-1:Int32)) (((2:Int32) * x3) + u2)
def lk_M_field : Nat → Int32 → Prop
  | 0, _ => False
  | n + 1, x4 => ((x4 < (0:Int32) → True) ∧ (¬ x4 < (0:Int32) → lk_M_field n (x4 + (-1:Int32))))
def ok_M_field (y : Int32) : Prop := lk_M_field 200 (y - (1:Int32))
def f_M_field (x : Int32) (y : Int32) (lh : Int64) (ll : Int64) : Int32 :=
  lf_M_field 200 x lh ll (y - (1:Int32)) (0:Int32)
def lf_M_take : Nat → Int32 → Int64 → Int64 → Int32 → ((Nat → Int64)) → (Nat → Int64)
  | 0, _, _, _, _, _ => default
  | n + 1, x, lh, ll, x3, y1_a =>
    if x3 < (0:Int32) then
      y1_a
    else
      let u3 := (f_M_bit (x + x3) lh ll)
      let u4 := (f_M_times0 (2:Int32) u3 y1_a)
      lf_M_take n x lh ll (x3 + (-1:Int32)) u4
def lk_M_take : Nat → Int32 → Prop
  | 0, _ => False
  | n + 1, x3 => ((x3 < (0:Int32) → True) ∧ (¬ x3 < (0:Int32) → lk_M_take n (x3 + (-1:Int32))))
def ok_M_take (y : Int32) : Prop := lk_M_take 200 (y - (1:Int32))
def f_M_take (x : Int32) (y : Int32) (lh : Int64) (ll : Int64) (w : Nat → Int64) : (Nat → Int64) :=
  let u1 := (f_M_be0 (0:Int64) w)
  lf_M_take 200 x lh ll (y - (1:Int32)) u1
def f_M_set (x : Int32) (y : Int32) (lh : Int64) (ll : Int64) : Int64 × Int64 :=
  if (64:Int32) ≤ x then
    ((lh ||| (lshl_ (Int32.toInt64 y) (x - (64:Int32)))), ll)
  else
    (lh, (ll ||| (lshl_ (Int32.toInt64 y) x)))
def lf_M_lay : Nat → Int32 → Int32 → Int32 → Int32 → Int64 → Int64 → Int64 × Int64
  | 0, _, _, _, _, _, _ => default
  | n + 1, x, y, z, x4, y0_7, y0_8 =>
    if z ≤ x4 then
      (y0_7, y0_8)
    else
      let u2 := (f_M_set (y + x4) ((x >>> (x4 &&& 31)) &&& (1:Int32)) y0_7 y0_8)
      lf_M_lay n x y z (x4 + (1:Int32)) u2.1 u2.2
def lk_M_lay : Nat → Int32 → Int32 → Prop
  | 0, _, _ => False
  | n + 1, z, x4 => ((z ≤ x4 → True) ∧ (¬ z ≤ x4 → lk_M_lay n z (x4 + (1:Int32))))
def ok_M_lay (z : Int32) : Prop := lk_M_lay 200 z (0:Int32)
def f_M_lay (x : Int32) (y : Int32) (z : Int32) (lh : Int64) (ll : Int64) : Int64 × Int64 :=
  lf_M_lay 200 x y z (0:Int32) lh ll
def lf_M_layNumber : Nat → Int32 → Int32 → (Nat → Int64) → Int32 → Int64 → Int64 → Int64 × Int64
  | 0, _, _, _, _, _, _ => default
  | n + 1, x, y, w, x3, y0_7, y0_8 =>
    if y ≤ x3 then
      (y0_7, y0_8)
    else
      let u2 := (f_M_bitOf x3 w)
      let u3 := (f_M_set (x + x3) u2 y0_7 y0_8)
      lf_M_layNumber n x y w (x3 + (1:Int32)) u3.1 u3.2
def lk_M_layNumber : Nat → Int32 → Int32 → Prop
  | 0, _, _ => False
  | n + 1, y, x3 => ((y ≤ x3 → True) ∧ (¬ y ≤ x3 → (ok_M_bitOf x3 ∧ lk_M_layNumber n y (x3 + (1:Int32)))))
def ok_M_layNumber (y : Int32) : Prop := lk_M_layNumber 200 y (0:Int32)
def f_M_layNumber (x : Int32) (y : Int32) (lh : Int64) (ll : Int64) (w : Nat → Int64) : Int64 × Int64 :=
  lf_M_layNumber 200 x y w (0:Int32) lh ll
def f_M_mask (x : Int32) (lh : Int64) (ll : Int64) : Int64 × Int64 :=
  let u1 := (f_M_width x)
  if (128:Int32) ≤ u1 then
    if (64:Int32) ≤ u1 then
      (lh, ll)
    else
      (lh, (ll &&& ((lshl_ (1:Int64) u1) - (1:Int64))))
  else
    if (64:Int32) ≤ u1 then
      ((0:Int64), ll)
    else
      ((0:Int64), (ll &&& ((lshl_ (1:Int64) u1) - (1:Int64))))
def ok_M_takeAtMost (y : Int32) (z : Int32) (v : Int32) : Prop := (ok_M_take y ∧ (ok_M_power1 z ∧ ((vp_in ((v + (2:Int32)) / (32:Int32)) 12) ∧ ((vp_in ((v + (2:Int32)) / (32:Int32)) 12) ∧ ok_M_power1 z))))
def f_M_takeAtMost (x : Int32) (y : Int32) (z : Int32) (v : Int32) (lh : Int64) (ll : Int64) (w : Nat → Int64) : (Nat → Int64) :=
  let u1 := (f_M_take (0:Int32) y lh ll w)
  if x ≤ (0:Int32) then
    let u3 := (f_M_power1 (10:Int32) z u1)
    let u4 := (f_M_isBelow u3)
    if (bI u4) = (0:Int32) then
      let u6 := (f_M_be0 (0:Int64) u3)
      u6
    else
      u3
  else
    let u7 := (f_M_power1 (10:Int32) z (vp_updL u1 (Int32.toNatClampNeg ((v + (2:Int32)) / (32:Int32))) ((u1 (Int32.toNatClampNeg ((v + (2:Int32)) / (32:Int32)))) ||| (lshl_ (1:Int64) ((v + (2:Int32)) - (v + (2:Int32)) / (32:Int32) * (32:Int32))))))
    let u8 := (f_M_isBelow u7)
    if (bI u8) = (0:Int32) then
      let u10 := (f_M_be0 (0:Int64) u7)
      u10
    else
      u7
def lf_M_takeDigits : Nat → Int64 → Int64 → (Nat → Int32) → Int32 → ((Nat → Int64)) → (Nat → Int64)
  | 0, _, _, _, _, _ => default
  | n + 1, lh, ll, sp, x2, y1_a =>
    if x2 < (0:Int32) then
      y1_a
    else
      let u3 := (f_M_field ((10:Int32) * x2) (10:Int32) lh ll)
      let u4 := (f_M_times0 (1000:Int32) (sp (Int32.toNatClampNeg u3)) y1_a)
      lf_M_takeDigits n lh ll sp (x2 + (-1:Int32)) u4
def lk_M_takeDigits : Nat → Int64 → Int64 → Int32 → Prop
  | 0, _, _, _ => False
  | n + 1, lh, ll, x2 => ((x2 < (0:Int32) → True) ∧ (¬ x2 < (0:Int32) → (ok_M_field (10:Int32) ∧ (∀ u3, u3 = (f_M_field ((10:Int32) * x2) (10:Int32) lh ll) → ((vp_in u3 1024) ∧ lk_M_takeDigits n lh ll (x2 + (-1:Int32)))))))
def ok_M_takeDigits (x : Int32) (lh : Int64) (ll : Int64) : Prop := (∀ u1, u1 = (f_M_tail x) → lk_M_takeDigits 200 lh ll ((u1 / (10:Int32)) - (1:Int32)))
def f_M_takeDigits (x : Int32) (lh : Int64) (ll : Int64) (w : Nat → Int64) (sp : Nat → Int32) : (Nat → Int64) :=
  let u1 := (f_M_tail x)
  lf_M_takeDigits 200 lh ll sp ((u1 / (10:Int32)) - (1:Int32)) w
def ok_M_openBinary (x : Int32) : Prop := (∀ u1, u1 = (f_M_digitsOf x) → (∀ u2, u2 = (f_M_width x) → (ok_M_field (u2 - u1) ∧ (ok_M_take (u1 - (1:Int32)) ∧ (ok_M_take (u1 - (2:Int32)) ∧ ((vp_in ((u1 - (1:Int32)) / (32:Int32)) 12) ∧ (vp_in ((u1 - (1:Int32)) / (32:Int32)) 12)))))))
def f_M_openBinary (x : Int32) (kd : Int32) (ex : Int32) (lh : Int64) (ll : Int64) (w : Nat → Int64) : Int32 × Int32 × (Nat → Int64) :=
  let u1 := (f_M_digitsOf x)
  let u2 := (f_M_width x)
  let u3 := (f_M_field (u1 - (1:Int32)) (u2 - u1) lh ll)
  let u4 := (f_M_take (0:Int32) (u1 - (1:Int32)) lh ll w)
  if u3 = (((1:Int32) <<< ((u2 - u1) &&& 31)) - (1:Int32)) then
    let u11 := (f_M_isZero u4)
    if (bI u11) = (0:Int32) then
      let u13 := (f_M_bit (u1 - (2:Int32)) lh ll)
      if u13 = (1:Int32) then
        let u16 := (f_M_take (0:Int32) (u1 - (2:Int32)) lh ll u4)
        ((2:Int32), ex, u16)
      else
        let u15 := (f_M_take (0:Int32) (u1 - (2:Int32)) lh ll u4)
        ((3:Int32), ex, u15)
    else
      ((1:Int32), ex, u4)
  else
    if u3 = (0:Int32) then
      let u9 := (f_M_least x)
      if u3 = (0:Int32) then
        (kd, u9, u4)
      else
        (kd, u9, (vp_updL u4 (Int32.toNatClampNeg ((u1 - (1:Int32)) / (32:Int32))) ((u4 (Int32.toNatClampNeg ((u1 - (1:Int32)) / (32:Int32)))) ||| (lshl_ (1:Int64) ((u1 - (1:Int32)) - (u1 - (1:Int32)) / (32:Int32) * (32:Int32))))))
    else
      let u7 := (f_M_least x)
      if u3 = (0:Int32) then
        (kd, ((u3 - (1:Int32)) + u7), u4)
      else
        (kd, ((u3 - (1:Int32)) + u7), (vp_updL u4 (Int32.toNatClampNeg ((u1 - (1:Int32)) / (32:Int32))) ((u4 (Int32.toNatClampNeg ((u1 - (1:Int32)) / (32:Int32)))) ||| (lshl_ (1:Int64) ((u1 - (1:Int32)) - (u1 - (1:Int32)) / (32:Int32) * (32:Int32))))))
def ok_M_openDecimal (x : Int32) (lh : Int64) (ll : Int64) : Prop := (∀ u1, u1 = (f_M_width x) → (∀ u2, u2 = (f_M_tail x) → (ok_M_field (5:Int32) ∧ ((x ≤ (6:Int32) → (((∀ u33, u33 = (f_M_digitsOf x) → ok_M_takeAtMost u2 (u33 - (1:Int32)) (0:Int32)) ∧ (∀ u30, u30 = (f_M_digitsOf x) → ok_M_takeAtMost u2 (u30 - (1:Int32)) (0:Int32))) ∧ ((ok_M_field (((u1 - (1:Int32)) - u2) - (3:Int32)) ∧ (∀ u14, u14 = (f_M_digitsOf x) → ok_M_takeAtMost (u2 + (1:Int32)) u14 (u2 + (1:Int32)))) ∧ (ok_M_field (((u1 - (1:Int32)) - u2) - (3:Int32)) ∧ (∀ u23, u23 = (f_M_digitsOf x) → ok_M_takeAtMost (u2 + (3:Int32)) u23 (0:Int32)))))) ∧ (¬ x ≤ (6:Int32) → (ok_M_takeDigits x lh ll ∧ (ok_M_field (((u1 - (1:Int32)) - u2) - (5:Int32)) ∧ ok_M_takeDigits x lh ll)))))))
def f_M_openDecimal (x : Int32) (kd : Int32) (ex : Int32) (lh : Int64) (ll : Int64) (w : Nat → Int64) (sp : Nat → Int32) : Int32 × Int32 × (Nat → Int64) :=
  let u1 := (f_M_width x)
  let u2 := (f_M_tail x)
  let u3 := (f_M_field (u1 - (6:Int32)) (5:Int32) lh ll)
  if x ≤ (6:Int32) then
    let u5 := (f_M_be0 (0:Int64) w)
    if u3 = (30:Int32) then
      ((1:Int32), ex, u5)
    else
      if u3 = (31:Int32) then
        let u27 := (f_M_bit (u1 - (7:Int32)) lh ll)
        if u27 = (1:Int32) then
          let u33 := (f_M_digitsOf x)
          let u34 := (f_M_takeAtMost (0:Int32) u2 (u33 - (1:Int32)) (0:Int32) lh ll u5)
          ((3:Int32), ex, u34)
        else
          let u30 := (f_M_digitsOf x)
          let u31 := (f_M_takeAtMost (0:Int32) u2 (u30 - (1:Int32)) (0:Int32) lh ll u5)
          ((2:Int32), ex, u31)
      else
        if (24:Int32) ≤ u3 then
          let u11 := (f_M_field (u2 + (1:Int32)) (((u1 - (1:Int32)) - u2) - (3:Int32)) lh ll)
          let u14 := (f_M_digitsOf x)
          let u16 := (f_M_takeAtMost (4:Int32) (u2 + (1:Int32)) u14 (u2 + (1:Int32)) lh ll u5)
          let u17 := (f_M_least x)
          (kd, (u11 + u17), u16)
        else
          let u20 := (f_M_field (u2 + (3:Int32)) (((u1 - (1:Int32)) - u2) - (3:Int32)) lh ll)
          let u23 := (f_M_digitsOf x)
          let u25 := (f_M_takeAtMost (0:Int32) (u2 + (3:Int32)) u23 (0:Int32) lh ll u5)
          let u26 := (f_M_least x)
          (kd, (u20 + u26), u25)
  else
    let u35 := (f_M_be0 (0:Int64) w)
    if u3 = (30:Int32) then
      ((1:Int32), ex, u35)
    else
      if u3 = (31:Int32) then
        let u55 := (f_M_bit (u1 - (7:Int32)) lh ll)
        if u55 = (1:Int32) then
          let u60 := (f_M_takeDigits x lh ll u35 sp)
          ((3:Int32), ex, u60)
        else
          let u58 := (f_M_takeDigits x lh ll u35 sp)
          ((2:Int32), ex, u58)
      else
        if (24:Int32) ≤ u3 then
          let u41 := (f_M_field u2 (((u1 - (1:Int32)) - u2) - (5:Int32)) lh ll)
          let z42 := ((((u3 / (2:Int32)) - (u3 / (2:Int32)) / (4:Int32) * (4:Int32)) * ((1:Int32) <<< ((((u1 - (1:Int32)) - u2) - (5:Int32)) &&& 31))) + u41)
          let u44 := (f_M_be0 (Int32.toInt64 ((8:Int32) + (u3 - u3 / (2:Int32) * (2:Int32)))) u35)
          let u45 := (f_M_takeDigits x lh ll u44 sp)
          let u46 := (f_M_least x)
          (kd, (z42 + u46), u45)
        else
          let u49 := (f_M_field u2 (((u1 - (1:Int32)) - u2) - (5:Int32)) lh ll)
          let z50 := (((u3 / (8:Int32)) * ((1:Int32) <<< ((((u1 - (1:Int32)) - u2) - (5:Int32)) &&& 31))) + u49)
          let u52 := (f_M_be0 (Int32.toInt64 (u3 - u3 / (8:Int32) * (8:Int32))) u35)
          let u53 := (f_M_takeDigits x lh ll u52 sp)
          let u54 := (f_M_least x)
          (kd, (z50 + u54), u53)
def ok_M_open (x : Int32) (lh : Int64) (ll : Int64) : Prop := (∀ u1, u1 = (f_M_mask x lh ll) → (((4:Int32) ≤ x → ok_M_openDecimal x u1.1 u1.2) ∧ (¬ (4:Int32) ≤ x → ok_M_openBinary x)))
def f_M_open (x : Int32) (lh : Int64) (ll : Int64) (w : Nat → Int64) (sp : Nat → Int32) : Int32 × Int32 × Int32 × Int64 × Int64 × (Nat → Int64) :=
  let u1 := (f_M_mask x lh ll)
  let u2 := (f_M_width x)
  let u3 := (f_M_bit (u2 - (1:Int32)) u1.1 u1.2)
  if (4:Int32) ≤ x then
    let u5 := (f_M_openDecimal x (0:Int32) (0:Int32) u1.1 u1.2 w sp)
    (u5.1, u3, u5.2.1, u1.1, u1.2, u5.2.2)
  else
    let u6 := (f_M_openBinary x (0:Int32) (0:Int32) u1.1 u1.2 w)
    (u6.1, u3, u6.2.1, u1.1, u1.2, u6.2.2)
def ok_M_fits (x : Int32) : Prop := (∀ u1, u1 = (f_M_digitsOf x) → ((ok_M_power1 u1 ∧ ok_M_power1 (u1 - (1:Int32))) ∧ (ok_M_power1 (u1 - (1:Int32)) ∧ ok_M_power1 (u1 - (2:Int32)))))
def f_M_fits (x : Int32) (kd : Int32) (ex : Int32) (w : Nat → Int64) : Bool × (Nat → Int64) :=
  let u1 := (f_M_digitsOf x)
  if kd = (1:Int32) then
    (true, w)
  else
    if kd = (0:Int32) then
      if (4:Int32) ≤ x then
        let u36 := (f_M_power1 (10:Int32) u1 w)
        let u37 := (f_M_isBelow u36)
        if (bI u37) = (0:Int32) then
          (false, u36)
        else
          let u39 := (f_M_least x)
          if ex < u39 then
            (false, u36)
          else
            let u41 := (f_M_greatest x)
            if ex ≤ u41 then
              let u43 := (f_M_power1 (2:Int32) (u1 - (1:Int32)) u36)
              if (3:Int32) < x then
                (true, u43)
              else
                let u45 := (f_M_least x)
                if ex = u45 then
                  (true, u43)
                else
                  let u47 := (f_M_isBelow u43)
                  if (bI u47) = (0:Int32) then
                    (true, u43)
                  else
                    (false, u43)
            else
              (false, u36)
      else
        let u49 := (f_M_power1 (2:Int32) u1 w)
        let u50 := (f_M_isBelow u49)
        if (bI u50) = (0:Int32) then
          (false, u49)
        else
          let u52 := (f_M_least x)
          if ex < u52 then
            (false, u49)
          else
            let u54 := (f_M_greatest x)
            if ex ≤ u54 then
              let u56 := (f_M_power1 (2:Int32) (u1 - (1:Int32)) u49)
              if (3:Int32) < x then
                (true, u56)
              else
                let u58 := (f_M_least x)
                if ex = u58 then
                  (true, u56)
                else
                  let u60 := (f_M_isBelow u56)
                  if (bI u60) = (0:Int32) then
                    (true, u56)
                  else
                    (false, u56)
            else
              (false, u49)
    else
      if (4:Int32) ≤ x then
        if (4:Int32) ≤ x then
          let u6 := (f_M_power1 (10:Int32) (u1 - (1:Int32)) w)
          let u7 := (f_M_isBelow u6)
          if (bI u7) = (0:Int32) then
            (false, u6)
          else
            if (4:Int32) ≤ x then
              (true, u6)
            else
              if kd = (3:Int32) then
                let u11 := (f_M_isZero u6)
                if (bI u11) = (0:Int32) then
                  (true, u6)
                else
                  (false, u6)
              else
                (true, u6)
        else
          let u13 := (f_M_power1 (10:Int32) (u1 - (2:Int32)) w)
          let u14 := (f_M_isBelow u13)
          if (bI u14) = (0:Int32) then
            (false, u13)
          else
            if (4:Int32) ≤ x then
              (true, u13)
            else
              if kd = (3:Int32) then
                let u18 := (f_M_isZero u13)
                if (bI u18) = (0:Int32) then
                  (true, u13)
                else
                  (false, u13)
              else
                (true, u13)
      else
        if (4:Int32) ≤ x then
          let u21 := (f_M_power1 (2:Int32) (u1 - (1:Int32)) w)
          let u22 := (f_M_isBelow u21)
          if (bI u22) = (0:Int32) then
            (false, u21)
          else
            if (4:Int32) ≤ x then
              (true, u21)
            else
              if kd = (3:Int32) then
                let u26 := (f_M_isZero u21)
                if (bI u26) = (0:Int32) then
                  (true, u21)
                else
                  (false, u21)
              else
                (true, u21)
        else
          let u28 := (f_M_power1 (2:Int32) (u1 - (2:Int32)) w)
          let u29 := (f_M_isBelow u28)
          if (bI u29) = (0:Int32) then
            (false, u28)
          else
            if (4:Int32) ≤ x then
              (true, u28)
            else
              if kd = (3:Int32) then
                let u33 := (f_M_isZero u28)
                if (bI u33) = (0:Int32) then
                  (true, u28)
                else
                  (false, u28)
              else
                (true, u28)
def ok_M_closeBinary (x : Int32) : Prop := (∀ u1, u1 = (f_M_digitsOf x) → (∀ u2, u2 = (f_M_width x) → ((ok_M_bitOf (u1 - (1:Int32)) ∧ (ok_M_lay (u2 - u1) ∧ ok_M_layNumber (u1 - (1:Int32)))) ∧ (ok_M_lay (u2 - u1) ∧ ok_M_layNumber (u1 - (2:Int32))))))
def f_M_closeBinary (x : Int32) (kd : Int32) (ex : Int32) (lh : Int64) (ll : Int64) (w : Nat → Int64) : Int64 × Int64 :=
  let u1 := (f_M_digitsOf x)
  let u2 := (f_M_width x)
  if kd = (0:Int32) then
    let u4 := (f_M_bitOf (u1 - (1:Int32)) w)
    if u4 = (1:Int32) then
      let u8 := (f_M_least x)
      let u9 := (f_M_lay ((ex - u8) + (1:Int32)) (u1 - (1:Int32)) (u2 - u1) lh ll)
      let u10 := (f_M_layNumber (0:Int32) (u1 - (1:Int32)) u9.1 u9.2 w)
      (u10.1, u10.2)
    else
      let u6 := (f_M_lay (0:Int32) (u1 - (1:Int32)) (u2 - u1) lh ll)
      let u7 := (f_M_layNumber (0:Int32) (u1 - (1:Int32)) u6.1 u6.2 w)
      (u7.1, u7.2)
  else
    let u11 := (f_M_lay (((1:Int32) <<< ((u2 - u1) &&& 31)) - (1:Int32)) (u1 - (1:Int32)) (u2 - u1) lh ll)
    if kd = (1:Int32) then
      (u11.1, u11.2)
    else
      if kd = (2:Int32) then
        let u16 := (f_M_set (u1 - (2:Int32)) (1:Int32) u11.1 u11.2)
        let u17 := (f_M_layNumber (0:Int32) (u1 - (2:Int32)) u16.1 u16.2 w)
        (u17.1, u17.2)
      else
        let u14 := (f_M_set (u1 - (2:Int32)) (0:Int32) u11.1 u11.2)
        let u15 := (f_M_layNumber (0:Int32) (u1 - (2:Int32)) u14.1 u14.2 w)
        (u15.1, u15.2)
def lf_M_layDigits : Nat → Int32 → (Nat → Int32) → Int32 → Int64 → Int64 → ((Nat → Int64)) → Int32 × Int64 × Int64 × (Nat → Int64)
  | 0, _, _, _, _, _, _ => default
  | n + 1, x, md, x2, y0_7, y0_8, y1_a =>
    let u6 := (f_M_tail x)
    if (u6 / (10:Int32)) ≤ x2 then
      ((Int64.toInt32 (y1_a 8)), y0_7, y0_8, y1_a)
    else
      let u8 := (f_M_over2 y1_a)
      let u9 := (f_M_lay (md (Int32.toNatClampNeg u8.1)) ((10:Int32) * x2) (10:Int32) y0_7 y0_8)
      lf_M_layDigits n x md (x2 + (1:Int32)) u9.1 u9.2 u8.2
def lk_M_layDigits : Nat → Int32 → Int32 → (Nat → Int64) → Prop
  | 0, _, _, _ => False
  | n + 1, x, x2, y1_a => (∀ u6, u6 = (f_M_tail x) → (((u6 / (10:Int32)) ≤ x2 → True) ∧ (¬ (u6 / (10:Int32)) ≤ x2 → (∀ u8, u8 = (f_M_over2 y1_a) → ((vp_in u8.1 1000) ∧ (ok_M_lay (10:Int32) ∧ lk_M_layDigits n x (x2 + (1:Int32)) u8.2))))))
def ok_M_layDigits (x : Int32) (w : Nat → Int64) : Prop := lk_M_layDigits 200 x (0:Int32) (vp_updL (vp_updL (vp_updL (vp_updL w 8 (w 0)) 9 (w 1)) 10 (w 2)) 11 (w 3))
def f_M_layDigits (x : Int32) (lh : Int64) (ll : Int64) (w : Nat → Int64) (md : Nat → Int32) : Int32 × Int64 × Int64 × (Nat → Int64) :=
  lf_M_layDigits 200 x md (0:Int32) lh ll (vp_updL (vp_updL (vp_updL (vp_updL w 8 (w 0)) 9 (w 1)) 10 (w 2)) 11 (w 3))
def ok_M_closeDecimal (x : Int32) (w : Nat → Int64) : Prop := (∀ u1, u1 = (f_M_width x) → (∀ u2, u2 = (f_M_tail x) → (ok_M_lay (5:Int32) ∧ (((x ≤ (6:Int32) → (ok_M_bitOf (u2 + (3:Int32)) ∧ ((ok_M_lay (((u1 - (1:Int32)) - u2) - (3:Int32)) ∧ (ok_M_layNumber (u2 + (1:Int32)) ∧ ok_M_lay (2:Int32))) ∧ (ok_M_lay (((u1 - (1:Int32)) - u2) - (3:Int32)) ∧ ok_M_layNumber (u2 + (3:Int32)))))) ∧ (¬ x ≤ (6:Int32) → (ok_M_layDigits x w ∧ (ok_M_lay (((u1 - (1:Int32)) - u2) - (5:Int32)) ∧ ok_M_lay (5:Int32))))) ∧ (ok_M_lay (5:Int32) ∧ ((x ≤ (6:Int32) → ok_M_layNumber u2) ∧ (¬ x ≤ (6:Int32) → ok_M_layDigits x w)))))))
def f_M_closeDecimal (x : Int32) (kd : Int32) (ex : Int32) (lh : Int64) (ll : Int64) (w : Nat → Int64) (md : Nat → Int32) : Int64 × Int64 × (Nat → Int64) :=
  let u1 := (f_M_width x)
  let u2 := (f_M_tail x)
  if kd = (1:Int32) then
    let u35 := (f_M_lay (30:Int32) (u1 - (6:Int32)) (5:Int32) lh ll)
    (u35.1, u35.2, w)
  else
    if kd = (0:Int32) then
      let u5 := (f_M_least x)
      if x ≤ (6:Int32) then
        let u7 := (f_M_bitOf (u2 + (3:Int32)) w)
        if u7 = (1:Int32) then
          let u15 := (f_M_lay (ex - u5) (u2 + (1:Int32)) (((u1 - (1:Int32)) - u2) - (3:Int32)) lh ll)
          let u17 := (f_M_layNumber (0:Int32) (u2 + (1:Int32)) u15.1 u15.2 w)
          let u19 := (f_M_lay (3:Int32) (u1 - (3:Int32)) (2:Int32) u17.1 u17.2)
          (u19.1, u19.2, w)
        else
          let u10 := (f_M_lay (ex - u5) (u2 + (3:Int32)) (((u1 - (1:Int32)) - u2) - (3:Int32)) lh ll)
          let u12 := (f_M_layNumber (0:Int32) (u2 + (3:Int32)) u10.1 u10.2 w)
          (u12.1, u12.2, w)
      else
        let u20 := (f_M_layDigits x lh ll w md)
        let u21 := (f_M_lay (ex - u5) u2 (((u1 - (1:Int32)) - u2) - (5:Int32)) u20.2.1 u20.2.2.1)
        if (8:Int32) ≤ u20.1 then
          let u23 := (f_M_lay (((24:Int32) + ((2:Int32) * ((ex - u5) >>> ((((u1 - (1:Int32)) - u2) - (5:Int32)) &&& 31)))) + (u20.1 - u20.1 / (2:Int32) * (2:Int32))) (u1 - (6:Int32)) (5:Int32) u21.1 u21.2)
          (u23.1, u23.2, u20.2.2.2)
        else
          let u24 := (f_M_lay (((8:Int32) * ((ex - u5) >>> ((((u1 - (1:Int32)) - u2) - (5:Int32)) &&& 31))) + u20.1) (u1 - (6:Int32)) (5:Int32) u21.1 u21.2)
          (u24.1, u24.2, u20.2.2.2)
    else
      let u25 := (f_M_lay (31:Int32) (u1 - (6:Int32)) (5:Int32) lh ll)
      if kd = (3:Int32) then
        let u31 := (f_M_set (u1 - (7:Int32)) (1:Int32) u25.1 u25.2)
        if x ≤ (6:Int32) then
          let u33 := (f_M_layNumber (0:Int32) u2 u31.1 u31.2 w)
          (u33.1, u33.2, w)
        else
          let u34 := (f_M_layDigits x u31.1 u31.2 w md)
          (u34.2.1, u34.2.2.1, u34.2.2.2)
      else
        let u27 := (f_M_set (u1 - (7:Int32)) (0:Int32) u25.1 u25.2)
        if x ≤ (6:Int32) then
          let u29 := (f_M_layNumber (0:Int32) u2 u27.1 u27.2 w)
          (u29.1, u29.2, w)
        else
          let u30 := (f_M_layDigits x u27.1 u27.2 w md)
          (u30.2.1, u30.2.2.1, u30.2.2.2)
def ok_M_close (x : Int32) (w : Nat → Int64) : Prop := (((4:Int32) ≤ x → ok_M_closeDecimal x w) ∧ (¬ (4:Int32) ≤ x → ok_M_closeBinary x))
def f_M_close (x : Int32) (kd : Int32) (sg : Int32) (ex : Int32) (w : Nat → Int64) (md : Nat → Int32) : Int64 × Int64 × (Nat → Int64) :=
  let u1 := (f_M_width x)
  let u2 := (f_M_set (u1 - (1:Int32)) sg (0:Int64) (0:Int64))
  if (4:Int32) ≤ x then
    let u4 := (f_M_closeDecimal x kd ex u2.1 u2.2 w md)
    (u4.1, u4.2.1, u4.2.2)
  else
    let u5 := (f_M_closeBinary x kd ex u2.1 u2.2 w)
    (u5.1, u5.2, w)
def f_M_asks (x : Int32) : Bool × Int32 :=
  let u1 := (f_M_isFormat x)
  if (bI u1) = (0:Int32) then
    (false, (1:Int32))
  else
    (true, (0:Int32))
def ok_M_unpack (x : Int32) (y : Int64) (z : Int64) : Prop := (∀ u1, u1 = (f_M_asks x) → (((bI u1.1) = (0:Int32) → True) ∧ (¬ (bI u1.1) = (0:Int32) → ok_M_open x y z)))
def f_M_unpack (x : Int32) (y : Int64) (z : Int64) (kd : Int32) (sg : Int32) (ex : Int32) (lh : Int64) (ll : Int64) (w : Nat → Int64) (sp : Nat → Int32) : Int32 × Int32 × Int32 × Int32 × Int32 × Int64 × Int64 × (Nat → Int64) :=
  let u1 := (f_M_asks x)
  if (bI u1.1) = (0:Int32) then
    ((0:Int32), u1.2, kd, sg, ex, lh, ll, w)
  else
    let u3 := (f_M_open x y z w sp)
    (u3.1, u1.2, u3.1, u3.2.1, u3.2.2.1, u3.2.2.2.1, u3.2.2.2.2.1, u3.2.2.2.2.2)
def ok_M_canonical (x : Int32) (y : Int64) (z : Int64) (w : Nat → Int64) (sp : Nat → Int32) : Prop := (∀ u1, u1 = (f_M_asks x) → (((bI u1.1) = (0:Int32) → True) ∧ (¬ (bI u1.1) = (0:Int32) → (∀ u3, u3 = (f_M_mask x y z) → (ok_M_open x u3.1 u3.2 ∧ (∀ u4, u4 = (f_M_open x u3.1 u3.2 w sp) → ok_M_close x u4.2.2.2.2.2))))))
def f_M_canonical (x : Int32) (y : Int64) (z : Int64) (lh : Int64) (ll : Int64) (w : Nat → Int64) (sp : Nat → Int32) (md : Nat → Int32) : Bool × Int32 × Int64 × Int64 × (Nat → Int64) :=
  let u1 := (f_M_asks x)
  if (bI u1.1) = (0:Int32) then
    (false, u1.2, lh, ll, w)
  else
    let u3 := (f_M_mask x y z)
    let u4 := (f_M_open x u3.1 u3.2 w sp)
    let u5 := (f_M_close x u4.1 u4.2.1 u4.2.2.1 u4.2.2.2.2.2 md)
    if (lg_cmp u5.1 u3.1) = (0:Int32) then
      if (lg_cmp u5.2.1 u3.2) = (0:Int32) then
        (true, u1.2, u5.1, u5.2.1, (vp_updL (vp_updL (vp_updL (vp_updL u5.2.2 0 (w 0)) 1 (w 1)) 2 (w 2)) 3 (w 3)))
      else
        (false, u1.2, u5.1, u5.2.1, (vp_updL (vp_updL (vp_updL (vp_updL u5.2.2 0 (w 0)) 1 (w 1)) 2 (w 2)) 3 (w 3)))
    else
      (false, u1.2, u5.1, u5.2.1, (vp_updL (vp_updL (vp_updL (vp_updL u5.2.2 0 (w 0)) 1 (w 1)) 2 (w 2)) 3 (w 3)))
def f_M_put (x : Int32) (y : Bool) (z : Int32) (v : Int64) (t : Int64) (kd : Int32) (sg : Int32) (ex : Int32) (w : Nat → Int64) : Bool × Int32 × Int32 × Int32 × Int32 × (Nat → Int64) :=
  if x < (0:Int32) then
    (false, (0:Int32), kd, sg, ex, w)
  else
    if x ≤ (3:Int32) then
      if (bI y) = (0:Int32) then
        if x = (0:Int32) then
          if x = (1:Int32) then
            let u19 := (f_M_be0 (0:Int64) w)
            if x = (1:Int32) then
              if x = (1:Int32) then
                (true, (0:Int32), x, (0:Int32), z, (vp_updL (vp_updL u19 2 (0:Int64)) 3 (0:Int64)))
              else
                (true, (0:Int32), x, (0:Int32), z, (vp_updL (vp_updL u19 2 (0:Int64)) 3 (lushr_ v (32:Int32))))
            else
              if x = (1:Int32) then
                (true, (0:Int32), x, (0:Int32), z, (vp_updL (vp_updL u19 2 (v &&& (4294967295:Int64))) 3 (0:Int64)))
              else
                (true, (0:Int32), x, (0:Int32), z, (vp_updL (vp_updL u19 2 (v &&& (4294967295:Int64))) 3 (lushr_ v (32:Int32))))
          else
            let u15 := (f_M_be0 t w)
            if x = (1:Int32) then
              if x = (1:Int32) then
                (true, (0:Int32), x, (0:Int32), z, (vp_updL (vp_updL u15 2 (0:Int64)) 3 (0:Int64)))
              else
                (true, (0:Int32), x, (0:Int32), z, (vp_updL (vp_updL u15 2 (0:Int64)) 3 (lushr_ v (32:Int32))))
            else
              if x = (1:Int32) then
                (true, (0:Int32), x, (0:Int32), z, (vp_updL (vp_updL u15 2 (v &&& (4294967295:Int64))) 3 (0:Int64)))
              else
                (true, (0:Int32), x, (0:Int32), z, (vp_updL (vp_updL u15 2 (v &&& (4294967295:Int64))) 3 (lushr_ v (32:Int32))))
        else
          if x = (1:Int32) then
            let u10 := (f_M_be0 (0:Int64) w)
            if x = (1:Int32) then
              if x = (1:Int32) then
                (true, (0:Int32), x, (0:Int32), (0:Int32), (vp_updL (vp_updL u10 2 (0:Int64)) 3 (0:Int64)))
              else
                (true, (0:Int32), x, (0:Int32), (0:Int32), (vp_updL (vp_updL u10 2 (0:Int64)) 3 (lushr_ v (32:Int32))))
            else
              if x = (1:Int32) then
                (true, (0:Int32), x, (0:Int32), (0:Int32), (vp_updL (vp_updL u10 2 (v &&& (4294967295:Int64))) 3 (0:Int64)))
              else
                (true, (0:Int32), x, (0:Int32), (0:Int32), (vp_updL (vp_updL u10 2 (v &&& (4294967295:Int64))) 3 (lushr_ v (32:Int32))))
          else
            let u6 := (f_M_be0 t w)
            if x = (1:Int32) then
              if x = (1:Int32) then
                (true, (0:Int32), x, (0:Int32), (0:Int32), (vp_updL (vp_updL u6 2 (0:Int64)) 3 (0:Int64)))
              else
                (true, (0:Int32), x, (0:Int32), (0:Int32), (vp_updL (vp_updL u6 2 (0:Int64)) 3 (lushr_ v (32:Int32))))
            else
              if x = (1:Int32) then
                (true, (0:Int32), x, (0:Int32), (0:Int32), (vp_updL (vp_updL u6 2 (v &&& (4294967295:Int64))) 3 (0:Int64)))
              else
                (true, (0:Int32), x, (0:Int32), (0:Int32), (vp_updL (vp_updL u6 2 (v &&& (4294967295:Int64))) 3 (lushr_ v (32:Int32))))
      else
        if x = (0:Int32) then
          if x = (1:Int32) then
            let u38 := (f_M_be0 (0:Int64) w)
            if x = (1:Int32) then
              if x = (1:Int32) then
                (true, (0:Int32), x, (1:Int32), z, (vp_updL (vp_updL u38 2 (0:Int64)) 3 (0:Int64)))
              else
                (true, (0:Int32), x, (1:Int32), z, (vp_updL (vp_updL u38 2 (0:Int64)) 3 (lushr_ v (32:Int32))))
            else
              if x = (1:Int32) then
                (true, (0:Int32), x, (1:Int32), z, (vp_updL (vp_updL u38 2 (v &&& (4294967295:Int64))) 3 (0:Int64)))
              else
                (true, (0:Int32), x, (1:Int32), z, (vp_updL (vp_updL u38 2 (v &&& (4294967295:Int64))) 3 (lushr_ v (32:Int32))))
          else
            let u34 := (f_M_be0 t w)
            if x = (1:Int32) then
              if x = (1:Int32) then
                (true, (0:Int32), x, (1:Int32), z, (vp_updL (vp_updL u34 2 (0:Int64)) 3 (0:Int64)))
              else
                (true, (0:Int32), x, (1:Int32), z, (vp_updL (vp_updL u34 2 (0:Int64)) 3 (lushr_ v (32:Int32))))
            else
              if x = (1:Int32) then
                (true, (0:Int32), x, (1:Int32), z, (vp_updL (vp_updL u34 2 (v &&& (4294967295:Int64))) 3 (0:Int64)))
              else
                (true, (0:Int32), x, (1:Int32), z, (vp_updL (vp_updL u34 2 (v &&& (4294967295:Int64))) 3 (lushr_ v (32:Int32))))
        else
          if x = (1:Int32) then
            let u29 := (f_M_be0 (0:Int64) w)
            if x = (1:Int32) then
              if x = (1:Int32) then
                (true, (0:Int32), x, (1:Int32), (0:Int32), (vp_updL (vp_updL u29 2 (0:Int64)) 3 (0:Int64)))
              else
                (true, (0:Int32), x, (1:Int32), (0:Int32), (vp_updL (vp_updL u29 2 (0:Int64)) 3 (lushr_ v (32:Int32))))
            else
              if x = (1:Int32) then
                (true, (0:Int32), x, (1:Int32), (0:Int32), (vp_updL (vp_updL u29 2 (v &&& (4294967295:Int64))) 3 (0:Int64)))
              else
                (true, (0:Int32), x, (1:Int32), (0:Int32), (vp_updL (vp_updL u29 2 (v &&& (4294967295:Int64))) 3 (lushr_ v (32:Int32))))
          else
            let u25 := (f_M_be0 t w)
            if x = (1:Int32) then
              if x = (1:Int32) then
                (true, (0:Int32), x, (1:Int32), (0:Int32), (vp_updL (vp_updL u25 2 (0:Int64)) 3 (0:Int64)))
              else
                (true, (0:Int32), x, (1:Int32), (0:Int32), (vp_updL (vp_updL u25 2 (0:Int64)) 3 (lushr_ v (32:Int32))))
            else
              if x = (1:Int32) then
                (true, (0:Int32), x, (1:Int32), (0:Int32), (vp_updL (vp_updL u25 2 (v &&& (4294967295:Int64))) 3 (0:Int64)))
              else
                (true, (0:Int32), x, (1:Int32), (0:Int32), (vp_updL (vp_updL u25 2 (v &&& (4294967295:Int64))) 3 (lushr_ v (32:Int32))))
    else
      (false, (0:Int32), kd, sg, ex, w)
def ok_M_pack (x : Int32) (kd : Int32) (ex : Int32) (w : Nat → Int64) : Prop := (∀ u1, u1 = (f_M_asks x) → (((bI u1.1) = (0:Int32) → True) ∧ (¬ (bI u1.1) = (0:Int32) → (ok_M_fits x ∧ (∀ u3, u3 = (f_M_fits x kd ex w) → (((bI u3.1) = (0:Int32) → True) ∧ (¬ (bI u3.1) = (0:Int32) → ok_M_close x u3.2)))))))
def f_M_pack (x : Int32) (kd : Int32) (sg : Int32) (ex : Int32) (hi : Int64) (lo : Int64) (lh : Int64) (ll : Int64) (w : Nat → Int64) (md : Nat → Int32) : Bool × Int32 × Int64 × Int64 × Int64 × Int64 × (Nat → Int64) :=
  let u1 := (f_M_asks x)
  if (bI u1.1) = (0:Int32) then
    (false, u1.2, hi, lo, lh, ll, w)
  else
    let u3 := (f_M_fits x kd ex w)
    if (bI u3.1) = (0:Int32) then
      (false, u1.2, hi, lo, lh, ll, u3.2)
    else
      let u5 := (f_M_close x kd sg ex u3.2 md)
      (true, u1.2, u5.1, u5.2.1, u5.1, u5.2.1, u5.2.2)
def f_M_pattern (x : Bool) (hi : Int64) (lo : Int64) : Int64 × Int32 :=
  if (bI x) = (0:Int32) then
    (lo, (0:Int32))
  else
    (hi, (0:Int32))
def f_M_look (x : Int32) (kd : Int32) (sg : Int32) (ex : Int32) : Int32 × Int32 :=
  if x = (0:Int32) then
    (kd, (0:Int32))
  else
    if x = (1:Int32) then
      (sg, (0:Int32))
    else
      if x = (2:Int32) then
        (ex, (0:Int32))
      else
        ((-1:Int32), (0:Int32))
def f_M_part (x : Bool) (w : Nat → Int64) : Int64 × Int32 :=
  if (bI x) = (0:Int32) then
    (((lshl_ (w 1) (32:Int32)) ||| (w 0)), (0:Int32))
  else
    (((lshl_ (w 3) (32:Int32)) ||| (w 2)), (0:Int32))
def ok_M_digits (x : Int32) : Prop := ((x < (0:Int32) → True) ∧ (¬ x < (0:Int32) → ((x ≤ (1023:Int32) → (vp_in x 1024)) ∧ (¬ x ≤ (1023:Int32) → True))))
def f_M_digits (x : Int32) (sp : Nat → Int32) : Int32 × Int32 :=
  if x < (0:Int32) then
    ((-1:Int32), (0:Int32))
  else
    if x ≤ (1023:Int32) then
      ((sp (Int32.toNatClampNeg x)), (0:Int32))
    else
      ((-1:Int32), (0:Int32))
def ok_M_declet (x : Int32) : Prop := ((x < (0:Int32) → True) ∧ (¬ x < (0:Int32) → ((x ≤ (999:Int32) → (vp_in x 1000)) ∧ (¬ x ≤ (999:Int32) → True))))
def f_M_declet (x : Int32) (md : Nat → Int32) : Int32 × Int32 :=
  if x < (0:Int32) then
    ((-1:Int32), (0:Int32))
  else
    if x ≤ (999:Int32) then
      ((md (Int32.toNatClampNeg x)), (0:Int32))
    else
      ((-1:Int32), (0:Int32))
def f_K_put (x : Int32) (y : Bool) (z : Int32) (v : Int64) (t : Int64) (kd : Int32) (ng : Bool) (ex : Int32) (bh : Int64) (bl : Int64) : Bool × Int32 × Bool × Int32 × Int64 × Int64 :=
  if x < (0:Int32) then
    (false, kd, ng, ex, bh, bl)
  else
    if x ≤ (3:Int32) then
      let u3 := (f_W_set v t)
      let u4 := (f_D_become x z u3.1 u3.2)
      (true, u4.1, y, u4.2.1, u4.2.2.1, u4.2.2.2)
    else
      (false, kd, ng, ex, bh, bl)
def f_K_pattern (x : Bool) (mkh : Int64) (mkl : Int64) : Int64 :=
  let u1 := (f_W_half x mkh mkl)
  u1
def f_K_look (x : Int32) (kd : Int32) (ng : Bool) (ex : Int32) : Int32 :=
  if x = (0:Int32) then
    kd
  else
    if x = (1:Int32) then
      if (bI ng) = (0:Int32) then
        (0:Int32)
      else
        (1:Int32)
    else
      if x = (2:Int32) then
        ex
      else
        (-1:Int32)
def f_K_part (x : Bool) (bh : Int64) (bl : Int64) : Int64 :=
  let u1 := (f_W_half x bh bl)
  u1
def f_K_digits (x : Int32) : Int32 :=
  if x < (0:Int32) then
    (-1:Int32)
  else
    if x ≤ (1023:Int32) then
      let u3 := (f_E_read x)
      u3
    else
      (-1:Int32)
def f_K_declet (x : Int32) : Int32 :=
  if x < (0:Int32) then
    (-1:Int32)
  else
    if x ≤ (999:Int32) then
      let u3 := (f_E_write x)
      u3
    else
      (-1:Int32)
def f_K_B_unpack (x : Int64) (y : Int64) (fb : Int32) (fl : Int32) (ft : Int32) (ff : Int32) (fu : Int64) : Int32 × Int64 × Int64 × Int32 × Bool × Int32 × Int64 × Int64 :=
  let u2 := (f_B_cut x y fb)
  let u3 := (f_B_read fb fl ft ff fu u2.1 u2.2)
  (u3.1, u2.1, u2.2, u3.1, u3.2.1, u3.2.2.1, u3.2.2.2.1, u3.2.2.2.2)
def f_K_B_pack (fb : Int32) (fp : Int32) (fl : Int32) (fg : Int32) (ft : Int32) (fu : Int64) (mkh : Int64) (mkl : Int64) (kd : Int32) (ng : Bool) (ex : Int32) (bh : Int64) (bl : Int64) : Bool × Int64 × Int64 :=
  let u2 := (f_B_write fb fp fl fg ft fu kd ng ex bh bl mkh mkl)
  (u2.1, u2.2.1, u2.2.2)
def f_K_B_canonical (x : Int64) (y : Int64) (fb : Int32) (fp : Int32) (fl : Int32) (fg : Int32) (ft : Int32) (ff : Int32) (fu : Int64) (tph : Int64) (tpl : Int64) : Bool × Int64 × Int64 × Int32 × Bool × Int32 × Int64 × Int64 × Int64 × Int64 :=
  let u2 := (f_B_cut x y fb)
  let u3 := (f_B_read fb fl ft ff fu u2.1 u2.2)
  let u4 := (f_B_write fb fp fl fg ft fu u3.1 u3.2.1 u3.2.2.1 u3.2.2.2.1 u3.2.2.2.2 tph tpl)
  if (bI u4.1) = (0:Int32) then
    (false, u2.1, u2.2, u3.1, u3.2.1, u3.2.2.1, u3.2.2.2.1, u3.2.2.2.2, u4.2.1, u4.2.2)
  else
    let u6 := (f_W_isSame u4.2.1 u4.2.2 u2.1 u2.2)
    if (bI u6) = (0:Int32) then
      (false, u2.1, u2.2, u3.1, u3.2.1, u3.2.2.1, u3.2.2.2.1, u3.2.2.2.2, u4.2.1, u4.2.2)
    else
      (true, u2.1, u2.2, u3.1, u3.2.1, u3.2.2.1, u3.2.2.2.1, u3.2.2.2.2, u4.2.1, u4.2.2)
def f_K_P_unpack (x : Int64) (y : Int64) (fb : Int32) (fl : Int32) (ft : Int32) (fh : Int32) (mnh : Int64) (mnl : Int64) (mph : Int64) (mpl : Int64) (bh : Int64) (bl : Int64) : Int32 × Int64 × Int64 × Int32 × Bool × Int32 × Int64 × Int64 :=
  let u2 := (f_P_cut x y fb)
  let u3 := (f_P_read fb fl ft fh mnh mnl mph mpl u2.1 u2.2 bh bl)
  (u3.1, u2.1, u2.2, u3.1, u3.2.1, u3.2.2.1, u3.2.2.2.1, u3.2.2.2.2)
def f_K_P_pack (fb : Int32) (fl : Int32) (fg : Int32) (ft : Int32) (fh : Int32) (mnh : Int64) (mnl : Int64) (mph : Int64) (mpl : Int64) (mkh : Int64) (mkl : Int64) (kd : Int32) (ng : Bool) (ex : Int32) (bh : Int64) (bl : Int64) : Bool × Int64 × Int64 :=
  let u2 := (f_P_write fb fl fg ft fh mnh mnl mph mpl kd ng ex bh bl mkh mkl)
  (u2.1, u2.2.1, u2.2.2)
def f_K_P_canonical (x : Int64) (y : Int64) (fb : Int32) (fl : Int32) (fg : Int32) (ft : Int32) (fh : Int32) (mnh : Int64) (mnl : Int64) (mph : Int64) (mpl : Int64) (tbh : Int64) (tbl : Int64) (tph : Int64) (tpl : Int64) : Bool × Int64 × Int64 × Int32 × Bool × Int32 × Int64 × Int64 × Int64 × Int64 :=
  let u2 := (f_P_cut x y fb)
  let u3 := (f_P_read fb fl ft fh mnh mnl mph mpl u2.1 u2.2 tbh tbl)
  let u4 := (f_P_write fb fl fg ft fh mnh mnl mph mpl u3.1 u3.2.1 u3.2.2.1 u3.2.2.2.1 u3.2.2.2.2 tph tpl)
  if (bI u4.1) = (0:Int32) then
    (false, u2.1, u2.2, u3.1, u3.2.1, u3.2.2.1, u3.2.2.2.1, u3.2.2.2.2, u4.2.1, u4.2.2)
  else
    let u6 := (f_W_isSame u4.2.1 u4.2.2 u2.1 u2.2)
    if (bI u6) = (0:Int32) then
      (false, u2.1, u2.2, u3.1, u3.2.1, u3.2.2.1, u3.2.2.2.1, u3.2.2.2.2, u4.2.1, u4.2.2)
    else
      (true, u2.1, u2.2, u3.1, u3.2.1, u3.2.2.1, u3.2.2.2.1, u3.2.2.2.2, u4.2.1, u4.2.2)
def ok_K_T_unpack (fd : Int32) : Prop := ok_T_read fd
def f_K_T_unpack (x : Int64) (y : Int64) (fb : Int32) (fl : Int32) (fd : Int32) (ft : Int32) (fh : Int32) (fr : Int32) (bh : Int64) (bl : Int64) : Int32 × Int64 × Int64 × Int32 × Bool × Int32 × Int64 × Int64 :=
  let u2 := (f_T_cut x y fb)
  let u3 := (f_T_read fb fl fd ft fh fr u2.1 u2.2 bh bl)
  (u3.1, u2.1, u2.2, u3.1, u3.2.1, u3.2.2.1, u3.2.2.2.1, u3.2.2.2.2)
def ok_K_T_pack (fd : Int32) : Prop := ok_T_write fd
def f_K_T_pack (fb : Int32) (fl : Int32) (fg : Int32) (fd : Int32) (ft : Int32) (fh : Int32) (fr : Int32) (mnh : Int64) (mnl : Int64) (mph : Int64) (mpl : Int64) (lfh : Int64) (lfl : Int64) (mkh : Int64) (mkl : Int64) (kd : Int32) (ng : Bool) (ex : Int32) (bh : Int64) (bl : Int64) : Bool × Int64 × Int64 × Int64 × Int64 :=
  let u2 := (f_T_write fb fl fg fd ft fh fr mnh mnl mph mpl lfh lfl kd ng ex bh bl mkh mkl)
  (u2.1, u2.2.1, u2.2.2.1, u2.2.2.2.1, u2.2.2.2.2)
def ok_K_T_canonical (fd : Int32) : Prop := (ok_T_read fd ∧ ok_T_write fd)
def f_K_T_canonical (x : Int64) (y : Int64) (fb : Int32) (fl : Int32) (fg : Int32) (fd : Int32) (ft : Int32) (fh : Int32) (fr : Int32) (mnh : Int64) (mnl : Int64) (mph : Int64) (mpl : Int64) (lfh : Int64) (lfl : Int64) (tbh : Int64) (tbl : Int64) (tph : Int64) (tpl : Int64) : Bool × Int64 × Int64 × Int64 × Int64 × Int32 × Bool × Int32 × Int64 × Int64 × Int64 × Int64 :=
  let u2 := (f_T_cut x y fb)
  let u3 := (f_T_read fb fl fd ft fh fr u2.1 u2.2 tbh tbl)
  let u4 := (f_T_write fb fl fg fd ft fh fr mnh mnl mph mpl lfh lfl u3.1 u3.2.1 u3.2.2.1 u3.2.2.2.1 u3.2.2.2.2 tph tpl)
  if (bI u4.1) = (0:Int32) then
    (false, u4.2.1, u4.2.2.1, u2.1, u2.2, u3.1, u3.2.1, u3.2.2.1, u3.2.2.2.1, u3.2.2.2.2, u4.2.2.2.1, u4.2.2.2.2)
  else
    let u6 := (f_W_isSame u4.2.2.2.1 u4.2.2.2.2 u2.1 u2.2)
    if (bI u6) = (0:Int32) then
      (false, u4.2.1, u4.2.2.1, u2.1, u2.2, u3.1, u3.2.1, u3.2.2.1, u3.2.2.2.1, u3.2.2.2.2, u4.2.2.2.1, u4.2.2.2.2)
    else
      (true, u4.2.1, u4.2.2.1, u2.1, u2.2, u3.1, u3.2.1, u3.2.2.1, u3.2.2.2.1, u3.2.2.2.2, u4.2.2.2.1, u4.2.2.2.2)
def f_C_B_format (x : Int32) (y : Int32) (z : Int32) : Int32 × Int32 × Int32 × Int32 :=
  (x, y, (((2:Int32) - z) - y), ((z + (1:Int32)) - y))
def f_C_P_format (x : Int32) (y : Int32) (z : Int32) : Int32 × Int32 × Int32 × Int32 :=
  (x, y, (((2:Int32) - z) - y), ((z + (1:Int32)) - y))
def f_C_T_format (x : Int32) (y : Int32) (z : Int32) : Int32 × Int32 × Int32 × Int32 :=
  (x, y, (((2:Int32) - z) - y), ((z + (1:Int32)) - y))
def f_C_B_init (x : Int32) (y : Int32) (z : Int32) : Int32 × Int32 × Int32 × Int32 × Int32 × Int32 × Int64 :=
  let u1 := (f_C_B_format x y z)
  let u2 := (f_W_ones (x - y))
  (u1.1, u1.2.1, u1.2.2.1, u1.2.2.2, (y - (1:Int32)), (x - y), u2)
def lf_C_nines : Nat → Int32 → Int32 → Int64 → Int64 → Int64 × Int64
  | 0, _, _, _, _ => default
  | n + 1, x, x2, y0_0, y0_1 =>
    if x ≤ x2 then
      (y0_0, y0_1)
    else
      let u4 := (f_W_times (10:Int32) (9:Int32) y0_0 y0_1)
      lf_C_nines n x (x2 + (1:Int32)) u4.1 u4.2
def lk_C_nines : Nat → Int32 → Int32 → Prop
  | 0, _, _ => False
  | n + 1, x, x2 => ((x ≤ x2 → True) ∧ (¬ x ≤ x2 → lk_C_nines n x (x2 + (1:Int32))))
def ok_C_nines (x : Int32) : Prop := lk_C_nines 200 x (0:Int32)
def f_C_nines (x : Int32) : Int64 × Int64 :=
  lf_C_nines 200 x (0:Int32) 0 0
def ok_C_P_decimal (y : Int32) : Prop := (ok_C_nines y ∧ ok_C_nines (y - (1:Int32)))
def f_C_P_decimal (x : Int32) (y : Int32) (z : Int32) : Int32 × Int32 × Int32 × Int32 × Int32 × Int32 × Int32 × Int64 × Int64 × Int64 × Int64 :=
  let u1 := (f_C_P_format x y z)
  let v3 := (f_C_nines y)
  let v6 := (f_C_nines (y - (1:Int32)))
  (u1.1, u1.2.1, u1.2.2.1, u1.2.2.2, ((y - (1:Int32)) / (3:Int32)), ((10:Int32) * ((y - (1:Int32)) / (3:Int32))), ((x / (16:Int32)) + (9:Int32)), v3.1, v3.2, v6.1, v6.2)
def ok_C_P_init (y : Int32) : Prop := ok_C_P_decimal y
def f_C_P_init (x : Int32) (y : Int32) (z : Int32) : Int32 × Int32 × Int32 × Int32 × Int32 × Int32 × Int32 × Int64 × Int64 × Int64 × Int64 :=
  let v2 := (f_C_P_decimal x y z)
  (v2.1, v2.2.1, v2.2.2.1, v2.2.2.2.1, v2.2.2.2.2.1, v2.2.2.2.2.2.1, v2.2.2.2.2.2.2.1, v2.2.2.2.2.2.2.2.1, v2.2.2.2.2.2.2.2.2.1, v2.2.2.2.2.2.2.2.2.2.1, v2.2.2.2.2.2.2.2.2.2.2)
def ok_C_T_decimal (y : Int32) : Prop := (ok_C_nines y ∧ ok_C_nines (y - (1:Int32)))
def f_C_T_decimal (x : Int32) (y : Int32) (z : Int32) : Int32 × Int32 × Int32 × Int32 × Int32 × Int32 × Int32 × Int64 × Int64 × Int64 × Int64 :=
  let u1 := (f_C_T_format x y z)
  let v3 := (f_C_nines y)
  let v6 := (f_C_nines (y - (1:Int32)))
  (u1.1, u1.2.1, u1.2.2.1, u1.2.2.2, ((y - (1:Int32)) / (3:Int32)), ((10:Int32) * ((y - (1:Int32)) / (3:Int32))), ((x / (16:Int32)) + (9:Int32)), v3.1, v3.2, v6.1, v6.2)
def ok_C_T_init (y : Int32) : Prop := ok_C_T_decimal y
def f_C_T_init (x : Int32) (y : Int32) (z : Int32) : Int32 × Int32 × Int32 × Int32 × Int32 × Int32 × Int32 × Int32 × Int64 × Int64 × Int64 × Int64 × Int64 × Int64 :=
  let v2 := (f_C_T_decimal x y z)
  (v2.1, v2.2.1, v2.2.2.1, v2.2.2.2.1, v2.2.2.2.2.1, v2.2.2.2.2.2.1, v2.2.2.2.2.2.2.1, (v2.2.2.2.2.2.2.1 - (5:Int32)), v2.2.2.2.2.2.2.2.1, v2.2.2.2.2.2.2.2.2.1, v2.2.2.2.2.2.2.2.2.2.1, v2.2.2.2.2.2.2.2.2.2.2, 0, 0)
def ok_C_K_init : Prop := (ok_C_P_init (7:Int32) ∧ (ok_C_P_init (16:Int32) ∧ (ok_C_P_init (34:Int32) ∧ (ok_C_T_init (7:Int32) ∧ (ok_C_T_init (16:Int32) ∧ ok_C_T_init (34:Int32))))))
def f_C_K_init : Int32 × Int32 × Int32 × Int32 × Int32 × Int32 × Int64 × Int32 × Int32 × Int32 × Int32 × Int32 × Int32 × Int64 × Int32 × Int32 × Int32 × Int32 × Int32 × Int32 × Int64 × Int32 × Int32 × Int32 × Int32 × Int32 × Int32 × Int64 × Int32 × Int32 × Int32 × Int32 × Int32 × Int32 × Int32 × Int64 × Int64 × Int64 × Int64 × Int32 × Int32 × Int32 × Int32 × Int32 × Int32 × Int32 × Int64 × Int64 × Int64 × Int64 × Int32 × Int32 × Int32 × Int32 × Int32 × Int32 × Int32 × Int64 × Int64 × Int64 × Int64 × Int32 × Int32 × Int32 × Int32 × Int32 × Int32 × Int32 × Int32 × Int64 × Int64 × Int64 × Int64 × Int64 × Int64 × Int32 × Int32 × Int32 × Int32 × Int32 × Int32 × Int32 × Int32 × Int64 × Int64 × Int64 × Int64 × Int64 × Int64 × Int32 × Int32 × Int32 × Int32 × Int32 × Int32 × Int32 × Int32 × Int64 × Int64 × Int64 × Int64 × Int64 × Int64 × Int32 × Bool × Int32 × Int64 × Int64 × Int64 × Int64 × Int64 × Int64 × Int32 × Bool × Int32 × Int64 × Int64 × Int64 × Int64 :=
  let u4 := (f_C_B_init (16:Int32) (11:Int32) (15:Int32))
  let u6 := (f_C_B_init (32:Int32) (24:Int32) (127:Int32))
  let u8 := (f_C_B_init (64:Int32) (53:Int32) (1023:Int32))
  let u10 := (f_C_B_init (128:Int32) (113:Int32) (16383:Int32))
  let v13 := (f_C_P_init (32:Int32) (7:Int32) (96:Int32))
  let v18 := (f_C_P_init (64:Int32) (16:Int32) (384:Int32))
  let v23 := (f_C_P_init (128:Int32) (34:Int32) (6144:Int32))
  let v28 := (f_C_T_init (32:Int32) (7:Int32) (96:Int32))
  let v34 := (f_C_T_init (64:Int32) (16:Int32) (384:Int32))
  let v40 := (f_C_T_init (128:Int32) (34:Int32) (6144:Int32))
  let v46 := f_D_init
  let v54 := f_D_init
  (u4.1, u4.2.1, u4.2.2.1, u4.2.2.2.1, u4.2.2.2.2.1, u4.2.2.2.2.2.1, u4.2.2.2.2.2.2, u6.1, u6.2.1, u6.2.2.1, u6.2.2.2.1, u6.2.2.2.2.1, u6.2.2.2.2.2.1, u6.2.2.2.2.2.2, u8.1, u8.2.1, u8.2.2.1, u8.2.2.2.1, u8.2.2.2.2.1, u8.2.2.2.2.2.1, u8.2.2.2.2.2.2, u10.1, u10.2.1, u10.2.2.1, u10.2.2.2.1, u10.2.2.2.2.1, u10.2.2.2.2.2.1, u10.2.2.2.2.2.2, v13.1, v13.2.1, v13.2.2.1, v13.2.2.2.1, v13.2.2.2.2.1, v13.2.2.2.2.2.1, v13.2.2.2.2.2.2.1, v13.2.2.2.2.2.2.2.1, v13.2.2.2.2.2.2.2.2.1, v13.2.2.2.2.2.2.2.2.2.1, v13.2.2.2.2.2.2.2.2.2.2, v18.1, v18.2.1, v18.2.2.1, v18.2.2.2.1, v18.2.2.2.2.1, v18.2.2.2.2.2.1, v18.2.2.2.2.2.2.1, v18.2.2.2.2.2.2.2.1, v18.2.2.2.2.2.2.2.2.1, v18.2.2.2.2.2.2.2.2.2.1, v18.2.2.2.2.2.2.2.2.2.2, v23.1, v23.2.1, v23.2.2.1, v23.2.2.2.1, v23.2.2.2.2.1, v23.2.2.2.2.2.1, v23.2.2.2.2.2.2.1, v23.2.2.2.2.2.2.2.1, v23.2.2.2.2.2.2.2.2.1, v23.2.2.2.2.2.2.2.2.2.1, v23.2.2.2.2.2.2.2.2.2.2, v28.1, v28.2.1, v28.2.2.1, v28.2.2.2.1, v28.2.2.2.2.1, v28.2.2.2.2.2.1, v28.2.2.2.2.2.2.1, v28.2.2.2.2.2.2.2.1, v28.2.2.2.2.2.2.2.2.1, v28.2.2.2.2.2.2.2.2.2.1, v28.2.2.2.2.2.2.2.2.2.2.1, v28.2.2.2.2.2.2.2.2.2.2.2.1, v28.2.2.2.2.2.2.2.2.2.2.2.2.1, v28.2.2.2.2.2.2.2.2.2.2.2.2.2, v34.1, v34.2.1, v34.2.2.1, v34.2.2.2.1, v34.2.2.2.2.1, v34.2.2.2.2.2.1, v34.2.2.2.2.2.2.1, v34.2.2.2.2.2.2.2.1, v34.2.2.2.2.2.2.2.2.1, v34.2.2.2.2.2.2.2.2.2.1, v34.2.2.2.2.2.2.2.2.2.2.1, v34.2.2.2.2.2.2.2.2.2.2.2.1, v34.2.2.2.2.2.2.2.2.2.2.2.2.1, v34.2.2.2.2.2.2.2.2.2.2.2.2.2, v40.1, v40.2.1, v40.2.2.1, v40.2.2.2.1, v40.2.2.2.2.1, v40.2.2.2.2.2.1, v40.2.2.2.2.2.2.1, v40.2.2.2.2.2.2.2.1, v40.2.2.2.2.2.2.2.2.1, v40.2.2.2.2.2.2.2.2.2.1, v40.2.2.2.2.2.2.2.2.2.2.1, v40.2.2.2.2.2.2.2.2.2.2.2.1, v40.2.2.2.2.2.2.2.2.2.2.2.2.1, v40.2.2.2.2.2.2.2.2.2.2.2.2.2, v46.1, v46.2.1, v46.2.2.1, v46.2.2.2.1, v46.2.2.2.2, 0, 0, 0, 0, v54.1, v54.2.1, v54.2.2.1, v54.2.2.2.1, v54.2.2.2.2, 0, 0)
def f_C_M_bitsOf (x : Int32) : (Nat → Int32) :=
  (upd (upd (upd (upd (upd (upd (upd (upd (upd (upd (fun _ => 0) 0 ((x >>> ((0:Int32) &&& 31)) &&& (1:Int32))) 1 ((x >>> ((1:Int32) &&& 31)) &&& (1:Int32))) 2 ((x >>> ((2:Int32) &&& 31)) &&& (1:Int32))) 3 ((x >>> ((3:Int32) &&& 31)) &&& (1:Int32))) 4 ((x >>> ((4:Int32) &&& 31)) &&& (1:Int32))) 5 ((x >>> ((5:Int32) &&& 31)) &&& (1:Int32))) 6 ((x >>> ((6:Int32) &&& 31)) &&& (1:Int32))) 7 ((x >>> ((7:Int32) &&& 31)) &&& (1:Int32))) 8 ((x >>> ((8:Int32) &&& 31)) &&& (1:Int32))) 9 ((x >>> ((9:Int32) &&& 31)) &&& (1:Int32)))
def f_C_M_spell (x : Int32) : Int32 :=
  let v2 := (f_C_M_bitsOf x)
  if (v2 3) = (0:Int32) then
    ((((((100:Int32) * ((((4:Int32) * (v2 9)) + ((2:Int32) * (v2 8))) + (v2 7))) + ((10:Int32) * ((((4:Int32) * (v2 6)) + ((2:Int32) * (v2 5))) + (v2 4)))) + ((4:Int32) * (v2 2))) + ((2:Int32) * (v2 1))) + (v2 0))
  else
    if (((2:Int32) * (v2 2)) + (v2 1)) = (0:Int32) then
      (((((100:Int32) * ((((4:Int32) * (v2 9)) + ((2:Int32) * (v2 8))) + (v2 7))) + ((10:Int32) * ((((4:Int32) * (v2 6)) + ((2:Int32) * (v2 5))) + (v2 4)))) + (8:Int32)) + (v2 0))
    else
      if (((2:Int32) * (v2 2)) + (v2 1)) = (1:Int32) then
        ((((100:Int32) * ((((4:Int32) * (v2 9)) + ((2:Int32) * (v2 8))) + (v2 7))) + ((10:Int32) * ((8:Int32) + (v2 4)))) + ((((4:Int32) * (v2 6)) + ((2:Int32) * (v2 5))) + (v2 0)))
      else
        if (((2:Int32) * (v2 2)) + (v2 1)) = (2:Int32) then
          ((((100:Int32) * ((8:Int32) + (v2 7))) + ((10:Int32) * ((((4:Int32) * (v2 6)) + ((2:Int32) * (v2 5))) + (v2 4)))) + ((((4:Int32) * (v2 9)) + ((2:Int32) * (v2 8))) + (v2 0)))
        else
          if (((2:Int32) * (v2 6)) + (v2 5)) = (0:Int32) then
            ((((100:Int32) * ((8:Int32) + (v2 7))) + ((10:Int32) * ((8:Int32) + (v2 4)))) + ((((4:Int32) * (v2 9)) + ((2:Int32) * (v2 8))) + (v2 0)))
          else
            if (((2:Int32) * (v2 6)) + (v2 5)) = (1:Int32) then
              (((((100:Int32) * ((8:Int32) + (v2 7))) + ((10:Int32) * ((((4:Int32) * (v2 9)) + ((2:Int32) * (v2 8))) + (v2 4)))) + (8:Int32)) + (v2 0))
            else
              if (((2:Int32) * (v2 6)) + (v2 5)) = (2:Int32) then
                (((((100:Int32) * ((((4:Int32) * (v2 9)) + ((2:Int32) * (v2 8))) + (v2 7))) + ((10:Int32) * ((8:Int32) + (v2 4)))) + (8:Int32)) + (v2 0))
              else
                (((((100:Int32) * ((8:Int32) + (v2 7))) + ((10:Int32) * ((8:Int32) + (v2 4)))) + (8:Int32)) + (v2 0))
def lf_C_M_init2 : Nat → Int32 → ((Nat → Int64)) → ((Nat → Int32)) → ((Nat → Int32)) → (Nat → Int64) × (Nat → Int32) × (Nat → Int32)
  | 0, _, _, _, _ => default
  | n + 1, bx1, by1_a, by2_a, by3_a =>
    if (1024:Int32) ≤ bx1 then
      (by1_a, by2_a, by3_a)
    else
      let u9 := (f_C_M_spell bx1)
      if (by3_a (Int32.toNatClampNeg ((upd by2_a (Int32.toNatClampNeg bx1) u9) (Int32.toNatClampNeg bx1)))) = (-1:Int32) then
        lf_C_M_init2 n (bx1 + (1:Int32)) by1_a (upd by2_a (Int32.toNatClampNeg bx1) u9) (upd by3_a (Int32.toNatClampNeg ((upd by2_a (Int32.toNatClampNeg bx1) u9) (Int32.toNatClampNeg bx1))) bx1)
      else
        lf_C_M_init2 n (bx1 + (1:Int32)) by1_a (upd by2_a (Int32.toNatClampNeg bx1) u9) by3_a
def lk_C_M_init2 : Nat → Int32 → (Nat → Int32) → Prop
  | 0, _, _ => False
  | n + 1, bx1, by2_a => (((1024:Int32) ≤ bx1 → True) ∧ (¬ (1024:Int32) ≤ bx1 → (∀ u9, u9 = (f_C_M_spell bx1) → ((vp_in bx1 1024) ∧ ((vp_in bx1 1024) ∧ ((vp_in ((upd by2_a (Int32.toNatClampNeg bx1) u9) (Int32.toNatClampNeg bx1)) 1000) ∧ (((vp_in bx1 1024) ∧ ((vp_in ((upd by2_a (Int32.toNatClampNeg bx1) u9) (Int32.toNatClampNeg bx1)) 1000) ∧ lk_C_M_init2 n (bx1 + (1:Int32)) (upd by2_a (Int32.toNatClampNeg bx1) u9))) ∧ lk_C_M_init2 n (bx1 + (1:Int32)) (upd by2_a (Int32.toNatClampNeg bx1) u9))))))))
def lf_C_M_init1 : Nat → Int32 → ((Nat → Int64)) → ((Nat → Int32)) → ((Nat → Int32)) → (Nat → Int64) × (Nat → Int32) × (Nat → Int32)
  | 0, _, _, _, _ => default
  | n + 1, ax1, ay1_a, ay2_a, ay3_a =>
    if (1000:Int32) ≤ ax1 then
      lf_C_M_init2 1025 (0:Int32) ay1_a ay2_a ay3_a
    else
      lf_C_M_init1 n (ax1 + (1:Int32)) ay1_a ay2_a (upd ay3_a (Int32.toNatClampNeg ax1) (-1:Int32))
def lk_C_M_init1 : Nat → Int32 → (Nat → Int32) → Prop
  | 0, _, _ => False
  | n + 1, ax1, ay2_a => (((1000:Int32) ≤ ax1 → lk_C_M_init2 1025 (0:Int32) ay2_a) ∧ (¬ (1000:Int32) ≤ ax1 → ((vp_in ax1 1000) ∧ lk_C_M_init1 n (ax1 + (1:Int32)) ay2_a)))
def ok_C_M_init : Prop := lk_C_M_init1 1001 (0:Int32) (fun _ => 0)
def f_C_M_init : (Nat → Int64) × (Nat → Int32) × (Nat → Int32) :=
  lf_C_M_init1 1001 (0:Int32) (fun _ => 0) (fun _ => 0) (fun _ => 0)
