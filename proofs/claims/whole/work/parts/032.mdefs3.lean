def mok_M_openDecimal (x : Int32) (lh : Int64) (ll : Int64) : Prop := (∀ u1, u1 = ((sl m_M_width) x) → (∀ u2, u2 = ((sl m_M_tail) x) → (mok_M_field (5:Int32) ∧ ((x ≤ (6:Int32) → (((∀ u33, u33 = ((sl m_M_digitsOf) x) → mok_M_takeAtMost u2 (u33 - (1:Int32)) (0:Int32)) ∧ (∀ u30, u30 = ((sl m_M_digitsOf) x) → mok_M_takeAtMost u2 (u30 - (1:Int32)) (0:Int32))) ∧ ((mok_M_field (((u1 - (1:Int32)) - u2) - (3:Int32)) ∧ (∀ u14, u14 = ((sl m_M_digitsOf) x) → mok_M_takeAtMost (u2 + (1:Int32)) u14 (u2 + (1:Int32)))) ∧ (mok_M_field (((u1 - (1:Int32)) - u2) - (3:Int32)) ∧ (∀ u23, u23 = ((sl m_M_digitsOf) x) → mok_M_takeAtMost (u2 + (3:Int32)) u23 (0:Int32)))))) ∧ (¬ x ≤ (6:Int32) → (mok_M_takeDigits x lh ll ∧ (mok_M_field (((u1 - (1:Int32)) - u2) - (5:Int32)) ∧ mok_M_takeDigits x lh ll)))))))
theorem mok_M_openDecimal_f : mok_M_openDecimal = ok_M_openDecimal := by delta mok_M_openDecimal ok_M_openDecimal; first | (rw [m_M_width_f, m_M_tail_f, mok_M_field_f, m_M_digitsOf_f, mok_M_takeAtMost_f, mok_M_takeDigits_f]; done) | (rw [m_M_width_f, m_M_tail_f, mok_M_field_f, m_M_digitsOf_f, mok_M_takeAtMost_f, mok_M_takeDigits_f]; rfl)
noncomputable def m_M_openDecimal (x : Int32) (kd : Int32) (ex : Int32) (lh : Int64) (ll : Int64) (w : Nat → Int64) (sp : Nat → Int32) : Int32 × Int32 × (Nat → Int64) :=
  let u1 := ((sl m_M_width) x)
  let u2 := ((sl m_M_tail) x)
  let u3 := ((sl m_M_field) (u1 - (6:Int32)) (5:Int32) lh ll)
  if x ≤ (6:Int32) then
    let u5 := ((sl m_M_be0) (0:Int64) w)
    if u3 = (30:Int32) then
      ((1:Int32), ex, u5)
    else
      if u3 = (31:Int32) then
        let u27 := ((sl m_M_bit) (u1 - (7:Int32)) lh ll)
        if u27 = (1:Int32) then
          let u33 := ((sl m_M_digitsOf) x)
          let u34 := ((sl m_M_takeAtMost) (0:Int32) u2 (u33 - (1:Int32)) (0:Int32) lh ll u5)
          ((3:Int32), ex, u34)
        else
          let u30 := ((sl m_M_digitsOf) x)
          let u31 := ((sl m_M_takeAtMost) (0:Int32) u2 (u30 - (1:Int32)) (0:Int32) lh ll u5)
          ((2:Int32), ex, u31)
      else
        if (24:Int32) ≤ u3 then
          let u11 := ((sl m_M_field) (u2 + (1:Int32)) (((u1 - (1:Int32)) - u2) - (3:Int32)) lh ll)
          let u14 := ((sl m_M_digitsOf) x)
          let u16 := ((sl m_M_takeAtMost) (4:Int32) (u2 + (1:Int32)) u14 (u2 + (1:Int32)) lh ll u5)
          let u17 := ((sl m_M_least) x)
          (kd, (u11 + u17), u16)
        else
          let u20 := ((sl m_M_field) (u2 + (3:Int32)) (((u1 - (1:Int32)) - u2) - (3:Int32)) lh ll)
          let u23 := ((sl m_M_digitsOf) x)
          let u25 := ((sl m_M_takeAtMost) (0:Int32) (u2 + (3:Int32)) u23 (0:Int32) lh ll u5)
          let u26 := ((sl m_M_least) x)
          (kd, (u20 + u26), u25)
  else
    let u35 := ((sl m_M_be0) (0:Int64) w)
    if u3 = (30:Int32) then
      ((1:Int32), ex, u35)
    else
      if u3 = (31:Int32) then
        let u55 := ((sl m_M_bit) (u1 - (7:Int32)) lh ll)
        if u55 = (1:Int32) then
          let u60 := ((sl m_M_takeDigits) x lh ll u35 sp)
          ((3:Int32), ex, u60)
        else
          let u58 := ((sl m_M_takeDigits) x lh ll u35 sp)
          ((2:Int32), ex, u58)
      else
        if (24:Int32) ≤ u3 then
          let u41 := ((sl m_M_field) u2 (((u1 - (1:Int32)) - u2) - (5:Int32)) lh ll)
          let z42 := ((((u3 / (2:Int32)) - (u3 / (2:Int32)) / (4:Int32) * (4:Int32)) * ((1:Int32) <<< ((((u1 - (1:Int32)) - u2) - (5:Int32)) &&& 31))) + u41)
          let u44 := ((sl m_M_be0) (Int32.toInt64 ((8:Int32) + (u3 - u3 / (2:Int32) * (2:Int32)))) u35)
          let u45 := ((sl m_M_takeDigits) x lh ll u44 sp)
          let u46 := ((sl m_M_least) x)
          (kd, (z42 + u46), u45)
        else
          let u49 := ((sl m_M_field) u2 (((u1 - (1:Int32)) - u2) - (5:Int32)) lh ll)
          let z50 := (((u3 / (8:Int32)) * ((1:Int32) <<< ((((u1 - (1:Int32)) - u2) - (5:Int32)) &&& 31))) + u49)
          let u52 := ((sl m_M_be0) (Int32.toInt64 (u3 - u3 / (8:Int32) * (8:Int32))) u35)
          let u53 := ((sl m_M_takeDigits) x lh ll u52 sp)
          let u54 := ((sl m_M_least) x)
          (kd, (z50 + u54), u53)
theorem m_M_openDecimal_f : sl m_M_openDecimal = f_M_openDecimal := (sl_eq m_M_openDecimal).trans (by delta m_M_openDecimal f_M_openDecimal; first | (rw [m_M_width_f, m_M_tail_f, m_M_field_f, m_M_be0_f, m_M_bit_f, m_M_digitsOf_f, m_M_takeAtMost_f, m_M_least_f, m_M_takeDigits_f]; done) | (rw [m_M_width_f, m_M_tail_f, m_M_field_f, m_M_be0_f, m_M_bit_f, m_M_digitsOf_f, m_M_takeAtMost_f, m_M_least_f, m_M_takeDigits_f]; rfl))
def mok_M_open (x : Int32) (lh : Int64) (ll : Int64) : Prop := (∀ u1, u1 = ((sl m_M_mask) x lh ll) → (((4:Int32) ≤ x → mok_M_openDecimal x u1.1 u1.2) ∧ (¬ (4:Int32) ≤ x → mok_M_openBinary x)))
theorem mok_M_open_f : mok_M_open = ok_M_open := by delta mok_M_open ok_M_open; first | (rw [m_M_mask_f, mok_M_openDecimal_f, mok_M_openBinary_f]; done) | (rw [m_M_mask_f, mok_M_openDecimal_f, mok_M_openBinary_f]; rfl)
noncomputable def m_M_open (x : Int32) (lh : Int64) (ll : Int64) (w : Nat → Int64) (sp : Nat → Int32) : Int32 × Int32 × Int32 × Int64 × Int64 × (Nat → Int64) :=
  let u1 := ((sl m_M_mask) x lh ll)
  let u2 := ((sl m_M_width) x)
  let u3 := ((sl m_M_bit) (u2 - (1:Int32)) u1.1 u1.2)
  if (4:Int32) ≤ x then
    let u5 := ((sl m_M_openDecimal) x (0:Int32) (0:Int32) u1.1 u1.2 w sp)
    (u5.1, u3, u5.2.1, u1.1, u1.2, u5.2.2)
  else
    let u6 := ((sl m_M_openBinary) x (0:Int32) (0:Int32) u1.1 u1.2 w)
    (u6.1, u3, u6.2.1, u1.1, u1.2, u6.2.2)
theorem m_M_open_f : sl m_M_open = f_M_open := (sl_eq m_M_open).trans (by delta m_M_open f_M_open; first | (rw [m_M_mask_f, m_M_width_f, m_M_bit_f, m_M_openDecimal_f, m_M_openBinary_f]; done) | (rw [m_M_mask_f, m_M_width_f, m_M_bit_f, m_M_openDecimal_f, m_M_openBinary_f]; rfl))
def mok_M_fits (x : Int32) : Prop := (∀ u1, u1 = ((sl m_M_digitsOf) x) → ((mok_M_power1 u1 ∧ mok_M_power1 (u1 - (1:Int32))) ∧ (mok_M_power1 (u1 - (1:Int32)) ∧ mok_M_power1 (u1 - (2:Int32)))))
theorem mok_M_fits_f : mok_M_fits = ok_M_fits := by delta mok_M_fits ok_M_fits; first | (rw [m_M_digitsOf_f, mok_M_power1_f]; done) | (rw [m_M_digitsOf_f, mok_M_power1_f]; rfl)
noncomputable def m_M_fits (x : Int32) (kd : Int32) (ex : Int32) (w : Nat → Int64) : Bool × (Nat → Int64) :=
  let u1 := ((sl m_M_digitsOf) x)
  if kd = (1:Int32) then
    (true, w)
  else
    if kd = (0:Int32) then
      if (4:Int32) ≤ x then
        let u36 := ((sl m_M_power1) (10:Int32) u1 w)
        let u37 := ((sl m_M_isBelow) u36)
        if (bI u37) = (0:Int32) then
          (false, u36)
        else
          let u39 := ((sl m_M_least) x)
          if ex < u39 then
            (false, u36)
          else
            let u41 := ((sl m_M_greatest) x)
            if ex ≤ u41 then
              let u43 := ((sl m_M_power1) (2:Int32) (u1 - (1:Int32)) u36)
              if (3:Int32) < x then
                (true, u43)
              else
                let u45 := ((sl m_M_least) x)
                if ex = u45 then
                  (true, u43)
                else
                  let u47 := ((sl m_M_isBelow) u43)
                  if (bI u47) = (0:Int32) then
                    (true, u43)
                  else
                    (false, u43)
            else
              (false, u36)
      else
        let u49 := ((sl m_M_power1) (2:Int32) u1 w)
        let u50 := ((sl m_M_isBelow) u49)
        if (bI u50) = (0:Int32) then
          (false, u49)
        else
          let u52 := ((sl m_M_least) x)
          if ex < u52 then
            (false, u49)
          else
            let u54 := ((sl m_M_greatest) x)
            if ex ≤ u54 then
              let u56 := ((sl m_M_power1) (2:Int32) (u1 - (1:Int32)) u49)
              if (3:Int32) < x then
                (true, u56)
              else
                let u58 := ((sl m_M_least) x)
                if ex = u58 then
                  (true, u56)
                else
                  let u60 := ((sl m_M_isBelow) u56)
                  if (bI u60) = (0:Int32) then
                    (true, u56)
                  else
                    (false, u56)
            else
              (false, u49)
    else
      if (4:Int32) ≤ x then
        if (4:Int32) ≤ x then
          let u6 := ((sl m_M_power1) (10:Int32) (u1 - (1:Int32)) w)
          let u7 := ((sl m_M_isBelow) u6)
          if (bI u7) = (0:Int32) then
            (false, u6)
          else
            if (4:Int32) ≤ x then
              (true, u6)
            else
              if kd = (3:Int32) then
                let u11 := ((sl m_M_isZero) u6)
                if (bI u11) = (0:Int32) then
                  (true, u6)
                else
                  (false, u6)
              else
                (true, u6)
        else
          let u13 := ((sl m_M_power1) (10:Int32) (u1 - (2:Int32)) w)
          let u14 := ((sl m_M_isBelow) u13)
          if (bI u14) = (0:Int32) then
            (false, u13)
          else
            if (4:Int32) ≤ x then
              (true, u13)
            else
              if kd = (3:Int32) then
                let u18 := ((sl m_M_isZero) u13)
                if (bI u18) = (0:Int32) then
                  (true, u13)
                else
                  (false, u13)
              else
                (true, u13)
      else
        if (4:Int32) ≤ x then
          let u21 := ((sl m_M_power1) (2:Int32) (u1 - (1:Int32)) w)
          let u22 := ((sl m_M_isBelow) u21)
          if (bI u22) = (0:Int32) then
            (false, u21)
          else
            if (4:Int32) ≤ x then
              (true, u21)
            else
              if kd = (3:Int32) then
                let u26 := ((sl m_M_isZero) u21)
                if (bI u26) = (0:Int32) then
                  (true, u21)
                else
                  (false, u21)
              else
                (true, u21)
        else
          let u28 := ((sl m_M_power1) (2:Int32) (u1 - (2:Int32)) w)
          let u29 := ((sl m_M_isBelow) u28)
          if (bI u29) = (0:Int32) then
            (false, u28)
          else
            if (4:Int32) ≤ x then
              (true, u28)
            else
              if kd = (3:Int32) then
                let u33 := ((sl m_M_isZero) u28)
                if (bI u33) = (0:Int32) then
                  (true, u28)
                else
                  (false, u28)
              else
                (true, u28)
theorem m_M_fits_f : sl m_M_fits = f_M_fits := (sl_eq m_M_fits).trans (by delta m_M_fits f_M_fits; first | (rw [m_M_digitsOf_f, m_M_power1_f, m_M_isBelow_f, m_M_least_f, m_M_greatest_f, m_M_isZero_f]; done) | (rw [m_M_digitsOf_f, m_M_power1_f, m_M_isBelow_f, m_M_least_f, m_M_greatest_f, m_M_isZero_f]; rfl))
def mok_M_closeBinary (x : Int32) : Prop := (∀ u1, u1 = ((sl m_M_digitsOf) x) → (∀ u2, u2 = ((sl m_M_width) x) → ((mok_M_bitOf (u1 - (1:Int32)) ∧ (mok_M_lay (u2 - u1) ∧ mok_M_layNumber (u1 - (1:Int32)))) ∧ (mok_M_lay (u2 - u1) ∧ mok_M_layNumber (u1 - (2:Int32))))))
theorem mok_M_closeBinary_f : mok_M_closeBinary = ok_M_closeBinary := by delta mok_M_closeBinary ok_M_closeBinary; first | (rw [m_M_digitsOf_f, m_M_width_f, mok_M_bitOf_f, mok_M_lay_f, mok_M_layNumber_f]; done) | (rw [m_M_digitsOf_f, m_M_width_f, mok_M_bitOf_f, mok_M_lay_f, mok_M_layNumber_f]; rfl)
noncomputable def m_M_closeBinary (x : Int32) (kd : Int32) (ex : Int32) (lh : Int64) (ll : Int64) (w : Nat → Int64) : Int64 × Int64 :=
  let u1 := ((sl m_M_digitsOf) x)
  let u2 := ((sl m_M_width) x)
  if kd = (0:Int32) then
    let u4 := ((sl m_M_bitOf) (u1 - (1:Int32)) w)
    if u4 = (1:Int32) then
      let u8 := ((sl m_M_least) x)
      let u9 := ((sl m_M_lay) ((ex - u8) + (1:Int32)) (u1 - (1:Int32)) (u2 - u1) lh ll)
      let u10 := ((sl m_M_layNumber) (0:Int32) (u1 - (1:Int32)) u9.1 u9.2 w)
      (u10.1, u10.2)
    else
      let u6 := ((sl m_M_lay) (0:Int32) (u1 - (1:Int32)) (u2 - u1) lh ll)
      let u7 := ((sl m_M_layNumber) (0:Int32) (u1 - (1:Int32)) u6.1 u6.2 w)
      (u7.1, u7.2)
  else
    let u11 := ((sl m_M_lay) (((1:Int32) <<< ((u2 - u1) &&& 31)) - (1:Int32)) (u1 - (1:Int32)) (u2 - u1) lh ll)
    if kd = (1:Int32) then
      (u11.1, u11.2)
    else
      if kd = (2:Int32) then
        let u16 := ((sl m_M_set) (u1 - (2:Int32)) (1:Int32) u11.1 u11.2)
        let u17 := ((sl m_M_layNumber) (0:Int32) (u1 - (2:Int32)) u16.1 u16.2 w)
        (u17.1, u17.2)
      else
        let u14 := ((sl m_M_set) (u1 - (2:Int32)) (0:Int32) u11.1 u11.2)
        let u15 := ((sl m_M_layNumber) (0:Int32) (u1 - (2:Int32)) u14.1 u14.2 w)
        (u15.1, u15.2)
theorem m_M_closeBinary_f : sl m_M_closeBinary = f_M_closeBinary := (sl_eq m_M_closeBinary).trans (by delta m_M_closeBinary f_M_closeBinary; first | (rw [m_M_digitsOf_f, m_M_width_f, m_M_bitOf_f, m_M_least_f, m_M_lay_f, m_M_layNumber_f, m_M_set_f]; done) | (rw [m_M_digitsOf_f, m_M_width_f, m_M_bitOf_f, m_M_least_f, m_M_lay_f, m_M_layNumber_f, m_M_set_f]; rfl))
noncomputable def mlf_M_layDigits : Nat → Int32 → (Nat → Int32) → Int32 → Int64 → Int64 → ((Nat → Int64)) → Int32 × Int64 × Int64 × (Nat → Int64)
  | 0, _, _, _, _, _, _ => default
  | n + 1, x, md, x2, y0_7, y0_8, y1_a =>
    let u6 := ((sl m_M_tail) x)
    if (u6 / (10:Int32)) ≤ x2 then
      ((Int64.toInt32 (y1_a 8)), y0_7, y0_8, y1_a)
    else
      let u8 := ((sl m_M_over2) y1_a)
      let u9 := ((sl m_M_lay) (md (Int32.toNatClampNeg u8.1)) ((10:Int32) * x2) (10:Int32) y0_7 y0_8)
      mlf_M_layDigits n x md (x2 + (1:Int32)) u9.1 u9.2 u8.2
theorem mlf_M_layDigits_f : mlf_M_layDigits = lf_M_layDigits := by delta mlf_M_layDigits lf_M_layDigits; delta mlf_M_layDigits._f lf_M_layDigits._f; first | (rw [m_M_tail_f, m_M_over2_f, m_M_lay_f]; done) | (rw [m_M_tail_f, m_M_over2_f, m_M_lay_f]; rfl)
def mlk_M_layDigits : Nat → Int32 → Int32 → (Nat → Int64) → Prop
  | 0, _, _, _ => False
  | n + 1, x, x2, y1_a => (∀ u6, u6 = ((sl m_M_tail) x) → (((u6 / (10:Int32)) ≤ x2 → True) ∧ (¬ (u6 / (10:Int32)) ≤ x2 → (∀ u8, u8 = ((sl m_M_over2) y1_a) → ((vp_in u8.1 1000) ∧ (mok_M_lay (10:Int32) ∧ mlk_M_layDigits n x (x2 + (1:Int32)) u8.2))))))
theorem mlk_M_layDigits_f : mlk_M_layDigits = lk_M_layDigits := by delta mlk_M_layDigits lk_M_layDigits; delta mlk_M_layDigits._f lk_M_layDigits._f; first | (rw [m_M_tail_f, m_M_over2_f, mok_M_lay_f]; done) | (rw [m_M_tail_f, m_M_over2_f, mok_M_lay_f]; rfl)
def mok_M_layDigits (x : Int32) (w : Nat → Int64) : Prop := mlk_M_layDigits 200 x (0:Int32) (vp_updL (vp_updL (vp_updL (vp_updL w 8 (w 0)) 9 (w 1)) 10 (w 2)) 11 (w 3))
theorem mok_M_layDigits_f : mok_M_layDigits = ok_M_layDigits := by delta mok_M_layDigits ok_M_layDigits; first | (rw [mlk_M_layDigits_f]; done) | (rw [mlk_M_layDigits_f]; rfl)
noncomputable def m_M_layDigits (x : Int32) (lh : Int64) (ll : Int64) (w : Nat → Int64) (md : Nat → Int32) : Int32 × Int64 × Int64 × (Nat → Int64) :=
  mlf_M_layDigits 200 x md (0:Int32) lh ll (vp_updL (vp_updL (vp_updL (vp_updL w 8 (w 0)) 9 (w 1)) 10 (w 2)) 11 (w 3))
theorem m_M_layDigits_f : sl m_M_layDigits = f_M_layDigits := (sl_eq m_M_layDigits).trans (by delta m_M_layDigits f_M_layDigits; first | (rw [mlf_M_layDigits_f]; done) | (rw [mlf_M_layDigits_f]; rfl))
def mok_M_closeDecimal (x : Int32) (w : Nat → Int64) : Prop := (∀ u1, u1 = ((sl m_M_width) x) → (∀ u2, u2 = ((sl m_M_tail) x) → (mok_M_lay (5:Int32) ∧ (((x ≤ (6:Int32) → (mok_M_bitOf (u2 + (3:Int32)) ∧ ((mok_M_lay (((u1 - (1:Int32)) - u2) - (3:Int32)) ∧ (mok_M_layNumber (u2 + (1:Int32)) ∧ mok_M_lay (2:Int32))) ∧ (mok_M_lay (((u1 - (1:Int32)) - u2) - (3:Int32)) ∧ mok_M_layNumber (u2 + (3:Int32)))))) ∧ (¬ x ≤ (6:Int32) → (mok_M_layDigits x w ∧ (mok_M_lay (((u1 - (1:Int32)) - u2) - (5:Int32)) ∧ mok_M_lay (5:Int32))))) ∧ (mok_M_lay (5:Int32) ∧ ((x ≤ (6:Int32) → mok_M_layNumber u2) ∧ (¬ x ≤ (6:Int32) → mok_M_layDigits x w)))))))
theorem mok_M_closeDecimal_f : mok_M_closeDecimal = ok_M_closeDecimal := by delta mok_M_closeDecimal ok_M_closeDecimal; first | (rw [m_M_width_f, m_M_tail_f, mok_M_lay_f, mok_M_bitOf_f, mok_M_layNumber_f, mok_M_layDigits_f]; done) | (rw [m_M_width_f, m_M_tail_f, mok_M_lay_f, mok_M_bitOf_f, mok_M_layNumber_f, mok_M_layDigits_f]; rfl)
noncomputable def m_M_closeDecimal (x : Int32) (kd : Int32) (ex : Int32) (lh : Int64) (ll : Int64) (w : Nat → Int64) (md : Nat → Int32) : Int64 × Int64 × (Nat → Int64) :=
  let u1 := ((sl m_M_width) x)
  let u2 := ((sl m_M_tail) x)
  if kd = (1:Int32) then
    let u35 := ((sl m_M_lay) (30:Int32) (u1 - (6:Int32)) (5:Int32) lh ll)
    (u35.1, u35.2, w)
  else
    if kd = (0:Int32) then
      let u5 := ((sl m_M_least) x)
      if x ≤ (6:Int32) then
        let u7 := ((sl m_M_bitOf) (u2 + (3:Int32)) w)
        if u7 = (1:Int32) then
          let u15 := ((sl m_M_lay) (ex - u5) (u2 + (1:Int32)) (((u1 - (1:Int32)) - u2) - (3:Int32)) lh ll)
          let u17 := ((sl m_M_layNumber) (0:Int32) (u2 + (1:Int32)) u15.1 u15.2 w)
          let u19 := ((sl m_M_lay) (3:Int32) (u1 - (3:Int32)) (2:Int32) u17.1 u17.2)
          (u19.1, u19.2, w)
        else
          let u10 := ((sl m_M_lay) (ex - u5) (u2 + (3:Int32)) (((u1 - (1:Int32)) - u2) - (3:Int32)) lh ll)
          let u12 := ((sl m_M_layNumber) (0:Int32) (u2 + (3:Int32)) u10.1 u10.2 w)
          (u12.1, u12.2, w)
      else
        let u20 := ((sl m_M_layDigits) x lh ll w md)
        let u21 := ((sl m_M_lay) (ex - u5) u2 (((u1 - (1:Int32)) - u2) - (5:Int32)) u20.2.1 u20.2.2.1)
        if (8:Int32) ≤ u20.1 then
          let u23 := ((sl m_M_lay) (((24:Int32) + ((2:Int32) * ((ex - u5) >>> ((((u1 - (1:Int32)) - u2) - (5:Int32)) &&& 31)))) + (u20.1 - u20.1 / (2:Int32) * (2:Int32))) (u1 - (6:Int32)) (5:Int32) u21.1 u21.2)
          (u23.1, u23.2, u20.2.2.2)
        else
          let u24 := ((sl m_M_lay) (((8:Int32) * ((ex - u5) >>> ((((u1 - (1:Int32)) - u2) - (5:Int32)) &&& 31))) + u20.1) (u1 - (6:Int32)) (5:Int32) u21.1 u21.2)
          (u24.1, u24.2, u20.2.2.2)
    else
      let u25 := ((sl m_M_lay) (31:Int32) (u1 - (6:Int32)) (5:Int32) lh ll)
      if kd = (3:Int32) then
        let u31 := ((sl m_M_set) (u1 - (7:Int32)) (1:Int32) u25.1 u25.2)
        if x ≤ (6:Int32) then
          let u33 := ((sl m_M_layNumber) (0:Int32) u2 u31.1 u31.2 w)
          (u33.1, u33.2, w)
        else
          let u34 := ((sl m_M_layDigits) x u31.1 u31.2 w md)
          (u34.2.1, u34.2.2.1, u34.2.2.2)
      else
        let u27 := ((sl m_M_set) (u1 - (7:Int32)) (0:Int32) u25.1 u25.2)
        if x ≤ (6:Int32) then
          let u29 := ((sl m_M_layNumber) (0:Int32) u2 u27.1 u27.2 w)
          (u29.1, u29.2, w)
        else
          let u30 := ((sl m_M_layDigits) x u27.1 u27.2 w md)
          (u30.2.1, u30.2.2.1, u30.2.2.2)
theorem m_M_closeDecimal_f : sl m_M_closeDecimal = f_M_closeDecimal := (sl_eq m_M_closeDecimal).trans (by delta m_M_closeDecimal f_M_closeDecimal; first | (rw [m_M_width_f, m_M_tail_f, m_M_lay_f, m_M_least_f, m_M_bitOf_f, m_M_layNumber_f, m_M_layDigits_f, m_M_set_f]; done) | (rw [m_M_width_f, m_M_tail_f, m_M_lay_f, m_M_least_f, m_M_bitOf_f, m_M_layNumber_f, m_M_layDigits_f, m_M_set_f]; rfl))
def mok_M_close (x : Int32) (w : Nat → Int64) : Prop := (((4:Int32) ≤ x → mok_M_closeDecimal x w) ∧ (¬ (4:Int32) ≤ x → mok_M_closeBinary x))
theorem mok_M_close_f : mok_M_close = ok_M_close := by delta mok_M_close ok_M_close; first | (rw [mok_M_closeDecimal_f, mok_M_closeBinary_f]; done) | (rw [mok_M_closeDecimal_f, mok_M_closeBinary_f]; rfl)
noncomputable def m_M_close (x : Int32) (kd : Int32) (sg : Int32) (ex : Int32) (w : Nat → Int64) (md : Nat → Int32) : Int64 × Int64 × (Nat → Int64) :=
  let u1 := ((sl m_M_width) x)
  let u2 := ((sl m_M_set) (u1 - (1:Int32)) sg (0:Int64) (0:Int64))
  if (4:Int32) ≤ x then
    let u4 := ((sl m_M_closeDecimal) x kd ex u2.1 u2.2 w md)
    (u4.1, u4.2.1, u4.2.2)
  else
    let u5 := ((sl m_M_closeBinary) x kd ex u2.1 u2.2 w)
    (u5.1, u5.2, w)
theorem m_M_close_f : sl m_M_close = f_M_close := (sl_eq m_M_close).trans (by delta m_M_close f_M_close; first | (rw [m_M_width_f, m_M_set_f, m_M_closeDecimal_f, m_M_closeBinary_f]; done) | (rw [m_M_width_f, m_M_set_f, m_M_closeDecimal_f, m_M_closeBinary_f]; rfl))
noncomputable def m_M_asks (x : Int32) : Bool × Int32 :=
  let u1 := ((sl m_M_isFormat) x)
  if (bI u1) = (0:Int32) then
    (false, (1:Int32))
  else
    (true, (0:Int32))
theorem m_M_asks_f : sl m_M_asks = f_M_asks := (sl_eq m_M_asks).trans (by delta m_M_asks f_M_asks; first | (rw [m_M_isFormat_f]; done) | (rw [m_M_isFormat_f]; rfl))
def mok_M_unpack (x : Int32) (y : Int64) (z : Int64) : Prop := (∀ u1, u1 = ((sl m_M_asks) x) → (((bI u1.1) = (0:Int32) → True) ∧ (¬ (bI u1.1) = (0:Int32) → mok_M_open x y z)))
theorem mok_M_unpack_f : mok_M_unpack = ok_M_unpack := by delta mok_M_unpack ok_M_unpack; first | (rw [m_M_asks_f, mok_M_open_f]; done) | (rw [m_M_asks_f, mok_M_open_f]; rfl)
noncomputable def m_M_unpack (x : Int32) (y : Int64) (z : Int64) (kd : Int32) (sg : Int32) (ex : Int32) (lh : Int64) (ll : Int64) (w : Nat → Int64) (sp : Nat → Int32) : Int32 × Int32 × Int32 × Int32 × Int32 × Int64 × Int64 × (Nat → Int64) :=
  let u1 := ((sl m_M_asks) x)
  if (bI u1.1) = (0:Int32) then
    ((0:Int32), u1.2, kd, sg, ex, lh, ll, w)
  else
    let u3 := ((sl m_M_open) x y z w sp)
    (u3.1, u1.2, u3.1, u3.2.1, u3.2.2.1, u3.2.2.2.1, u3.2.2.2.2.1, u3.2.2.2.2.2)
theorem m_M_unpack_f : sl m_M_unpack = f_M_unpack := (sl_eq m_M_unpack).trans (by delta m_M_unpack f_M_unpack; first | (rw [m_M_asks_f, m_M_open_f]; done) | (rw [m_M_asks_f, m_M_open_f]; rfl))
def mok_M_canonical (x : Int32) (y : Int64) (z : Int64) (w : Nat → Int64) (sp : Nat → Int32) : Prop := (∀ u1, u1 = ((sl m_M_asks) x) → (((bI u1.1) = (0:Int32) → True) ∧ (¬ (bI u1.1) = (0:Int32) → (∀ u3, u3 = ((sl m_M_mask) x y z) → (mok_M_open x u3.1 u3.2 ∧ (∀ u4, u4 = ((sl m_M_open) x u3.1 u3.2 w sp) → mok_M_close x u4.2.2.2.2.2))))))
theorem mok_M_canonical_f : mok_M_canonical = ok_M_canonical := by delta mok_M_canonical ok_M_canonical; first | (rw [m_M_asks_f, m_M_mask_f, mok_M_open_f, m_M_open_f, mok_M_close_f]; done) | (rw [m_M_asks_f, m_M_mask_f, mok_M_open_f, m_M_open_f, mok_M_close_f]; rfl)
noncomputable def m_M_canonical (x : Int32) (y : Int64) (z : Int64) (lh : Int64) (ll : Int64) (w : Nat → Int64) (sp : Nat → Int32) (md : Nat → Int32) : Bool × Int32 × Int64 × Int64 × (Nat → Int64) :=
  let u1 := ((sl m_M_asks) x)
  if (bI u1.1) = (0:Int32) then
    (false, u1.2, lh, ll, w)
  else
    let u3 := ((sl m_M_mask) x y z)
    let u4 := ((sl m_M_open) x u3.1 u3.2 w sp)
    let u5 := ((sl m_M_close) x u4.1 u4.2.1 u4.2.2.1 u4.2.2.2.2.2 md)
    if (lg_cmp u5.1 u3.1) = (0:Int32) then
      if (lg_cmp u5.2.1 u3.2) = (0:Int32) then
        (true, u1.2, u5.1, u5.2.1, (vp_updL (vp_updL (vp_updL (vp_updL u5.2.2 0 (w 0)) 1 (w 1)) 2 (w 2)) 3 (w 3)))
      else
        (false, u1.2, u5.1, u5.2.1, (vp_updL (vp_updL (vp_updL (vp_updL u5.2.2 0 (w 0)) 1 (w 1)) 2 (w 2)) 3 (w 3)))
    else
      (false, u1.2, u5.1, u5.2.1, (vp_updL (vp_updL (vp_updL (vp_updL u5.2.2 0 (w 0)) 1 (w 1)) 2 (w 2)) 3 (w 3)))
theorem m_M_canonical_f : sl m_M_canonical = f_M_canonical := (sl_eq m_M_canonical).trans (by delta m_M_canonical f_M_canonical; first | (rw [m_M_asks_f, m_M_mask_f, m_M_open_f, m_M_close_f]; done) | (rw [m_M_asks_f, m_M_mask_f, m_M_open_f, m_M_close_f]; rfl))
noncomputable def m_M_put (x : Int32) (y : Bool) (z : Int32) (v : Int64) (t : Int64) (kd : Int32) (sg : Int32) (ex : Int32) (w : Nat → Int64) : Bool × Int32 × Int32 × Int32 × Int32 × (Nat → Int64) :=
  if x < (0:Int32) then
    (false, (0:Int32), kd, sg, ex, w)
  else
    if x ≤ (3:Int32) then
      if (bI y) = (0:Int32) then
        if x = (0:Int32) then
          if x = (1:Int32) then
            let u19 := ((sl m_M_be0) (0:Int64) w)
            if x = (1:Int32) then
              if x = (1:Int32) then
                (true, (0:Int32), x, (0:Int32), z, (vp_updL (vp_updL u19 2 (0:Int64)) 3 (0:Int64)))
              else
                (true, (0:Int32), x, (0:Int32), z, (vp_updL (vp_updL u19 2 (0:Int64)) 3 (lushr_ v (32:Int32))))
            else
              if x = (1:Int32) then
                (true, (0:Int32), x, (0:Int32), z, (vp_updL (vp_updL u19 2 (v &&& (4294967295:Int64))) 3 (0:Int64)))
              else
                (true, (0:Int32), x, (0:Int32), z, (vp_updL (vp_updL u19 2 (v &&& (4294967295:Int64))) 3 (lushr_ v (32:Int32))))
          else
            let u15 := ((sl m_M_be0) t w)
            if x = (1:Int32) then
              if x = (1:Int32) then
                (true, (0:Int32), x, (0:Int32), z, (vp_updL (vp_updL u15 2 (0:Int64)) 3 (0:Int64)))
              else
                (true, (0:Int32), x, (0:Int32), z, (vp_updL (vp_updL u15 2 (0:Int64)) 3 (lushr_ v (32:Int32))))
            else
              if x = (1:Int32) then
                (true, (0:Int32), x, (0:Int32), z, (vp_updL (vp_updL u15 2 (v &&& (4294967295:Int64))) 3 (0:Int64)))
              else
                (true, (0:Int32), x, (0:Int32), z, (vp_updL (vp_updL u15 2 (v &&& (4294967295:Int64))) 3 (lushr_ v (32:Int32))))
        else
          if x = (1:Int32) then
            let u10 := ((sl m_M_be0) (0:Int64) w)
            if x = (1:Int32) then
              if x = (1:Int32) then
                (true, (0:Int32), x, (0:Int32), (0:Int32), (vp_updL (vp_updL u10 2 (0:Int64)) 3 (0:Int64)))
              else
                (true, (0:Int32), x, (0:Int32), (0:Int32), (vp_updL (vp_updL u10 2 (0:Int64)) 3 (lushr_ v (32:Int32))))
            else
              if x = (1:Int32) then
                (true, (0:Int32), x, (0:Int32), (0:Int32), (vp_updL (vp_updL u10 2 (v &&& (4294967295:Int64))) 3 (0:Int64)))
              else
                (true, (0:Int32), x, (0:Int32), (0:Int32), (vp_updL (vp_updL u10 2 (v &&& (4294967295:Int64))) 3 (lushr_ v (32:Int32))))
          else
            let u6 := ((sl m_M_be0) t w)
            if x = (1:Int32) then
              if x = (1:Int32) then
                (true, (0:Int32), x, (0:Int32), (0:Int32), (vp_updL (vp_updL u6 2 (0:Int64)) 3 (0:Int64)))
              else
                (true, (0:Int32), x, (0:Int32), (0:Int32), (vp_updL (vp_updL u6 2 (0:Int64)) 3 (lushr_ v (32:Int32))))
            else
              if x = (1:Int32) then
                (true, (0:Int32), x, (0:Int32), (0:Int32), (vp_updL (vp_updL u6 2 (v &&& (4294967295:Int64))) 3 (0:Int64)))
              else
                (true, (0:Int32), x, (0:Int32), (0:Int32), (vp_updL (vp_updL u6 2 (v &&& (4294967295:Int64))) 3 (lushr_ v (32:Int32))))
      else
        if x = (0:Int32) then
          if x = (1:Int32) then
            let u38 := ((sl m_M_be0) (0:Int64) w)
            if x = (1:Int32) then
              if x = (1:Int32) then
                (true, (0:Int32), x, (1:Int32), z, (vp_updL (vp_updL u38 2 (0:Int64)) 3 (0:Int64)))
              else
                (true, (0:Int32), x, (1:Int32), z, (vp_updL (vp_updL u38 2 (0:Int64)) 3 (lushr_ v (32:Int32))))
            else
              if x = (1:Int32) then
                (true, (0:Int32), x, (1:Int32), z, (vp_updL (vp_updL u38 2 (v &&& (4294967295:Int64))) 3 (0:Int64)))
              else
                (true, (0:Int32), x, (1:Int32), z, (vp_updL (vp_updL u38 2 (v &&& (4294967295:Int64))) 3 (lushr_ v (32:Int32))))
          else
            let u34 := ((sl m_M_be0) t w)
            if x = (1:Int32) then
              if x = (1:Int32) then
                (true, (0:Int32), x, (1:Int32), z, (vp_updL (vp_updL u34 2 (0:Int64)) 3 (0:Int64)))
              else
                (true, (0:Int32), x, (1:Int32), z, (vp_updL (vp_updL u34 2 (0:Int64)) 3 (lushr_ v (32:Int32))))
            else
              if x = (1:Int32) then
                (true, (0:Int32), x, (1:Int32), z, (vp_updL (vp_updL u34 2 (v &&& (4294967295:Int64))) 3 (0:Int64)))
              else
                (true, (0:Int32), x, (1:Int32), z, (vp_updL (vp_updL u34 2 (v &&& (4294967295:Int64))) 3 (lushr_ v (32:Int32))))
        else
          if x = (1:Int32) then
            let u29 := ((sl m_M_be0) (0:Int64) w)
            if x = (1:Int32) then
              if x = (1:Int32) then
                (true, (0:Int32), x, (1:Int32), (0:Int32), (vp_updL (vp_updL u29 2 (0:Int64)) 3 (0:Int64)))
              else
                (true, (0:Int32), x, (1:Int32), (0:Int32), (vp_updL (vp_updL u29 2 (0:Int64)) 3 (lushr_ v (32:Int32))))
            else
              if x = (1:Int32) then
                (true, (0:Int32), x, (1:Int32), (0:Int32), (vp_updL (vp_updL u29 2 (v &&& (4294967295:Int64))) 3 (0:Int64)))
              else
                (true, (0:Int32), x, (1:Int32), (0:Int32), (vp_updL (vp_updL u29 2 (v &&& (4294967295:Int64))) 3 (lushr_ v (32:Int32))))
          else
            let u25 := ((sl m_M_be0) t w)
            if x = (1:Int32) then
              if x = (1:Int32) then
                (true, (0:Int32), x, (1:Int32), (0:Int32), (vp_updL (vp_updL u25 2 (0:Int64)) 3 (0:Int64)))
              else
                (true, (0:Int32), x, (1:Int32), (0:Int32), (vp_updL (vp_updL u25 2 (0:Int64)) 3 (lushr_ v (32:Int32))))
            else
              if x = (1:Int32) then
                (true, (0:Int32), x, (1:Int32), (0:Int32), (vp_updL (vp_updL u25 2 (v &&& (4294967295:Int64))) 3 (0:Int64)))
              else
                (true, (0:Int32), x, (1:Int32), (0:Int32), (vp_updL (vp_updL u25 2 (v &&& (4294967295:Int64))) 3 (lushr_ v (32:Int32))))
    else
      (false, (0:Int32), kd, sg, ex, w)
theorem m_M_put_f : sl m_M_put = f_M_put := (sl_eq m_M_put).trans (by delta m_M_put f_M_put; first | (rw [m_M_be0_f]; done) | (rw [m_M_be0_f]; rfl))
def mok_M_pack (x : Int32) (kd : Int32) (ex : Int32) (w : Nat → Int64) : Prop := (∀ u1, u1 = ((sl m_M_asks) x) → (((bI u1.1) = (0:Int32) → True) ∧ (¬ (bI u1.1) = (0:Int32) → (mok_M_fits x ∧ (∀ u3, u3 = ((sl m_M_fits) x kd ex w) → (((bI u3.1) = (0:Int32) → True) ∧ (¬ (bI u3.1) = (0:Int32) → mok_M_close x u3.2)))))))
theorem mok_M_pack_f : mok_M_pack = ok_M_pack := by delta mok_M_pack ok_M_pack; first | (rw [m_M_asks_f, mok_M_fits_f, m_M_fits_f, mok_M_close_f]; done) | (rw [m_M_asks_f, mok_M_fits_f, m_M_fits_f, mok_M_close_f]; rfl)
noncomputable def m_M_pack (x : Int32) (kd : Int32) (sg : Int32) (ex : Int32) (hi : Int64) (lo : Int64) (lh : Int64) (ll : Int64) (w : Nat → Int64) (md : Nat → Int32) : Bool × Int32 × Int64 × Int64 × Int64 × Int64 × (Nat → Int64) :=
  let u1 := ((sl m_M_asks) x)
  if (bI u1.1) = (0:Int32) then
    (false, u1.2, hi, lo, lh, ll, w)
  else
    let u3 := ((sl m_M_fits) x kd ex w)
    if (bI u3.1) = (0:Int32) then
      (false, u1.2, hi, lo, lh, ll, u3.2)
    else
      let u5 := ((sl m_M_close) x kd sg ex u3.2 md)
      (true, u1.2, u5.1, u5.2.1, u5.1, u5.2.1, u5.2.2)
theorem m_M_pack_f : sl m_M_pack = f_M_pack := (sl_eq m_M_pack).trans (by delta m_M_pack f_M_pack; first | (rw [m_M_asks_f, m_M_fits_f, m_M_close_f]; done) | (rw [m_M_asks_f, m_M_fits_f, m_M_close_f]; rfl))
noncomputable def m_M_pattern (x : Bool) (hi : Int64) (lo : Int64) : Int64 × Int32 :=
  if (bI x) = (0:Int32) then
    (lo, (0:Int32))
  else
    (hi, (0:Int32))
theorem m_M_pattern_f : sl m_M_pattern = f_M_pattern := (sl_eq m_M_pattern).trans (by delta m_M_pattern f_M_pattern; rfl)
noncomputable def m_M_look (x : Int32) (kd : Int32) (sg : Int32) (ex : Int32) : Int32 × Int32 :=
  if x = (0:Int32) then
    (kd, (0:Int32))
  else
    if x = (1:Int32) then
      (sg, (0:Int32))
    else
      if x = (2:Int32) then
        (ex, (0:Int32))
      else
        ((-1:Int32), (0:Int32))
theorem m_M_look_f : sl m_M_look = f_M_look := (sl_eq m_M_look).trans (by delta m_M_look f_M_look; rfl)
noncomputable def m_M_part (x : Bool) (w : Nat → Int64) : Int64 × Int32 :=
  if (bI x) = (0:Int32) then
    (((lshl_ (w 1) (32:Int32)) ||| (w 0)), (0:Int32))
  else
    (((lshl_ (w 3) (32:Int32)) ||| (w 2)), (0:Int32))
theorem m_M_part_f : sl m_M_part = f_M_part := (sl_eq m_M_part).trans (by delta m_M_part f_M_part; rfl)
def mok_M_digits (x : Int32) : Prop := ((x < (0:Int32) → True) ∧ (¬ x < (0:Int32) → ((x ≤ (1023:Int32) → (vp_in x 1024)) ∧ (¬ x ≤ (1023:Int32) → True))))
theorem mok_M_digits_f : mok_M_digits = ok_M_digits := by delta mok_M_digits ok_M_digits; rfl
noncomputable def m_M_digits (x : Int32) (sp : Nat → Int32) : Int32 × Int32 :=
  if x < (0:Int32) then
    ((-1:Int32), (0:Int32))
  else
    if x ≤ (1023:Int32) then
      ((sp (Int32.toNatClampNeg x)), (0:Int32))
    else
      ((-1:Int32), (0:Int32))
theorem m_M_digits_f : sl m_M_digits = f_M_digits := (sl_eq m_M_digits).trans (by delta m_M_digits f_M_digits; rfl)
def mok_M_declet (x : Int32) : Prop := ((x < (0:Int32) → True) ∧ (¬ x < (0:Int32) → ((x ≤ (999:Int32) → (vp_in x 1000)) ∧ (¬ x ≤ (999:Int32) → True))))
theorem mok_M_declet_f : mok_M_declet = ok_M_declet := by delta mok_M_declet ok_M_declet; rfl
noncomputable def m_M_declet (x : Int32) (md : Nat → Int32) : Int32 × Int32 :=
  if x < (0:Int32) then
    ((-1:Int32), (0:Int32))
  else
    if x ≤ (999:Int32) then
      ((md (Int32.toNatClampNeg x)), (0:Int32))
    else
      ((-1:Int32), (0:Int32))
theorem m_M_declet_f : sl m_M_declet = f_M_declet := (sl_eq m_M_declet).trans (by delta m_M_declet f_M_declet; rfl)
noncomputable def m_K_put (x : Int32) (y : Bool) (z : Int32) (v : Int64) (t : Int64) (kd : Int32) (ng : Bool) (ex : Int32) (bh : Int64) (bl : Int64) : Bool × Int32 × Bool × Int32 × Int64 × Int64 :=
  if x < (0:Int32) then
    (false, kd, ng, ex, bh, bl)
  else
    if x ≤ (3:Int32) then
      let u3 := ((sl m_W_set) v t)
      let u4 := ((sl m_D_become) x z u3.1 u3.2)
      (true, u4.1, y, u4.2.1, u4.2.2.1, u4.2.2.2)
    else
      (false, kd, ng, ex, bh, bl)
theorem m_K_put_f : sl m_K_put = f_K_put := (sl_eq m_K_put).trans (by delta m_K_put f_K_put; first | (rw [m_W_set_f, m_D_become_f]; done) | (rw [m_W_set_f, m_D_become_f]; rfl))
noncomputable def m_K_pattern (x : Bool) (mkh : Int64) (mkl : Int64) : Int64 :=
  let u1 := ((sl m_W_half) x mkh mkl)
  u1
theorem m_K_pattern_f : sl m_K_pattern = f_K_pattern := (sl_eq m_K_pattern).trans (by delta m_K_pattern f_K_pattern; first | (rw [m_W_half_f]; done) | (rw [m_W_half_f]; rfl))
noncomputable def m_K_look (x : Int32) (kd : Int32) (ng : Bool) (ex : Int32) : Int32 :=
  if x = (0:Int32) then
    kd
  else
    if x = (1:Int32) then
      if (bI ng) = (0:Int32) then
        (0:Int32)
      else
        (1:Int32)
    else
      if x = (2:Int32) then
        ex
      else
        (-1:Int32)
theorem m_K_look_f : sl m_K_look = f_K_look := (sl_eq m_K_look).trans (by delta m_K_look f_K_look; rfl)
noncomputable def m_K_part (x : Bool) (bh : Int64) (bl : Int64) : Int64 :=
  let u1 := ((sl m_W_half) x bh bl)
  u1
theorem m_K_part_f : sl m_K_part = f_K_part := (sl_eq m_K_part).trans (by delta m_K_part f_K_part; first | (rw [m_W_half_f]; done) | (rw [m_W_half_f]; rfl))
noncomputable def m_K_digits (x : Int32) : Int32 :=
  if x < (0:Int32) then
    (-1:Int32)
  else
    if x ≤ (1023:Int32) then
      let u3 := ((sl m_E_read) x)
      u3
    else
      (-1:Int32)
theorem m_K_digits_f : sl m_K_digits = f_K_digits := (sl_eq m_K_digits).trans (by delta m_K_digits f_K_digits; first | (rw [m_E_read_f]; done) | (rw [m_E_read_f]; rfl))
noncomputable def m_K_declet (x : Int32) : Int32 :=
  if x < (0:Int32) then
    (-1:Int32)
  else
    if x ≤ (999:Int32) then
      let u3 := ((sl m_E_write) x)
      u3
    else
      (-1:Int32)
theorem m_K_declet_f : sl m_K_declet = f_K_declet := (sl_eq m_K_declet).trans (by delta m_K_declet f_K_declet; first | (rw [m_E_write_f]; done) | (rw [m_E_write_f]; rfl))
noncomputable def m_K_B_unpack (x : Int64) (y : Int64) (fb : Int32) (fl : Int32) (ft : Int32) (ff : Int32) (fu : Int64) : Int32 × Int64 × Int64 × Int32 × Bool × Int32 × Int64 × Int64 :=
  let u2 := ((sl m_B_cut) x y fb)
  let u3 := ((sl m_B_read) fb fl ft ff fu u2.1 u2.2)
  (u3.1, u2.1, u2.2, u3.1, u3.2.1, u3.2.2.1, u3.2.2.2.1, u3.2.2.2.2)
theorem m_K_B_unpack_f : sl m_K_B_unpack = f_K_B_unpack := (sl_eq m_K_B_unpack).trans (by delta m_K_B_unpack f_K_B_unpack; first | (rw [m_B_cut_f, m_B_read_f]; done) | (rw [m_B_cut_f, m_B_read_f]; rfl))
noncomputable def m_K_B_pack (fb : Int32) (fp : Int32) (fl : Int32) (fg : Int32) (ft : Int32) (fu : Int64) (mkh : Int64) (mkl : Int64) (kd : Int32) (ng : Bool) (ex : Int32) (bh : Int64) (bl : Int64) : Bool × Int64 × Int64 :=
  let u2 := ((sl m_B_write) fb fp fl fg ft fu kd ng ex bh bl mkh mkl)
  (u2.1, u2.2.1, u2.2.2)
theorem m_K_B_pack_f : sl m_K_B_pack = f_K_B_pack := (sl_eq m_K_B_pack).trans (by delta m_K_B_pack f_K_B_pack; first | (rw [m_B_write_f]; done) | (rw [m_B_write_f]; rfl))
noncomputable def m_K_B_canonical (x : Int64) (y : Int64) (fb : Int32) (fp : Int32) (fl : Int32) (fg : Int32) (ft : Int32) (ff : Int32) (fu : Int64) (tph : Int64) (tpl : Int64) : Bool × Int64 × Int64 × Int32 × Bool × Int32 × Int64 × Int64 × Int64 × Int64 :=
  let u2 := ((sl m_B_cut) x y fb)
  let u3 := ((sl m_B_read) fb fl ft ff fu u2.1 u2.2)
  let u4 := ((sl m_B_write) fb fp fl fg ft fu u3.1 u3.2.1 u3.2.2.1 u3.2.2.2.1 u3.2.2.2.2 tph tpl)
  if (bI u4.1) = (0:Int32) then
    (false, u2.1, u2.2, u3.1, u3.2.1, u3.2.2.1, u3.2.2.2.1, u3.2.2.2.2, u4.2.1, u4.2.2)
  else
    let u6 := ((sl m_W_isSame) u4.2.1 u4.2.2 u2.1 u2.2)
    if (bI u6) = (0:Int32) then
      (false, u2.1, u2.2, u3.1, u3.2.1, u3.2.2.1, u3.2.2.2.1, u3.2.2.2.2, u4.2.1, u4.2.2)
    else
      (true, u2.1, u2.2, u3.1, u3.2.1, u3.2.2.1, u3.2.2.2.1, u3.2.2.2.2, u4.2.1, u4.2.2)
theorem m_K_B_canonical_f : sl m_K_B_canonical = f_K_B_canonical := (sl_eq m_K_B_canonical).trans (by delta m_K_B_canonical f_K_B_canonical; first | (rw [m_B_cut_f, m_B_read_f, m_B_write_f, m_W_isSame_f]; done) | (rw [m_B_cut_f, m_B_read_f, m_B_write_f, m_W_isSame_f]; rfl))
noncomputable def m_K_P_unpack (x : Int64) (y : Int64) (fb : Int32) (fl : Int32) (ft : Int32) (fh : Int32) (mnh : Int64) (mnl : Int64) (mph : Int64) (mpl : Int64) (bh : Int64) (bl : Int64) : Int32 × Int64 × Int64 × Int32 × Bool × Int32 × Int64 × Int64 :=
  let u2 := ((sl m_P_cut) x y fb)
  let u3 := ((sl m_P_read) fb fl ft fh mnh mnl mph mpl u2.1 u2.2 bh bl)
  (u3.1, u2.1, u2.2, u3.1, u3.2.1, u3.2.2.1, u3.2.2.2.1, u3.2.2.2.2)
theorem m_K_P_unpack_f : sl m_K_P_unpack = f_K_P_unpack := (sl_eq m_K_P_unpack).trans (by delta m_K_P_unpack f_K_P_unpack; first | (rw [m_P_cut_f, m_P_read_f]; done) | (rw [m_P_cut_f, m_P_read_f]; rfl))
noncomputable def m_K_P_pack (fb : Int32) (fl : Int32) (fg : Int32) (ft : Int32) (fh : Int32) (mnh : Int64) (mnl : Int64) (mph : Int64) (mpl : Int64) (mkh : Int64) (mkl : Int64) (kd : Int32) (ng : Bool) (ex : Int32) (bh : Int64) (bl : Int64) : Bool × Int64 × Int64 :=
  let u2 := ((sl m_P_write) fb fl fg ft fh mnh mnl mph mpl kd ng ex bh bl mkh mkl)
  (u2.1, u2.2.1, u2.2.2)
theorem m_K_P_pack_f : sl m_K_P_pack = f_K_P_pack := (sl_eq m_K_P_pack).trans (by delta m_K_P_pack f_K_P_pack; first | (rw [m_P_write_f]; done) | (rw [m_P_write_f]; rfl))
noncomputable def m_K_P_canonical (x : Int64) (y : Int64) (fb : Int32) (fl : Int32) (fg : Int32) (ft : Int32) (fh : Int32) (mnh : Int64) (mnl : Int64) (mph : Int64) (mpl : Int64) (tbh : Int64) (tbl : Int64) (tph : Int64) (tpl : Int64) : Bool × Int64 × Int64 × Int32 × Bool × Int32 × Int64 × Int64 × Int64 × Int64 :=
  let u2 := ((sl m_P_cut) x y fb)
  let u3 := ((sl m_P_read) fb fl ft fh mnh mnl mph mpl u2.1 u2.2 tbh tbl)
  let u4 := ((sl m_P_write) fb fl fg ft fh mnh mnl mph mpl u3.1 u3.2.1 u3.2.2.1 u3.2.2.2.1 u3.2.2.2.2 tph tpl)
  if (bI u4.1) = (0:Int32) then
    (false, u2.1, u2.2, u3.1, u3.2.1, u3.2.2.1, u3.2.2.2.1, u3.2.2.2.2, u4.2.1, u4.2.2)
  else
    let u6 := ((sl m_W_isSame) u4.2.1 u4.2.2 u2.1 u2.2)
    if (bI u6) = (0:Int32) then
      (false, u2.1, u2.2, u3.1, u3.2.1, u3.2.2.1, u3.2.2.2.1, u3.2.2.2.2, u4.2.1, u4.2.2)
    else
      (true, u2.1, u2.2, u3.1, u3.2.1, u3.2.2.1, u3.2.2.2.1, u3.2.2.2.2, u4.2.1, u4.2.2)
theorem m_K_P_canonical_f : sl m_K_P_canonical = f_K_P_canonical := (sl_eq m_K_P_canonical).trans (by delta m_K_P_canonical f_K_P_canonical; first | (rw [m_P_cut_f, m_P_read_f, m_P_write_f, m_W_isSame_f]; done) | (rw [m_P_cut_f, m_P_read_f, m_P_write_f, m_W_isSame_f]; rfl))
def mok_K_T_unpack (fd : Int32) : Prop := mok_T_read fd
theorem mok_K_T_unpack_f : mok_K_T_unpack = ok_K_T_unpack := by delta mok_K_T_unpack ok_K_T_unpack; first | (rw [mok_T_read_f]; done) | (rw [mok_T_read_f]; rfl)
noncomputable def m_K_T_unpack (x : Int64) (y : Int64) (fb : Int32) (fl : Int32) (fd : Int32) (ft : Int32) (fh : Int32) (fr : Int32) (bh : Int64) (bl : Int64) : Int32 × Int64 × Int64 × Int32 × Bool × Int32 × Int64 × Int64 :=
  let u2 := ((sl m_T_cut) x y fb)
  let u3 := ((sl m_T_read) fb fl fd ft fh fr u2.1 u2.2 bh bl)
  (u3.1, u2.1, u2.2, u3.1, u3.2.1, u3.2.2.1, u3.2.2.2.1, u3.2.2.2.2)
theorem m_K_T_unpack_f : sl m_K_T_unpack = f_K_T_unpack := (sl_eq m_K_T_unpack).trans (by delta m_K_T_unpack f_K_T_unpack; first | (rw [m_T_cut_f, m_T_read_f]; done) | (rw [m_T_cut_f, m_T_read_f]; rfl))
def mok_K_T_pack (fd : Int32) : Prop := mok_T_write fd
theorem mok_K_T_pack_f : mok_K_T_pack = ok_K_T_pack := by delta mok_K_T_pack ok_K_T_pack; first | (rw [mok_T_write_f]; done) | (rw [mok_T_write_f]; rfl)
noncomputable def m_K_T_pack (fb : Int32) (fl : Int32) (fg : Int32) (fd : Int32) (ft : Int32) (fh : Int32) (fr : Int32) (mnh : Int64) (mnl : Int64) (mph : Int64) (mpl : Int64) (lfh : Int64) (lfl : Int64) (mkh : Int64) (mkl : Int64) (kd : Int32) (ng : Bool) (ex : Int32) (bh : Int64) (bl : Int64) : Bool × Int64 × Int64 × Int64 × Int64 :=
  let u2 := ((sl m_T_write) fb fl fg fd ft fh fr mnh mnl mph mpl lfh lfl kd ng ex bh bl mkh mkl)
  (u2.1, u2.2.1, u2.2.2.1, u2.2.2.2.1, u2.2.2.2.2)
theorem m_K_T_pack_f : sl m_K_T_pack = f_K_T_pack := (sl_eq m_K_T_pack).trans (by delta m_K_T_pack f_K_T_pack; first | (rw [m_T_write_f]; done) | (rw [m_T_write_f]; rfl))
def mok_K_T_canonical (fd : Int32) : Prop := (mok_T_read fd ∧ mok_T_write fd)
theorem mok_K_T_canonical_f : mok_K_T_canonical = ok_K_T_canonical := by delta mok_K_T_canonical ok_K_T_canonical; first | (rw [mok_T_read_f, mok_T_write_f]; done) | (rw [mok_T_read_f, mok_T_write_f]; rfl)
noncomputable def m_K_T_canonical (x : Int64) (y : Int64) (fb : Int32) (fl : Int32) (fg : Int32) (fd : Int32) (ft : Int32) (fh : Int32) (fr : Int32) (mnh : Int64) (mnl : Int64) (mph : Int64) (mpl : Int64) (lfh : Int64) (lfl : Int64) (tbh : Int64) (tbl : Int64) (tph : Int64) (tpl : Int64) : Bool × Int64 × Int64 × Int64 × Int64 × Int32 × Bool × Int32 × Int64 × Int64 × Int64 × Int64 :=
  let u2 := ((sl m_T_cut) x y fb)
  let u3 := ((sl m_T_read) fb fl fd ft fh fr u2.1 u2.2 tbh tbl)
  let u4 := ((sl m_T_write) fb fl fg fd ft fh fr mnh mnl mph mpl lfh lfl u3.1 u3.2.1 u3.2.2.1 u3.2.2.2.1 u3.2.2.2.2 tph tpl)
  if (bI u4.1) = (0:Int32) then
    (false, u4.2.1, u4.2.2.1, u2.1, u2.2, u3.1, u3.2.1, u3.2.2.1, u3.2.2.2.1, u3.2.2.2.2, u4.2.2.2.1, u4.2.2.2.2)
  else
    let u6 := ((sl m_W_isSame) u4.2.2.2.1 u4.2.2.2.2 u2.1 u2.2)
    if (bI u6) = (0:Int32) then
      (false, u4.2.1, u4.2.2.1, u2.1, u2.2, u3.1, u3.2.1, u3.2.2.1, u3.2.2.2.1, u3.2.2.2.2, u4.2.2.2.1, u4.2.2.2.2)
    else
      (true, u4.2.1, u4.2.2.1, u2.1, u2.2, u3.1, u3.2.1, u3.2.2.1, u3.2.2.2.1, u3.2.2.2.2, u4.2.2.2.1, u4.2.2.2.2)
theorem m_K_T_canonical_f : sl m_K_T_canonical = f_K_T_canonical := (sl_eq m_K_T_canonical).trans (by delta m_K_T_canonical f_K_T_canonical; first | (rw [m_T_cut_f, m_T_read_f, m_T_write_f, m_W_isSame_f]; done) | (rw [m_T_cut_f, m_T_read_f, m_T_write_f, m_W_isSame_f]; rfl))
noncomputable def m_C_B_format (x : Int32) (y : Int32) (z : Int32) : Int32 × Int32 × Int32 × Int32 :=
  (x, y, (((2:Int32) - z) - y), ((z + (1:Int32)) - y))
theorem m_C_B_format_f : sl m_C_B_format = f_C_B_format := (sl_eq m_C_B_format).trans (by delta m_C_B_format f_C_B_format; rfl)
noncomputable def m_C_P_format (x : Int32) (y : Int32) (z : Int32) : Int32 × Int32 × Int32 × Int32 :=
  (x, y, (((2:Int32) - z) - y), ((z + (1:Int32)) - y))
theorem m_C_P_format_f : sl m_C_P_format = f_C_P_format := (sl_eq m_C_P_format).trans (by delta m_C_P_format f_C_P_format; rfl)
noncomputable def m_C_T_format (x : Int32) (y : Int32) (z : Int32) : Int32 × Int32 × Int32 × Int32 :=
  (x, y, (((2:Int32) - z) - y), ((z + (1:Int32)) - y))
theorem m_C_T_format_f : sl m_C_T_format = f_C_T_format := (sl_eq m_C_T_format).trans (by delta m_C_T_format f_C_T_format; rfl)
noncomputable def m_C_B_init (x : Int32) (y : Int32) (z : Int32) : Int32 × Int32 × Int32 × Int32 × Int32 × Int32 × Int64 :=
  let u1 := ((sl m_C_B_format) x y z)
  let u2 := ((sl m_W_ones) (x - y))
  (u1.1, u1.2.1, u1.2.2.1, u1.2.2.2, (y - (1:Int32)), (x - y), u2)
theorem m_C_B_init_f : sl m_C_B_init = f_C_B_init := (sl_eq m_C_B_init).trans (by delta m_C_B_init f_C_B_init; first | (rw [m_C_B_format_f, m_W_ones_f]; done) | (rw [m_C_B_format_f, m_W_ones_f]; rfl))
noncomputable def mlf_C_nines : Nat → Int32 → Int32 → Int64 → Int64 → Int64 × Int64
  | 0, _, _, _, _ => default
  | n + 1, x, x2, y0_0, y0_1 =>
    if x ≤ x2 then
      (y0_0, y0_1)
    else
      let u4 := ((sl m_W_times) (10:Int32) (9:Int32) y0_0 y0_1)
      mlf_C_nines n x (x2 + (1:Int32)) u4.1 u4.2
theorem mlf_C_nines_f : mlf_C_nines = lf_C_nines := by delta mlf_C_nines lf_C_nines; delta mlf_C_nines._f lf_C_nines._f; first | (rw [m_W_times_f]; done) | (rw [m_W_times_f]; rfl)
def mlk_C_nines : Nat → Int32 → Int32 → Prop
  | 0, _, _ => False
  | n + 1, x, x2 => ((x ≤ x2 → True) ∧ (¬ x ≤ x2 → mlk_C_nines n x (x2 + (1:Int32))))
theorem mlk_C_nines_f : mlk_C_nines = lk_C_nines := by delta mlk_C_nines lk_C_nines; delta mlk_C_nines._f lk_C_nines._f; rfl
def mok_C_nines (x : Int32) : Prop := mlk_C_nines 200 x (0:Int32)
theorem mok_C_nines_f : mok_C_nines = ok_C_nines := by delta mok_C_nines ok_C_nines; first | (rw [mlk_C_nines_f]; done) | (rw [mlk_C_nines_f]; rfl)
noncomputable def m_C_nines (x : Int32) : Int64 × Int64 :=
  mlf_C_nines 200 x (0:Int32) 0 0
theorem m_C_nines_f : sl m_C_nines = f_C_nines := (sl_eq m_C_nines).trans (by delta m_C_nines f_C_nines; first | (rw [mlf_C_nines_f]; done) | (rw [mlf_C_nines_f]; rfl))
def mok_C_P_decimal (y : Int32) : Prop := (mok_C_nines y ∧ mok_C_nines (y - (1:Int32)))
theorem mok_C_P_decimal_f : mok_C_P_decimal = ok_C_P_decimal := by delta mok_C_P_decimal ok_C_P_decimal; first | (rw [mok_C_nines_f]; done) | (rw [mok_C_nines_f]; rfl)
noncomputable def m_C_P_decimal (x : Int32) (y : Int32) (z : Int32) : Int32 × Int32 × Int32 × Int32 × Int32 × Int32 × Int32 × Int64 × Int64 × Int64 × Int64 :=
  let u1 := ((sl m_C_P_format) x y z)
  let v3 := ((sl m_C_nines) y)
  let v6 := ((sl m_C_nines) (y - (1:Int32)))
  (u1.1, u1.2.1, u1.2.2.1, u1.2.2.2, ((y - (1:Int32)) / (3:Int32)), ((10:Int32) * ((y - (1:Int32)) / (3:Int32))), ((x / (16:Int32)) + (9:Int32)), v3.1, v3.2, v6.1, v6.2)
theorem m_C_P_decimal_f : sl m_C_P_decimal = f_C_P_decimal := (sl_eq m_C_P_decimal).trans (by delta m_C_P_decimal f_C_P_decimal; first | (rw [m_C_P_format_f, m_C_nines_f]; done) | (rw [m_C_P_format_f, m_C_nines_f]; rfl))
def mok_C_P_init (y : Int32) : Prop := mok_C_P_decimal y
theorem mok_C_P_init_f : mok_C_P_init = ok_C_P_init := by delta mok_C_P_init ok_C_P_init; first | (rw [mok_C_P_decimal_f]; done) | (rw [mok_C_P_decimal_f]; rfl)
