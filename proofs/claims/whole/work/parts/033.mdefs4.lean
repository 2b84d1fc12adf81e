noncomputable def m_C_P_init (x : Int32) (y : Int32) (z : Int32) : Int32 × Int32 × Int32 × Int32 × Int32 × Int32 × Int32 × Int64 × Int64 × Int64 × Int64 :=
  let v2 := ((sl m_C_P_decimal) x y z)
  (v2.1, v2.2.1, v2.2.2.1, v2.2.2.2.1, v2.2.2.2.2.1, v2.2.2.2.2.2.1, v2.2.2.2.2.2.2.1, v2.2.2.2.2.2.2.2.1, v2.2.2.2.2.2.2.2.2.1, v2.2.2.2.2.2.2.2.2.2.1, v2.2.2.2.2.2.2.2.2.2.2)
theorem m_C_P_init_f : sl m_C_P_init = f_C_P_init := (sl_eq m_C_P_init).trans (by delta m_C_P_init f_C_P_init; first | (rw [m_C_P_decimal_f]; done) | (rw [m_C_P_decimal_f]; rfl))
def mok_C_T_decimal (y : Int32) : Prop := (mok_C_nines y ∧ mok_C_nines (y - (1:Int32)))
theorem mok_C_T_decimal_f : mok_C_T_decimal = ok_C_T_decimal := by delta mok_C_T_decimal ok_C_T_decimal; first | (rw [mok_C_nines_f]; done) | (rw [mok_C_nines_f]; rfl)
noncomputable def m_C_T_decimal (x : Int32) (y : Int32) (z : Int32) : Int32 × Int32 × Int32 × Int32 × Int32 × Int32 × Int32 × Int64 × Int64 × Int64 × Int64 :=
  let u1 := ((sl m_C_T_format) x y z)
  let v3 := ((sl m_C_nines) y)
  let v6 := ((sl m_C_nines) (y - (1:Int32)))
  (u1.1, u1.2.1, u1.2.2.1, u1.2.2.2, ((y - (1:Int32)) / (3:Int32)), ((10:Int32) * ((y - (1:Int32)) / (3:Int32))), ((x / (16:Int32)) + (9:Int32)), v3.1, v3.2, v6.1, v6.2)
theorem m_C_T_decimal_f : sl m_C_T_decimal = f_C_T_decimal := (sl_eq m_C_T_decimal).trans (by delta m_C_T_decimal f_C_T_decimal; first | (rw [m_C_T_format_f, m_C_nines_f]; done) | (rw [m_C_T_format_f, m_C_nines_f]; rfl))
def mok_C_T_init (y : Int32) : Prop := mok_C_T_decimal y
theorem mok_C_T_init_f : mok_C_T_init = ok_C_T_init := by delta mok_C_T_init ok_C_T_init; first | (rw [mok_C_T_decimal_f]; done) | (rw [mok_C_T_decimal_f]; rfl)
noncomputable def m_C_T_init (x : Int32) (y : Int32) (z : Int32) : Int32 × Int32 × Int32 × Int32 × Int32 × Int32 × Int32 × Int32 × Int64 × Int64 × Int64 × Int64 × Int64 × Int64 :=
  let v2 := ((sl m_C_T_decimal) x y z)
  (v2.1, v2.2.1, v2.2.2.1, v2.2.2.2.1, v2.2.2.2.2.1, v2.2.2.2.2.2.1, v2.2.2.2.2.2.2.1, (v2.2.2.2.2.2.2.1 - (5:Int32)), v2.2.2.2.2.2.2.2.1, v2.2.2.2.2.2.2.2.2.1, v2.2.2.2.2.2.2.2.2.2.1, v2.2.2.2.2.2.2.2.2.2.2, 0, 0)
theorem m_C_T_init_f : sl m_C_T_init = f_C_T_init := (sl_eq m_C_T_init).trans (by delta m_C_T_init f_C_T_init; first | (rw [m_C_T_decimal_f]; done) | (rw [m_C_T_decimal_f]; rfl))
def mok_C_K_init : Prop := (mok_C_P_init (7:Int32) ∧ (mok_C_P_init (16:Int32) ∧ (mok_C_P_init (34:Int32) ∧ (mok_C_T_init (7:Int32) ∧ (mok_C_T_init (16:Int32) ∧ mok_C_T_init (34:Int32))))))
theorem mok_C_K_init_f : mok_C_K_init = ok_C_K_init := by delta mok_C_K_init ok_C_K_init; first | (rw [mok_C_P_init_f, mok_C_T_init_f]; done) | (rw [mok_C_P_init_f, mok_C_T_init_f]; rfl)
noncomputable def m_C_K_init : Int32 × Int32 × Int32 × Int32 × Int32 × Int32 × Int64 × Int32 × Int32 × Int32 × Int32 × Int32 × Int32 × Int64 × Int32 × Int32 × Int32 × Int32 × Int32 × Int32 × Int64 × Int32 × Int32 × Int32 × Int32 × Int32 × Int32 × Int64 × Int32 × Int32 × Int32 × Int32 × Int32 × Int32 × Int32 × Int64 × Int64 × Int64 × Int64 × Int32 × Int32 × Int32 × Int32 × Int32 × Int32 × Int32 × Int64 × Int64 × Int64 × Int64 × Int32 × Int32 × Int32 × Int32 × Int32 × Int32 × Int32 × Int64 × Int64 × Int64 × Int64 × Int32 × Int32 × Int32 × Int32 × Int32 × Int32 × Int32 × Int32 × Int64 × Int64 × Int64 × Int64 × Int64 × Int64 × Int32 × Int32 × Int32 × Int32 × Int32 × Int32 × Int32 × Int32 × Int64 × Int64 × Int64 × Int64 × Int64 × Int64 × Int32 × Int32 × Int32 × Int32 × Int32 × Int32 × Int32 × Int32 × Int64 × Int64 × Int64 × Int64 × Int64 × Int64 × Int32 × Bool × Int32 × Int64 × Int64 × Int64 × Int64 × Int64 × Int64 × Int32 × Bool × Int32 × Int64 × Int64 × Int64 × Int64 :=
  let u4 := ((sl m_C_B_init) (16:Int32) (11:Int32) (15:Int32))
  let u6 := ((sl m_C_B_init) (32:Int32) (24:Int32) (127:Int32))
  let u8 := ((sl m_C_B_init) (64:Int32) (53:Int32) (1023:Int32))
  let u10 := ((sl m_C_B_init) (128:Int32) (113:Int32) (16383:Int32))
  let v13 := ((sl m_C_P_init) (32:Int32) (7:Int32) (96:Int32))
  let v18 := ((sl m_C_P_init) (64:Int32) (16:Int32) (384:Int32))
  let v23 := ((sl m_C_P_init) (128:Int32) (34:Int32) (6144:Int32))
  let v28 := ((sl m_C_T_init) (32:Int32) (7:Int32) (96:Int32))
  let v34 := ((sl m_C_T_init) (64:Int32) (16:Int32) (384:Int32))
  let v40 := ((sl m_C_T_init) (128:Int32) (34:Int32) (6144:Int32))
  let v46 := (sl m_D_init)
  let v54 := (sl m_D_init)
  (u4.1, u4.2.1, u4.2.2.1, u4.2.2.2.1, u4.2.2.2.2.1, u4.2.2.2.2.2.1, u4.2.2.2.2.2.2, u6.1, u6.2.1, u6.2.2.1, u6.2.2.2.1, u6.2.2.2.2.1, u6.2.2.2.2.2.1, u6.2.2.2.2.2.2, u8.1, u8.2.1, u8.2.2.1, u8.2.2.2.1, u8.2.2.2.2.1, u8.2.2.2.2.2.1, u8.2.2.2.2.2.2, u10.1, u10.2.1, u10.2.2.1, u10.2.2.2.1, u10.2.2.2.2.1, u10.2.2.2.2.2.1, u10.2.2.2.2.2.2, v13.1, v13.2.1, v13.2.2.1, v13.2.2.2.1, v13.2.2.2.2.1, v13.2.2.2.2.2.1, v13.2.2.2.2.2.2.1, v13.2.2.2.2.2.2.2.1, v13.2.2.2.2.2.2.2.2.1, v13.2.2.2.2.2.2.2.2.2.1, v13.2.2.2.2.2.2.2.2.2.2, v18.1, v18.2.1, v18.2.2.1, v18.2.2.2.1, v18.2.2.2.2.1, v18.2.2.2.2.2.1, v18.2.2.2.2.2.2.1, v18.2.2.2.2.2.2.2.1, v18.2.2.2.2.2.2.2.2.1, v18.2.2.2.2.2.2.2.2.2.1, v18.2.2.2.2.2.2.2.2.2.2, v23.1, v23.2.1, v23.2.2.1, v23.2.2.2.1, v23.2.2.2.2.1, v23.2.2.2.2.2.1, v23.2.2.2.2.2.2.1, v23.2.2.2.2.2.2.2.1, v23.2.2.2.2.2.2.2.2.1, v23.2.2.2.2.2.2.2.2.2.1, v23.2.2.2.2.2.2.2.2.2.2, v28.1, v28.2.1, v28.2.2.1, v28.2.2.2.1, v28.2.2.2.2.1, v28.2.2.2.2.2.1, v28.2.2.2.2.2.2.1, v28.2.2.2.2.2.2.2.1, v28.2.2.2.2.2.2.2.2.1, v28.2.2.2.2.2.2.2.2.2.1, v28.2.2.2.2.2.2.2.2.2.2.1, v28.2.2.2.2.2.2.2.2.2.2.2.1, v28.2.2.2.2.2.2.2.2.2.2.2.2.1, v28.2.2.2.2.2.2.2.2.2.2.2.2.2, v34.1, v34.2.1, v34.2.2.1, v34.2.2.2.1, v34.2.2.2.2.1, v34.2.2.2.2.2.1, v34.2.2.2.2.2.2.1, v34.2.2.2.2.2.2.2.1, v34.2.2.2.2.2.2.2.2.1, v34.2.2.2.2.2.2.2.2.2.1, v34.2.2.2.2.2.2.2.2.2.2.1, v34.2.2.2.2.2.2.2.2.2.2.2.1, v34.2.2.2.2.2.2.2.2.2.2.2.2.1, v34.2.2.2.2.2.2.2.2.2.2.2.2.2, v40.1, v40.2.1, v40.2.2.1, v40.2.2.2.1, v40.2.2.2.2.1, v40.2.2.2.2.2.1, v40.2.2.2.2.2.2.1, v40.2.2.2.2.2.2.2.1, v40.2.2.2.2.2.2.2.2.1, v40.2.2.2.2.2.2.2.2.2.1, v40.2.2.2.2.2.2.2.2.2.2.1, v40.2.2.2.2.2.2.2.2.2.2.2.1, v40.2.2.2.2.2.2.2.2.2.2.2.2.1, v40.2.2.2.2.2.2.2.2.2.2.2.2.2, v46.1, v46.2.1, v46.2.2.1, v46.2.2.2.1, v46.2.2.2.2, 0, 0, 0, 0, v54.1, v54.2.1, v54.2.2.1, v54.2.2.2.1, v54.2.2.2.2, 0, 0)
theorem m_C_K_init_f : sl m_C_K_init = f_C_K_init := (sl_eq m_C_K_init).trans (by delta m_C_K_init f_C_K_init; first | (rw [m_C_B_init_f, m_C_P_init_f, m_C_T_init_f, m_D_init_f]; done) | (rw [m_C_B_init_f, m_C_P_init_f, m_C_T_init_f, m_D_init_f]; rfl))
noncomputable def m_C_M_bitsOf (x : Int32) : (Nat → Int32) :=
  (upd (upd (upd (upd (upd (upd (upd (upd (upd (upd (fun _ => 0) 0 ((x >>> ((0:Int32) &&& 31)) &&& (1:Int32))) 1 ((x >>> ((1:Int32) &&& 31)) &&& (1:Int32))) 2 ((x >>> ((2:Int32) &&& 31)) &&& (1:Int32))) 3 ((x >>> ((3:Int32) &&& 31)) &&& (1:Int32))) 4 ((x >>> ((4:Int32) &&& 31)) &&& (1:Int32))) 5 ((x >>> ((5:Int32) &&& 31)) &&& (1:Int32))) 6 ((x >>> ((6:Int32) &&& 31)) &&& (1:Int32))) 7 ((x >>> ((7:Int32) &&& 31)) &&& (1:Int32))) 8 ((x >>> ((8:Int32) &&& 31)) &&& (1:Int32))) 9 ((x >>> ((9:Int32) &&& 31)) &&& (1:Int32)))
theorem m_C_M_bitsOf_f : sl m_C_M_bitsOf = f_C_M_bitsOf := (sl_eq m_C_M_bitsOf).trans (by delta m_C_M_bitsOf f_C_M_bitsOf; rfl)
noncomputable def m_C_M_spell (x : Int32) : Int32 :=
  let v2 := ((sl m_C_M_bitsOf) x)
  if (v2 3) = (0:Int32) then
    ((((((100:Int32) * ((((4:Int32) * (v2 9)) + ((2:Int32) * (v2 8))) + (v2 7))) + ((10:Int32) * ((((4:Int32) * (v2 6)) + ((2:Int32) * (v2 5))) + (v2 4)))) + ((4:Int32) * (v2 2))) + ((2:Int32) * (v2 1))) + (v2 0))
  else
    if (((2:Int32) * (v2 2)) + (v2 1)) = (0:Int32) then
      (((((100:Int32) * ((((4:Int32) * (v2 9)) + ((2:Int32) * (v2 8))) + (v2 7))) + ((10:Int32) * ((((4:Int32) * (v2 6)) + ((2:Int32) * (v2 5))) + (v2 4)))) + (8:Int32)) + (v2 0))
    else
      if (((2:Int32) * (v2 2)) + (v2 1)) = (1:Int32) then
        ((((100:Int32) * ((((4:Int32) * (v2 9)) + ((2:Int32) * (v2 8))) + (v2 7))) + ((10:Int32) * ((8:Int32) + (v2 4)))) + ((((4:Int32) * (v2 6)) + ((2:Int32) * (v2 5))) + (v2 0)))
      else
        if (((2:Int32) * (v2 2)) + (v2 1)) = (2:Int32) then
          ((((100:Int32) * ((8:Int32) + (v2 7))) + ((10:Int32) * ((((4:Int32) * (v2 6)) + ((2:Int32) * (v2 5))) + (v2 4)))) + ((((4:Int32) * (v2 9)) + ((2:Int32) * (v2 8))) + (v2 0)))
        else
          if (((2:Int32) * (v2 6)) + (v2 5)) = (0:Int32) then
            ((((100:Int32) * ((8:Int32) + (v2 7))) + ((10:Int32) * ((8:Int32) + (v2 4)))) + ((((4:Int32) * (v2 9)) + ((2:Int32) * (v2 8))) + (v2 0)))
          else
            if (((2:Int32) * (v2 6)) + (v2 5)) = (1:Int32) then
              (((((100:Int32) * ((8:Int32) + (v2 7))) + ((10:Int32) * ((((4:Int32) * (v2 9)) + ((2:Int32) * (v2 8))) + (v2 4)))) + (8:Int32)) + (v2 0))
            else
              if (((2:Int32) * (v2 6)) + (v2 5)) = (2:Int32) then
                (((((100:Int32) * ((((4:Int32) * (v2 9)) + ((2:Int32) * (v2 8))) + (v2 7))) + ((10:Int32) * ((8:Int32) + (v2 4)))) + (8:Int32)) + (v2 0))
              else
                (((((100:Int32) * ((8:Int32) + (v2 7))) + ((10:Int32) * ((8:Int32) + (v2 4)))) + (8:Int32)) + (v2 0))
theorem m_C_M_spell_f : sl m_C_M_spell = f_C_M_spell := (sl_eq m_C_M_spell).trans (by delta m_C_M_spell f_C_M_spell; first | (rw [m_C_M_bitsOf_f]; done) | (rw [m_C_M_bitsOf_f]; rfl))
noncomputable def mlf_C_M_init2 : Nat → Int32 → ((Nat → Int64)) → ((Nat → Int32)) → ((Nat → Int32)) → (Nat → Int64) × (Nat → Int32) × (Nat → Int32)
  | 0, _, _, _, _ => default
  | n + 1, bx1, by1_a, by2_a, by3_a =>
    if (1024:Int32) ≤ bx1 then
      (by1_a, by2_a, by3_a)
    else
      let u9 := ((sl m_C_M_spell) bx1)
      if (by3_a (Int32.toNatClampNeg ((upd by2_a (Int32.toNatClampNeg bx1) u9) (Int32.toNatClampNeg bx1)))) = (-1:Int32) then
        mlf_C_M_init2 n (bx1 + (1:Int32)) by1_a (upd by2_a (Int32.toNatClampNeg bx1) u9) (upd by3_a (Int32.toNatClampNeg ((upd by2_a (Int32.toNatClampNeg bx1) u9) (Int32.toNatClampNeg bx1))) bx1)
      else
        mlf_C_M_init2 n (bx1 + (1:Int32)) by1_a (upd by2_a (Int32.toNatClampNeg bx1) u9) by3_a
theorem mlf_C_M_init2_f : mlf_C_M_init2 = lf_C_M_init2 := by delta mlf_C_M_init2 lf_C_M_init2; delta mlf_C_M_init2._f lf_C_M_init2._f; first | (rw [m_C_M_spell_f]; done) | (rw [m_C_M_spell_f]; rfl)
def mlk_C_M_init2 : Nat → Int32 → (Nat → Int32) → Prop
  | 0, _, _ => False
  | n + 1, bx1, by2_a => (((1024:Int32) ≤ bx1 → True) ∧ (¬ (1024:Int32) ≤ bx1 → (∀ u9, u9 = ((sl m_C_M_spell) bx1) → ((vp_in bx1 1024) ∧ ((vp_in bx1 1024) ∧ ((vp_in ((upd by2_a (Int32.toNatClampNeg bx1) u9) (Int32.toNatClampNeg bx1)) 1000) ∧ (((vp_in bx1 1024) ∧ ((vp_in ((upd by2_a (Int32.toNatClampNeg bx1) u9) (Int32.toNatClampNeg bx1)) 1000) ∧ mlk_C_M_init2 n (bx1 + (1:Int32)) (upd by2_a (Int32.toNatClampNeg bx1) u9))) ∧ mlk_C_M_init2 n (bx1 + (1:Int32)) (upd by2_a (Int32.toNatClampNeg bx1) u9))))))))
theorem mlk_C_M_init2_f : mlk_C_M_init2 = lk_C_M_init2 := by delta mlk_C_M_init2 lk_C_M_init2; delta mlk_C_M_init2._f lk_C_M_init2._f; first | (rw [m_C_M_spell_f]; done) | (rw [m_C_M_spell_f]; rfl)
noncomputable def mlf_C_M_init1 : Nat → Int32 → ((Nat → Int64)) → ((Nat → Int32)) → ((Nat → Int32)) → (Nat → Int64) × (Nat → Int32) × (Nat → Int32)
  | 0, _, _, _, _ => default
  | n + 1, ax1, ay1_a, ay2_a, ay3_a =>
    if (1000:Int32) ≤ ax1 then
      mlf_C_M_init2 1025 (0:Int32) ay1_a ay2_a ay3_a
    else
      mlf_C_M_init1 n (ax1 + (1:Int32)) ay1_a ay2_a (upd ay3_a (Int32.toNatClampNeg ax1) (-1:Int32))
theorem mlf_C_M_init1_f : mlf_C_M_init1 = lf_C_M_init1 := by delta mlf_C_M_init1 lf_C_M_init1; delta mlf_C_M_init1._f lf_C_M_init1._f; first | (rw [mlf_C_M_init2_f]; done) | (rw [mlf_C_M_init2_f]; rfl)
def mlk_C_M_init1 : Nat → Int32 → (Nat → Int32) → Prop
  | 0, _, _ => False
  | n + 1, ax1, ay2_a => (((1000:Int32) ≤ ax1 → mlk_C_M_init2 1025 (0:Int32) ay2_a) ∧ (¬ (1000:Int32) ≤ ax1 → ((vp_in ax1 1000) ∧ mlk_C_M_init1 n (ax1 + (1:Int32)) ay2_a)))
theorem mlk_C_M_init1_f : mlk_C_M_init1 = lk_C_M_init1 := by delta mlk_C_M_init1 lk_C_M_init1; delta mlk_C_M_init1._f lk_C_M_init1._f; first | (rw [mlk_C_M_init2_f]; done) | (rw [mlk_C_M_init2_f]; rfl)
def mok_C_M_init : Prop := mlk_C_M_init1 1001 (0:Int32) (fun _ => 0)
theorem mok_C_M_init_f : mok_C_M_init = ok_C_M_init := by delta mok_C_M_init ok_C_M_init; first | (rw [mlk_C_M_init1_f]; done) | (rw [mlk_C_M_init1_f]; rfl)
noncomputable def m_C_M_init : (Nat → Int64) × (Nat → Int32) × (Nat → Int32) :=
  mlf_C_M_init1 1001 (0:Int32) (fun _ => 0) (fun _ => 0) (fun _ => 0)
theorem m_C_M_init_f : sl m_C_M_init = f_C_M_init := (sl_eq m_C_M_init).trans (by delta m_C_M_init f_C_M_init; first | (rw [mlf_C_M_init1_f]; done) | (rw [mlf_C_M_init1_f]; rfl))
