/-! Wide's questions and arithmetic as numbers -/
theorem uW_zero (x : Int64) : x = 0 ↔ uW x = 0 := ⟨fun h => by rw [h]; rfl, fun h => uW_inj (h.trans rfl)⟩
theorem fits_iff (h l : Int64) {k : Nat} (hk : k < 128) : f_W_fits (nI k) h l = decide (VN h l < 2 ^ k) := by
  have hl := uW_lt l
  have hp : 0 < 2 ^ k := Nat.pow_pos (by decide)
  unfold f_W_fits
  by_cases c1 : k < 64
  · rw [if_pos (show nI k < (64:Int32) from (nI_lt_lit (by omega) (by decide)).mpr c1)]
    have hk2 : 2 ^ k ≤ 2 ^ 63 := Nat.pow_le_pow_right (by decide) (by omega)
    have e1 := lg0 h 0
    have e2 := lg0 (lushr_ l (nI k)) 0
    rw [uW_zero] at e1
    rw [uW_zero, uW_ushr _ c1, Nat.div_eq_zero_iff_lt hp] at e2
    by_cases d1 : uW h = 0
    · rw [if_pos (e1.mpr d1)]
      by_cases d2 : uW l < 2 ^ k
      · rw [if_pos (e2.mpr d2)]
        symm; apply decide_eq_true; unfold VN; rw [d1]; omega
      · rw [if_neg (fun z => d2 (e2.mp z))]
        symm; apply decide_eq_false; unfold VN; omega
    · rw [if_neg (fun z => d1 (e1.mp z))]
      symm; apply decide_eq_false; unfold VN; omega
  · rw [if_neg (show ¬ nI k < (64:Int32) from fun z => c1 ((nI_lt_lit (by omega) (by decide)).mp z))]
    have e : nI k - (64:Int32) = nI (k - 64) := pk_sub (b := 64) (by omega)
    rw [e]
    have hp2 : 0 < 2 ^ (k - 64) := Nat.pow_pos (by decide)
    have e2 := lg0 (lushr_ h (nI (k - 64))) 0
    rw [uW_zero, uW_ushr _ (by omega), Nat.div_eq_zero_iff_lt hp2] at e2
    have hs : 2 ^ k = 2 ^ (k - 64) * 2 ^ 64 := by rw [← Nat.pow_add]; congr 1; omega
    by_cases d2 : uW h < 2 ^ (k - 64)
    · rw [if_pos (e2.mpr d2)]
      symm; apply decide_eq_true; unfold VN; rw [hs]
      generalize 2 ^ (k - 64) = z at *
      omega
    · rw [if_neg (fun z => d2 (e2.mp z))]
      symm; apply decide_eq_false; unfold VN; rw [hs]
      generalize 2 ^ (k - 64) = z at *
      omega
theorem isZero_iff (h l : Int64) : f_W_isZero h l = decide (VN h l = 0) := by
  unfold f_W_isZero
  have e1 := lg0 h 0
  have e2 := lg0 l 0
  rw [uW_zero] at e1 e2
  by_cases d1 : uW h = 0
  · rw [if_pos (e1.mpr d1)]
    by_cases d2 : uW l = 0
    · rw [if_pos (e2.mpr d2)]; symm; apply decide_eq_true; unfold VN; omega
    · rw [if_neg (fun z => d2 (e2.mp z))]; symm; apply decide_eq_false; unfold VN; omega
  · rw [if_neg (fun z => d1 (e1.mp z))]; symm; apply decide_eq_false; unfold VN; omega
theorem isSame_iff (h l a b : Int64) : f_W_isSame h l a b = decide (VN h l = VN a b) := by
  unfold f_W_isSame
  have e1 := lg0 h a
  have e2 := lg0 l b
  by_cases d1 : h = a
  · rw [if_pos (e1.mpr d1)]
    by_cases d2 : l = b
    · rw [if_pos (e2.mpr d2)]; symm; apply decide_eq_true; rw [d1, d2]
    · rw [if_neg (fun z => d2 (e2.mp z))]; symm; apply decide_eq_false; exact fun z => d2 (VN_inj z).2
  · rw [if_neg (fun z => d1 (e1.mp z))]; symm; apply decide_eq_false; exact fun z => d1 (VN_inj z).1
theorem toInt_flip (x : Int64) : (x + (-9223372036854775808:Int64)).toInt = (uW x : Int) - 2 ^ 63 := by
  have h1 := uW_add x (-9223372036854775808:Int64)
  have h2 : uW (-9223372036854775808:Int64) = 2 ^ 63 := by decide +kernel
  have h3 := uW_lt x
  rw [uW_int, h1, h2]
  split <;> omega
theorem cmpU_le (x y : Int64) : (f_Long_compareU x y ≤ (0:Int32)) ↔ uW x ≤ uW y := by
  have hx := toInt_flip x
  have hy := toInt_flip y
  unfold f_Long_compareU f_Long_compare
  generalize x + (-9223372036854775808:Int64) = a at *
  generalize y + (-9223372036854775808:Int64) = b at *
  have h1 := lg_cmp_ge a b
  have h2 := lg0 a b
  rw [Int64.le_iff_toInt_le, hx, hy] at h1
  have h3 : a = b ↔ uW x = uW y := by rw [← Int64.toInt_inj, hx, hy]; omega
  rw [h3] at h2
  by_cases c1 : uW y ≤ uW x
  · rw [if_pos (show (0:Int32) ≤ lg_cmp a b from h1.mpr (by omega))]
    by_cases c2 : uW x = uW y
    · rw [if_pos (h2.mpr c2)]
      exact ⟨fun _ => by omega, fun _ => by decide⟩
    · rw [if_neg (fun z => c2 (h2.mp z))]
      exact ⟨fun z => absurd z (by decide), fun z => by omega⟩
  · rw [if_neg (fun z => c1 (by have := h1.mp z; omega))]
    exact ⟨fun _ => by omega, fun _ => by decide⟩
theorem isAbove_iff (h l a b : Int64) : f_W_isAbove h l a b = decide (VN a b < VN h l) := by
  have hl := uW_lt l
  have hb := uW_lt b
  unfold f_W_isAbove
  have e1 := lg0 h a
  by_cases d1 : h = a
  · rw [if_pos (e1.mpr d1)]
    subst d1
    have e2 := cmpU_le l b
    by_cases d2 : uW l ≤ uW b
    · rw [if_pos (e2.mpr d2)]; symm; apply decide_eq_false; unfold VN; omega
    · rw [if_neg (fun z => d2 (e2.mp z))]; symm; apply decide_eq_true; unfold VN; omega
  · rw [if_neg (fun z => d1 (e1.mp z))]
    have d3 : uW h ≠ uW a := fun z => d1 (uW_inj z)
    have e2 := cmpU_le h a
    by_cases d2 : uW h ≤ uW a
    · rw [if_pos (e2.mpr d2)]; symm; apply decide_eq_false; unfold VN; omega
    · rw [if_neg (fun z => d2 (e2.mp z))]; symm; apply decide_eq_true; unfold VN; omega
theorem uW_i2l {n : Nat} (h : n < 2 ^ 31) : uW (Int32.toInt64 (nI n)) = n := by
  rw [nI_l h, uW_lN (by omega)]
/-- a shift by 32 and a low half: how the four 32-bit digits of a number are put together -/
theorem uW_cat32 {x y : Int64} (hy : uW y < 2 ^ 32) : uW ((lshl_ x (32:Int32)) ||| y) = (uW x % 2 ^ 32) * 2 ^ 32 + uW y := by
  have h1 : uW (lshl_ x (32:Int32)) = (uW x % 2 ^ 32) * 2 ^ 32 := by
    rw [show (32:Int32) = nI 32 from rfl, uW_shl _ (by decide)]
    omega
  exact uW_orP h1 rfl hy
theorem uW_hi (x : Int64) : uW (lushr_ x (32:Int32)) = uW x / 2 ^ 32 := uW_ushr x (k := 32) (by decide)
theorem l2i_lN (n : Nat) : Int64.toInt32 (lN n) = nI n := lN_i n
theorem uW_step {x y F : Int64} {f : Nat} (hf : uW F = f) (hb : uW x * f + uW y < 2 ^ 64) : uW (x * F + y) = uW x * f + uW y := by
  rw [uW_add, uW_mul, hf]
  have : uW x * f % 2 ^ 64 = uW x * f := Nat.mod_eq_of_lt (by omega)
  rw [this, Nat.mod_eq_of_lt hb]
theorem mul_le_31 {x f : Nat} (hx : x < 2 ^ 32) (hf : f < 2 ^ 31) : x * f ≤ (2 ^ 32 - 1) * (2 ^ 31 - 1) := Nat.mul_le_mul (by omega) (by omega)
theorem VN_times (h l : Int64) {f m : Nat} (hf : f < 2 ^ 31) (hm : m < 2 ^ 31) : VN (f_W_times (nI f) (nI m) h l).1 (f_W_times (nI f) (nI m) h l).2 = (VN h l * f + m) % 2 ^ 128 := by
  have hh := uW_lt h
  have hl := uW_lt l
  have ef := uW_i2l hf
  have em := uW_i2l hm
  have e1 := uW_low l
  have e2 := uW_hi l
  have e3 := uW_low h
  have e4 := uW_hi h
  unfold f_W_times
  generalize Int32.toInt64 (nI f) = F at *
  generalize Int32.toInt64 (nI m) = M at *
  generalize l &&& (4294967295:Int64) = A at *
  generalize lushr_ l (32:Int32) = B at *
  generalize h &&& (4294967295:Int64) = C at *
  generalize lushr_ h (32:Int32) = E at *
  have b1 := mul_le_31 (show uW A < 2 ^ 32 by omega) hf
  have b2 := mul_le_31 (show uW B < 2 ^ 32 by omega) hf
  have b3 := mul_le_31 (show uW C < 2 ^ 32 by omega) hf
  have b4 := mul_le_31 (show uW E < 2 ^ 32 by omega) hf
  have s1 := uW_step (x := A) (y := M) ef (by omega)
  have t1 := uW_hi (A * F + M)
  have s2 := uW_step (x := B) (y := lushr_ (A * F + M) (32:Int32)) ef (by omega)
  have t2 := uW_hi (B * F + lushr_ (A * F + M) (32:Int32))
  have s3 := uW_step (x := C) (y := lushr_ (B * F + lushr_ (A * F + M) (32:Int32)) (32:Int32)) ef (by omega)
  have t3 := uW_hi (C * F + lushr_ (B * F + lushr_ (A * F + M) (32:Int32)) (32:Int32))
  have s4 := uW_step (x := E) (y := lushr_ (C * F + lushr_ (B * F + lushr_ (A * F + M) (32:Int32)) (32:Int32)) (32:Int32)) ef (by omega)
  show VN (lshl_ (E * F + lushr_ (C * F + lushr_ (B * F + lushr_ (A * F + M) (32:Int32)) (32:Int32)) (32:Int32)) (32:Int32) ||| (C * F + lushr_ (B * F + lushr_ (A * F + M) (32:Int32)) (32:Int32)) &&& (4294967295:Int64)) (lshl_ (B * F + lushr_ (A * F + M) (32:Int32)) (32:Int32) ||| (A * F + M) &&& (4294967295:Int64)) = _
  generalize E * F + lushr_ (C * F + lushr_ (B * F + lushr_ (A * F + M) (32:Int32)) (32:Int32)) (32:Int32) = z4 at *
  generalize C * F + lushr_ (B * F + lushr_ (A * F + M) (32:Int32)) (32:Int32) = z3 at *
  generalize B * F + lushr_ (A * F + M) (32:Int32) = z2 at *
  generalize A * F + M = z1 at *
  have l1 := uW_low z1
  have l3 := uW_low z3
  have hV : VN h l * f = uW E * f * 2 ^ 96 + uW C * f * 2 ^ 64 + uW B * f * 2 ^ 32 + uW A * f := by
    have hv : VN h l = uW E * 2 ^ 96 + uW C * 2 ^ 64 + uW B * 2 ^ 32 + uW A := by unfold VN; omega
    rw [hv, Nat.add_mul, Nat.add_mul, Nat.add_mul, Nat.mul_right_comm _ _ f, Nat.mul_right_comm _ _ f, Nat.mul_right_comm _ _ f]
  rw [hV]
  unfold VN
  rw [uW_cat32 (by omega), uW_cat32 (by omega), l1, l3]
  generalize uW A * f = p1 at *
  generalize uW B * f = p2 at *
  generalize uW C * f = p3 at *
  generalize uW E * f = p4 at *
  omega
theorem uW_div {x : Int64} {d : Nat} (hx : uW x < 2 ^ 63) (h0 : 0 < d) (hd : d < 2 ^ 63) : uW (x / lN d) = uW x / d := by
  have h := pk_lDiv hx h0 hd
  rw [lN_uW] at h
  rw [h, uW_lN (Nat.lt_of_le_of_lt (Nat.div_le_self _ _) (by omega))]
theorem uW_rem {x : Int64} {d : Nat} (hx : uW x < 2 ^ 63) (h0 : 0 < d) (hd : d < 2 ^ 63) : uW (x - x / lN d * lN d) = uW x % d := by
  have h := pk_lRem hx h0 hd
  rw [lN_uW] at h
  rw [h, uW_lN (Nat.lt_of_le_of_lt (Nat.mod_le _ _) (by omega))]
theorem uW_div1000 {x : Int64} (hx : uW x < 2 ^ 63) : uW (x / (1000:Int64)) = uW x / 1000 := uW_div (d := 1000) hx (by decide) (by decide)
theorem uW_rem1000 {x : Int64} (hx : uW x < 2 ^ 63) : uW (x - x / (1000:Int64) * (1000:Int64)) = uW x % 1000 := uW_rem (d := 1000) hx (by decide) (by decide)
/-- one digit of a long division by 1000: what is left goes on to the next -/
theorem div_step {r y : Int64} (hr : uW r < 1000) (hy : uW y < 2 ^ 32) : uW ((lshl_ r (32:Int32)) ||| y) = uW r * 4294967296 + uW y ∧ uW (((lshl_ r (32:Int32)) ||| y) / (1000:Int64)) = (uW r * 4294967296 + uW y) / 1000 ∧ uW (((lshl_ r (32:Int32)) ||| y) - ((lshl_ r (32:Int32)) ||| y) / (1000:Int64) * (1000:Int64)) = (uW r * 4294967296 + uW y) % 1000 := by
  have h1 : uW ((lshl_ r (32:Int32)) ||| y) = uW r * 4294967296 + uW y := by
    rw [uW_cat32 (x := r) hy, Nat.mod_eq_of_lt (by omega)]
  have h3 : uW ((lshl_ r (32:Int32)) ||| y) < 2 ^ 63 := by rw [h1]; omega
  exact ⟨h1, by rw [uW_div1000 h3, h1], by rw [uW_rem1000 h3, h1]⟩
theorem ld_step {B x q r y q' r' : Nat} (h : x = 1000 * q + r) (h' : r * B + y = 1000 * q' + r') : x * B + y = 1000 * (q * B + q') + r' := by
  rw [h, Nat.add_mul, Nat.add_assoc, h', Nat.mul_assoc, ← Nat.add_assoc, ← Nat.mul_add]
theorem long_div {a b c d r3 r2 r1 q4 q3 q2 q1 : Nat} (h4 : q4 = a / 1000) (g3 : r3 = a % 1000) (h3 : q3 = (r3 * 4294967296 + b) / 1000) (g2 : r2 = (r3 * 4294967296 + b) % 1000) (h2 : q2 = (r2 * 4294967296 + c) / 1000) (g1 : r1 = (r2 * 4294967296 + c) % 1000) (h1 : q1 = (r1 * 4294967296 + d) / 1000) :
    ((q4 * 4294967296 + q3) * 4294967296 + q2) * 4294967296 + q1 = (((a * 4294967296 + b) * 4294967296 + c) * 4294967296 + d) / 1000 ∧ (r1 * 4294967296 + d) % 1000 = (((a * 4294967296 + b) * 4294967296 + c) * 4294967296 + d) % 1000 := by
  have e4 : a = 1000 * q4 + r3 := by rw [h4, g3]; exact (Nat.div_add_mod _ _).symm
  have e3 : r3 * 4294967296 + b = 1000 * q3 + r2 := by rw [h3, g2]; exact (Nat.div_add_mod _ _).symm
  have e2 : r2 * 4294967296 + c = 1000 * q2 + r1 := by rw [h2, g1]; exact (Nat.div_add_mod _ _).symm
  have e1 : r1 * 4294967296 + d = 1000 * q1 + (r1 * 4294967296 + d) % 1000 := by rw [h1]; exact (Nat.div_add_mod _ _).symm
  have k3 := ld_step (ld_step (ld_step e4 e3) e2) e1
  have l0 : (r1 * 4294967296 + d) % 1000 < 1000 := Nat.mod_lt _ (by decide)
  rw [k3, Nat.mul_add_div (by decide), Nat.div_eq_of_lt l0, Nat.mul_add_mod, Nat.mod_eq_of_lt l0, Nat.add_zero]
  exact ⟨Eq.refl _, Eq.refl _⟩
set_option maxRecDepth 20000 in
theorem VN_take (h l : Int64) : (f_W_take h l).1 = nI (VN h l % 1000) ∧ VN (f_W_take h l).2.1 (f_W_take h l).2.2 = VN h l / 1000 := by
  have hh := uW_lt h
  have hl := uW_lt l
  have e1 := uW_low l
  have e2 := uW_hi l
  have e3 := uW_low h
  have e4 := uW_hi h
  unfold f_W_take
  have hv : VN h l = ((uW (lushr_ h (32:Int32)) * 4294967296 + uW (h &&& (4294967295:Int64))) * 4294967296 + uW (lushr_ l (32:Int32))) * 4294967296 + uW (l &&& (4294967295:Int64)) := by unfold VN; omega
  rw [hv]
  generalize l &&& (4294967295:Int64) = A at *
  generalize lushr_ l (32:Int32) = B at *
  generalize h &&& (4294967295:Int64) = C at *
  generalize lushr_ h (32:Int32) = E at *
  have q4 := uW_div1000 (x := E) (by omega)
  have r4 := uW_rem1000 (x := E) (by omega)
  dsimp only
  generalize E - E / (1000:Int64) * (1000:Int64) = R3 at *
  generalize E / (1000:Int64) = Q4 at *
  obtain ⟨c3, q3, r3⟩ := div_step (r := R3) (y := C) (by omega) (by omega)
  generalize lshl_ R3 (32:Int32) ||| C = z1 at *
  generalize z1 - z1 / (1000:Int64) * (1000:Int64) = R2 at *
  generalize z1 / (1000:Int64) = Q3 at *
  obtain ⟨c2, q2, r2⟩ := div_step (r := R2) (y := B) (by omega) (by omega)
  generalize lshl_ R2 (32:Int32) ||| B = z2 at *
  generalize z2 - z2 / (1000:Int64) * (1000:Int64) = R1 at *
  generalize z2 / (1000:Int64) = Q2 at *
  obtain ⟨c1, q1, r1⟩ := div_step (r := R1) (y := A) (by omega) (by omega)
  generalize lshl_ R1 (32:Int32) ||| A = z3 at *
  generalize z3 - z3 / (1000:Int64) * (1000:Int64) = R0 at *
  generalize z3 / (1000:Int64) = Q1 at *
  obtain ⟨k1, k2⟩ := long_div q4 r4 q3 r3 q2 r2 q1
  have b3 : uW Q3 < 2 ^ 32 := by rw [q3]; omega
  have b1 : uW Q1 < 2 ^ 32 := by rw [q1]; omega
  have b2 : uW Q2 < 2 ^ 32 := by rw [q2]; omega
  have b4 : uW Q4 < 2 ^ 32 := by rw [q4]; omega
  constructor
  · rw [← k2, ← r1, ← l2i_lN, lN_uW]
  · rw [← k1]
    unfold VN
    rw [uW_cat32 b3, uW_cat32 b1, Nat.mod_eq_of_lt b4, Nat.mod_eq_of_lt b2]
    clear k1 k2 q1 q2 q3 q4 r1 r2 r3 r4 c1 c2 c3 hv e1 e2 e3 e4
    omega

