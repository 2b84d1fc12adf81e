/-! the reference's words as numbers: WN w o is the number of the four 32-bit digits from o on -/
def WN (w : Nat → Int64) (o : Nat) : Nat := uW (w o) + uW (w (o + 1)) * 2 ^ 32 + uW (w (o + 2)) * 2 ^ 64 + uW (w (o + 3)) * 2 ^ 96
def Wok (w : Nat → Int64) (o : Nat) : Prop := uW (w o) < 2 ^ 32 ∧ uW (w (o + 1)) < 2 ^ 32 ∧ uW (w (o + 2)) < 2 ^ 32 ∧ uW (w (o + 3)) < 2 ^ 32
theorem WN_lt {w : Nat → Int64} {o : Nat} (h : Wok w o) : WN w o < 2 ^ 128 := by
  obtain ⟨h1, h2, h3, h4⟩ := h
  unfold WN; omega
theorem four_times {A B C E F M : Int64} {f m : Nat} (hf : f < 2 ^ 31) (hm : m < 2 ^ 31) (ef : uW F = f) (em : uW M = m) (hA : uW A < 2 ^ 32) (hB : uW B < 2 ^ 32) (hC : uW C < 2 ^ 32) (hE : uW E < 2 ^ 32) :
    uW ((A * F + M) &&& (4294967295:Int64)) + uW ((B * F + lushr_ (A * F + M) (32:Int32)) &&& (4294967295:Int64)) * 2 ^ 32 + uW ((C * F + lushr_ (B * F + lushr_ (A * F + M) (32:Int32)) (32:Int32)) &&& (4294967295:Int64)) * 2 ^ 64 + uW ((E * F + lushr_ (C * F + lushr_ (B * F + lushr_ (A * F + M) (32:Int32)) (32:Int32)) (32:Int32)) &&& (4294967295:Int64)) * 2 ^ 96
      = ((uW A + uW B * 2 ^ 32 + uW C * 2 ^ 64 + uW E * 2 ^ 96) * f + m) % 2 ^ 128 := by
  have b1 := mul_le_31 hA hf
  have b2 := mul_le_31 hB hf
  have b3 := mul_le_31 hC hf
  have b4 := mul_le_31 hE hf
  have s1 := uW_step (x := A) (y := M) ef (by omega)
  have t1 := uW_hi (A * F + M)
  have s2 := uW_step (x := B) (y := lushr_ (A * F + M) (32:Int32)) ef (by omega)
  have t2 := uW_hi (B * F + lushr_ (A * F + M) (32:Int32))
  have s3 := uW_step (x := C) (y := lushr_ (B * F + lushr_ (A * F + M) (32:Int32)) (32:Int32)) ef (by omega)
  have t3 := uW_hi (C * F + lushr_ (B * F + lushr_ (A * F + M) (32:Int32)) (32:Int32))
  have s4 := uW_step (x := E) (y := lushr_ (C * F + lushr_ (B * F + lushr_ (A * F + M) (32:Int32)) (32:Int32)) (32:Int32)) ef (by omega)
  rw [uW_low, uW_low, uW_low, uW_low, Nat.add_mul, Nat.add_mul, Nat.add_mul, Nat.mul_right_comm _ _ f, Nat.mul_right_comm _ _ f, Nat.mul_right_comm _ _ f]
  generalize uW A * f = p1 at *
  generalize uW B * f = p2 at *
  generalize uW C * f = p3 at *
  generalize uW E * f = p4 at *
  omega
theorem updL_eq (f : Nat → Int64) (k : Nat) (x : Int64) (j : Nat) : vp_updL f k x j = if j = k then x else f j := rfl
theorem low_lt (x : Int64) : uW (x &&& (4294967295:Int64)) < 2 ^ 32 := by rw [uW_low]; omega
theorem WN_be0 (x : Int64) (w : Nat → Int64) : WN (f_M_be0 x w) 0 = uW x ∧ Wok (f_M_be0 x w) 0 := by
  have hx := uW_lt x
  have e1 := uW_low x
  have e2 := uW_hi x
  have e3 : uW (0:Int64) = 0 := rfl
  constructor
  · show uW (x &&& (4294967295:Int64)) + uW (lushr_ x (32:Int32)) * 2 ^ 32 + uW (0:Int64) * 2 ^ 64 + uW (0:Int64) * 2 ^ 96 = _
    rw [e1, e2, e3]
    omega
  · show uW (x &&& (4294967295:Int64)) < 2 ^ 32 ∧ uW (lushr_ x (32:Int32)) < 2 ^ 32 ∧ uW (0:Int64) < 2 ^ 32 ∧ uW (0:Int64) < 2 ^ 32
    rw [e1, e2, e3]
    omega
theorem WN_be1 (x : Int64) (w : Nat → Int64) : WN (f_M_be1 x w) 4 = uW x ∧ Wok (f_M_be1 x w) 4 := by
  have hx := uW_lt x
  have e1 := uW_low x
  have e2 := uW_hi x
  have e3 : uW (0:Int64) = 0 := rfl
  constructor
  · show uW (x &&& (4294967295:Int64)) + uW (lushr_ x (32:Int32)) * 2 ^ 32 + uW (0:Int64) * 2 ^ 64 + uW (0:Int64) * 2 ^ 96 = _
    rw [e1, e2, e3]
    omega
  · show uW (x &&& (4294967295:Int64)) < 2 ^ 32 ∧ uW (lushr_ x (32:Int32)) < 2 ^ 32 ∧ uW (0:Int64) < 2 ^ 32 ∧ uW (0:Int64) < 2 ^ 32
    rw [e1, e2, e3]
    omega
theorem be1_keeps (x : Int64) (w : Nat → Int64) (j : Nat) (hj : j < 4) : f_M_be1 x w j = w j := by
  unfold f_M_be1
  simp only [updL_eq]
  rw [if_neg (by omega), if_neg (by omega), if_neg (by omega), if_neg (by omega)]
theorem WN_times0 {w : Nat → Int64} (hw : Wok w 0) {f m : Nat} (hf : f < 2 ^ 31) (hm : m < 2 ^ 31) : WN (f_M_times0 (nI f) (nI m) w) 0 = (WN w 0 * f + m) % 2 ^ 128 ∧ Wok (f_M_times0 (nI f) (nI m) w) 0 :=
  ⟨four_times hf hm (uW_i2l hf) (uW_i2l hm) hw.1 hw.2.1 hw.2.2.1 hw.2.2.2, low_lt _, low_lt _, low_lt _, low_lt _⟩
theorem WN_times1 {w : Nat → Int64} (hw : Wok w 4) {f m : Nat} (hf : f < 2 ^ 31) (hm : m < 2 ^ 31) : WN (f_M_times1 (nI f) (nI m) w) 4 = (WN w 4 * f + m) % 2 ^ 128 ∧ Wok (f_M_times1 (nI f) (nI m) w) 4 :=
  ⟨four_times hf hm (uW_i2l hf) (uW_i2l hm) hw.1 hw.2.1 hw.2.2.1 hw.2.2.2, low_lt _, low_lt _, low_lt _, low_lt _⟩
theorem times1_keeps (x y : Int32) (w : Nat → Int64) (j : Nat) (hj : j < 4) : f_M_times1 x y w j = w j := by
  unfold f_M_times1
  simp only [updL_eq]
  rw [if_neg (by omega), if_neg (by omega), if_neg (by omega), if_neg (by omega)]
/-! one bit, a field, a number taken bit by bit -/
theorem bit_of (x : Int64) {k : Nat} (hk : k < 64) : Int64.toInt32 ((lushr_ x (nI k)) &&& (1:Int64)) = nI (uW x / 2 ^ k % 2) := by
  have h : uW ((lushr_ x (nI k)) &&& (1:Int64)) = uW x / 2 ^ k % 2 := by
    rw [uW_mask (k := 1) rfl, uW_ushr _ hk]
  have h2 := l2i_lN (uW ((lushr_ x (nI k)) &&& (1:Int64)))
  rw [lN_uW, h] at h2
  exact h2
theorem bit_eq (h l : Int64) {k : Nat} (hk : k < 128) : f_M_bit (nI k) h l = nI (VN h l / 2 ^ k % 2) := by
  have hl := uW_lt l
  unfold f_M_bit
  by_cases c1 : k < 64
  · rw [if_neg (show ¬ (64:Int32) ≤ nI k from fun z => by have := (nI_leI (a := 64) (b := k) (by decide) (by omega)).mp z; omega), bit_of l c1]
    congr 1
    have hs : 2 ^ 64 = 2 ^ k * 2 ^ (64 - k) := pow_split (by omega)
    have hp0 : 0 < 2 ^ k := Nat.pow_pos (by decide)
    have e : VN h l / 2 ^ k = uW h * 2 ^ (64 - k) + uW l / 2 ^ k := by
      unfold VN
      rw [hs, show uW h * (2 ^ k * 2 ^ (64 - k)) + uW l = 2 ^ k * (uW h * 2 ^ (64 - k)) + uW l by rw [← Nat.mul_assoc, Nat.mul_comm (uW h), Nat.mul_assoc], Nat.mul_add_div hp0]
    rw [e, show 64 - k = (63 - k) + 1 by omega, Nat.pow_succ, ← Nat.mul_assoc]
    omega
  · rw [if_pos (show (64:Int32) ≤ nI k from (nI_leI (a := 64) (b := k) (by decide) (by omega)).mpr (by omega)), show nI k - (64:Int32) = nI (k - 64) from pk_sub (b := 64) (by omega), bit_of h (by omega)]
    congr 2
    rw [pow_split (show 64 ≤ k by omega), ← Nat.div_div_eq_div_mul]
    congr 1
    unfold VN
    omega
theorem nI_dec (j : Nat) : nI j + (-1:Int32) = nI j - (1:Int32) := by rw [Int32.sub_eq_add_neg]
theorem field_loop (h l : Int64) (p : Nat) : ∀ (fuel j a : Nat), j < fuel → p + j ≤ 128 → lf_M_field fuel (nI p) h l (nI j - (1:Int32)) (nI a) = nI (a * 2 ^ j + VN h l / 2 ^ p % 2 ^ j) := by
  intro fuel
  induction fuel with
  | zero => intro j a hj; omega
  | succ n ih =>
    intro j a hj hp
    cases j with
    | zero =>
      show (if nI 0 - (1:Int32) < (0:Int32) then nI a else _) = _
      rw [if_pos (by decide)]
      congr 1
      omega
    | succ j =>
      have e : nI (j + 1) - (1:Int32) = nI j := nI_pred j
      show (if nI (j + 1) - (1:Int32) < (0:Int32) then nI a else lf_M_field n (nI p) h l (nI (j + 1) - (1:Int32) + (-1:Int32)) ((2:Int32) * nI a + f_M_bit (nI p + (nI (j + 1) - (1:Int32))) h l)) = _
      rw [e, if_neg (nI_pos (by omega)), nI_add, bit_eq h l (by omega), nI_dec, show (2:Int32) = nI 2 from rfl, pk_mul, nI_add, ih j _ (by omega) (by omega)]
      congr 1
      have e2 : VN h l / 2 ^ p % 2 ^ (j + 1) = VN h l / 2 ^ p % 2 ^ j + 2 ^ j * (VN h l / 2 ^ p / 2 ^ j % 2) := Nat.mod_pow_succ
      rw [e2, Nat.div_div_eq_div_mul, ← Nat.pow_add, Nat.pow_succ, Nat.add_mul, Nat.mul_comm 2 a, Nat.mul_assoc a 2, Nat.mul_comm 2 (2 ^ j), Nat.mul_comm (VN h l / 2 ^ (p + j) % 2)]
      omega
theorem field_eq (h l : Int64) {p n : Nat} (hn : n < 200) (hp : p + n ≤ 128) : f_M_field (nI p) (nI n) h l = nI (VN h l / 2 ^ p % 2 ^ n) := by
  have := field_loop h l p 200 n 0 hn hp
  rw [Nat.zero_mul, Nat.zero_add] at this
  exact this
theorem lk_field : ∀ (fuel j : Nat), j < fuel → j < 2 ^ 31 → lk_M_field fuel (nI j - (1:Int32)) := by
  intro fuel
  induction fuel with
  | zero => intro j hj; omega
  | succ n ih =>
    intro j hj hp
    unfold lk_M_field
    refine ⟨fun _ => trivial, fun c => ?_⟩
    cases j with
    | zero => exact absurd (show nI 0 - (1:Int32) < (0:Int32) by decide) c
    | succ j => rw [nI_pred, nI_dec]; exact ih j (by omega) (by omega)
theorem ok_field {n : Nat} (h : n < 200) : ok_M_field (nI n) := lk_field 200 n h (by omega)
theorem take_loop (h l : Int64) (p : Nat) : ∀ (fuel j : Nat) (w : Nat → Int64), j < fuel → p + j ≤ 128 → Wok w 0 → WN (lf_M_take fuel (nI p) h l (nI j - (1:Int32)) w) 0 = (WN w 0 * 2 ^ j + VN h l / 2 ^ p % 2 ^ j) % 2 ^ 128 ∧ Wok (lf_M_take fuel (nI p) h l (nI j - (1:Int32)) w) 0 := by
  intro fuel
  induction fuel with
  | zero => intro j w hj; omega
  | succ n ih =>
    intro j w hj hp hw
    cases j with
    | zero =>
      have e : lf_M_take (n + 1) (nI p) h l (nI 0 - (1:Int32)) w = w := if_pos (show nI 0 - (1:Int32) < (0:Int32) by decide)
      rw [e]
      refine ⟨?_, hw⟩
      have := WN_lt hw
      rw [Nat.pow_zero, Nat.mod_one, Nat.mul_one, Nat.add_zero, Nat.mod_eq_of_lt this]
    | succ j =>
      have e : lf_M_take (n + 1) (nI p) h l (nI (j + 1) - (1:Int32)) w = lf_M_take n (nI p) h l (nI j - (1:Int32)) (f_M_times0 (nI 2) (nI (VN h l / 2 ^ (p + j) % 2)) w) := by
        show (if nI (j + 1) - (1:Int32) < (0:Int32) then w else lf_M_take n (nI p) h l (nI (j + 1) - (1:Int32) + (-1:Int32)) (f_M_times0 (2:Int32) (f_M_bit (nI p + (nI (j + 1) - (1:Int32))) h l) w)) = _
        rw [nI_pred, if_neg (nI_pos (by omega)), nI_add, bit_eq h l (by omega), nI_dec]
        rfl
      have hb : VN h l / 2 ^ (p + j) % 2 < 2 := Nat.mod_lt _ (by decide)
      obtain ⟨t1, t2⟩ := WN_times0 hw (f := 2) (m := VN h l / 2 ^ (p + j) % 2) (by decide) (by omega)
      obtain ⟨i1, i2⟩ := ih j _ (by omega) (by omega) t2
      rw [e]
      refine ⟨?_, i2⟩
      rw [i1, t1]
      have e2 : VN h l / 2 ^ p % 2 ^ (j + 1) = VN h l / 2 ^ p % 2 ^ j + 2 ^ j * (VN h l / 2 ^ p / 2 ^ j % 2) := Nat.mod_pow_succ
      rw [e2, Nat.div_div_eq_div_mul, ← Nat.pow_add]
      have e3 : ∀ x : Nat, x % 2 ^ 128 * 2 ^ j % 2 ^ 128 = x * 2 ^ j % 2 ^ 128 := fun x => by rw [Nat.mul_mod, Nat.mod_mod, ← Nat.mul_mod]
      rw [Nat.add_mod, e3, ← Nat.add_mod]
      congr 1
      rw [Nat.add_mul, Nat.pow_succ, Nat.mul_assoc (WN w 0), Nat.mul_comm 2 (2 ^ j), Nat.mul_comm (VN h l / 2 ^ (p + j) % 2)]
      omega
theorem take_eq (h l : Int64) (w : Nat → Int64) {p n : Nat} (hp : p + n ≤ 128) : WN (f_M_take (nI p) (nI n) h l w) 0 = VN h l / 2 ^ p % 2 ^ n ∧ Wok (f_M_take (nI p) (nI n) h l w) 0 := by
  obtain ⟨b1, b2⟩ := WN_be0 (0:Int64) w
  have := take_loop h l p 200 n (f_M_be0 (0:Int64) w) (by omega) hp b2
  rw [b1, show uW (0:Int64) = 0 from rfl, Nat.zero_mul, Nat.zero_add, Nat.mod_eq_of_lt (Nat.lt_of_lt_of_le (Nat.mod_lt _ (Nat.pow_pos (by decide))) (Nat.pow_le_pow_right (by decide) (by omega)))] at this
  exact this

