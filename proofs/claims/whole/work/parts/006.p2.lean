/-! Wide's methods as numbers -/
theorem md_split {a b m n : Nat} (hb : b < m) : (a * m + b) % (m * n) = (a % n) * m + b := by
  have hm : 0 < m := by omega
  rw [Nat.mod_mul, Nat.mul_comm a m, Nat.mul_add_mod, Nat.mod_eq_of_lt hb, Nat.mul_add_div hm, Nat.div_eq_of_lt hb, Nat.add_zero, Nat.mul_comm m, Nat.add_comm]
theorem md_low {a b k n : Nat} (h : k ≤ n) : (a * 2 ^ n + b) % 2 ^ k = b % 2 ^ k := by
  rw [pow_split h, Nat.mul_comm a, Nat.mul_assoc, Nat.mul_add_mod]
theorem nI_lt_lit {k n : Nat} (hk : k < 2 ^ 31) (hn : n < 2 ^ 31) : (nI k < nI n) ↔ k < n := nI_ltI hk hn
theorem VN_keep (h l : Int64) {k : Nat} (hk : k ≤ 128) : VN (f_W_keep (nI k) h l).1 (f_W_keep (nI k) h l).2 = VN h l % 2 ^ k := by
  have hl := uW_lt l
  have hV := VN_lt h l
  unfold f_W_keep
  by_cases c1 : k < 128
  · rw [if_pos (show nI k < (128:Int32) from (nI_lt_lit (by omega) (by decide)).mpr c1)]
    by_cases c2 : k < 64
    · rw [if_pos (show nI k < (64:Int32) from (nI_lt_lit (by omega) (by decide)).mpr c2)]
      show VN (0:Int64) (l &&& f_W_ones (nI k)) = _
      unfold VN
      rw [uW_mask (uW_ones c2), md_low (show k ≤ 64 by omega), show uW (0:Int64) = 0 from rfl]
      omega
    · rw [if_neg (show ¬ nI k < (64:Int32) from fun z => c2 ((nI_lt_lit (by omega) (by decide)).mp z))]
      have e : nI k - (64:Int32) = nI (k - 64) := pk_sub (b := 64) (by omega)
      show VN (h &&& f_W_ones (nI k - (64:Int32))) l = _
      rw [e]
      unfold VN
      rw [uW_mask (uW_ones (show k - 64 < 64 by omega)), pow_split (show 64 ≤ k by omega), md_split hl]
  · rw [if_neg (show ¬ nI k < (128:Int32) from fun z => c1 ((nI_lt_lit (by omega) (by decide)).mp z))]
    have e : k = 128 := by omega
    subst e
    exact (Nat.mod_eq_of_lt hV).symm
theorem uW_bitsAt (h l : Int64) {p c : Nat} (hp : p < 128) (hc : c < 64) : uW (f_W_bitsAt (nI p) (nI c) h l) = VN h l / 2 ^ p % 2 ^ c := by
  have hl := uW_lt l
  unfold f_W_bitsAt
  by_cases c1 : p < 64
  · rw [if_pos (show nI p < (64:Int32) from (nI_lt_lit (by omega) (by decide)).mpr c1)]
    by_cases c2 : p = 0
    · subst c2
      rw [if_pos (show nI 0 = (0:Int32) from rfl)]
      show uW (l &&& f_W_ones (nI c)) = _
      rw [uW_mask (uW_ones hc), Nat.pow_zero, Nat.div_one]
      unfold VN
      rw [md_low (by omega)]
    · rw [if_neg (show ¬ nI p = (0:Int32) from fun z => c2 ((nI_eq (b := 0) (by omega) (by decide)).mp z))]
      have e : (64:Int32) - nI p = nI (64 - p) := pk_sub (a := 64) (by omega)
      show uW ((lushr_ l (nI p) ||| lshl_ h ((64:Int32) - nI p)) &&& f_W_ones (nI c)) = _
      rw [e, uW_mask (uW_ones hc)]
      have hs : 2 ^ 64 = 2 ^ p * 2 ^ (64 - p) := pow_split (by omega)
      have hp0 : 0 < 2 ^ p := Nat.pow_pos (by decide)
      have h1 : uW (lshl_ h (nI (64 - p))) = (uW h % 2 ^ p) * 2 ^ (64 - p) := by
        rw [uW_shl _ (by omega), hs, Nat.mul_mod_mul_right]
      have h2 : uW (lushr_ l (nI p)) = uW l / 2 ^ p := uW_ushr _ c1
      have h3 : uW l / 2 ^ p < 2 ^ (64 - p) := (Nat.div_lt_iff_lt_mul hp0).mpr (by rw [Nat.mul_comm, ← hs]; exact hl)
      rw [uW_orQ h2 h1 h3]
      have h4 : VN h l / 2 ^ p = uW h * 2 ^ (64 - p) + uW l / 2 ^ p := by
        unfold VN
        rw [hs, show uW h * (2 ^ p * 2 ^ (64 - p)) + uW l = 2 ^ p * (uW h * 2 ^ (64 - p)) + uW l by rw [← Nat.mul_assoc, Nat.mul_comm (uW h), Nat.mul_assoc], Nat.mul_add_div hp0]
      rw [h4]
      have h5 : (uW h % 2 ^ p * 2 ^ (64 - p) + uW l / 2 ^ p) % 2 ^ 64 = (uW h * 2 ^ (64 - p) + uW l / 2 ^ p) % 2 ^ 64 := by
        rw [Nat.add_mod, Nat.add_mod (uW h * _)]
        congr 2
        rw [hs, Nat.mul_mod_mul_right, Nat.mul_mod_mul_right, Nat.mod_mod]
      have h6 : ∀ z : Nat, z % 2 ^ 64 % 2 ^ c = z % 2 ^ c := fun z => Nat.mod_mod_of_dvd z (Nat.pow_dvd_pow 2 (by omega))
      rw [← h6 (uW h % 2 ^ p * 2 ^ (64 - p) + uW l / 2 ^ p), h5, h6]
  · rw [if_neg (show ¬ nI p < (64:Int32) from fun z => c1 ((nI_lt_lit (by omega) (by decide)).mp z))]
    have e : nI p - (64:Int32) = nI (p - 64) := pk_sub (b := 64) (by omega)
    show uW (lushr_ h (nI p - (64:Int32)) &&& f_W_ones (nI c)) = _
    rw [e, uW_mask (uW_ones hc), uW_ushr _ (by omega)]
    have h4 : VN h l / 2 ^ p = uW h / 2 ^ (p - 64) := by
      rw [pow_split (show 64 ≤ p by omega), ← Nat.div_div_eq_div_mul]
      congr 1
      unfold VN
      omega
    rw [h4]
theorem VN_or (h l x y : Int64) : VN (h ||| x) (l ||| y) = VN h l ||| VN x y := by
  have hl := uW_lt l
  have hy := uW_lt y
  have h1 : uW l ||| uW y < 2 ^ 64 := Nat.or_lt_two_pow hl hy
  unfold VN
  rw [uW_or0, uW_or0]
  apply Nat.eq_of_testBit_eq
  intro j
  rw [Nat.testBit_or, Nat.mul_comm (uW h), Nat.mul_comm (uW x), Nat.mul_comm (uW h ||| uW x), Nat.testBit_two_pow_mul_add _ h1, Nat.testBit_two_pow_mul_add _ hl, Nat.testBit_two_pow_mul_add _ hy]
  split
  · rw [Nat.testBit_or]
  · rw [Nat.testBit_or]
theorem or_disj {V b p m : Nat} (hz : V / 2 ^ p % 2 ^ m = 0) (hb : b < 2 ^ m) : V ||| b * 2 ^ p = V + b * 2 ^ p := by
  have hp0 : 0 < 2 ^ p := Nat.pow_pos (by decide)
  have hm0 : 0 < 2 ^ m := Nat.pow_pos (by decide)
  obtain ⟨A, hA⟩ : ∃ A, V / 2 ^ p = 2 ^ m * A := ⟨V / 2 ^ p / 2 ^ m, by have := Nat.div_add_mod (V / 2 ^ p) (2 ^ m); omega⟩
  have hB : V % 2 ^ p < 2 ^ p := Nat.mod_lt _ hp0
  have hV : V = 2 ^ (p + m) * A + V % 2 ^ p := by
    have := Nat.div_add_mod V (2 ^ p)
    rw [hA, ← Nat.mul_assoc, ← Nat.pow_add] at this
    exact this.symm
  generalize V % 2 ^ p = B at hV hB
  have hBl : B < 2 ^ (p + m) := Nat.lt_of_lt_of_le hB (Nat.pow_le_pow_right (by decide) (by omega))
  have hbB : 2 ^ p * b + B < 2 ^ (p + m) := by
    rw [Nat.pow_add]
    calc 2 ^ p * b + B < 2 ^ p * b + 2 ^ p := by omega
      _ = 2 ^ p * (b + 1) := by rw [Nat.mul_add, Nat.mul_one]
      _ ≤ 2 ^ p * 2 ^ m := Nat.mul_le_mul_left _ hb
  rw [hV, Nat.mul_comm b, Nat.two_pow_add_eq_or_of_lt hBl, Nat.or_assoc, Nat.or_comm B, ← Nat.two_pow_add_eq_or_of_lt hB, ← Nat.two_pow_add_eq_or_of_lt hbB, ← Nat.two_pow_add_eq_or_of_lt hBl]
  omega
theorem VN_addOr (h l b : Int64) {p : Nat} (hp : p < 128) (hb : uW b * 2 ^ p < 2 ^ 128) : VN (f_W_addBits (nI p) b h l).1 (f_W_addBits (nI p) b h l).2 = VN h l ||| uW b * 2 ^ p := by
  have hbl := uW_lt b
  unfold f_W_addBits
  by_cases c1 : p < 64
  · rw [if_pos (show nI p < (64:Int32) from (nI_lt_lit (by omega) (by decide)).mpr c1)]
    by_cases c2 : p = 0
    · subst c2
      rw [if_pos (show nI 0 ≤ (0:Int32) from by decide)]
      show VN h (l ||| lshl_ b (nI 0)) = _
      have e : VN h (l ||| lshl_ b (nI 0)) = VN (h ||| 0) (l ||| lshl_ b (nI 0)) := by rw [Int64.or_zero]
      have e3 : VN (0:Int64) (lshl_ b (nI 0)) = uW b * 2 ^ 0 := by
        unfold VN
        rw [uW_shl _ (by decide), show uW (0:Int64) = 0 from rfl]
        omega
      rw [e, VN_or, e3]
    · rw [if_neg (show ¬ nI p ≤ (0:Int32) from fun z => c2 (by have := (nI_leI (a := p) (b := 0) (by omega) (by decide)).mp z; omega))]
      have e : (64:Int32) - nI p = nI (64 - p) := pk_sub (a := 64) (by omega)
      show VN (h ||| lushr_ b ((64:Int32) - nI p)) (l ||| lshl_ b (nI p)) = _
      rw [e, VN_or]
      congr 1
      unfold VN
      rw [uW_ushr _ (by omega), uW_shl _ c1]
      have hs : 2 ^ 64 = 2 ^ (64 - p) * 2 ^ p := by rw [← Nat.pow_add]; congr 1; omega
      have h1 : uW b * 2 ^ p % 2 ^ 64 = (uW b % 2 ^ (64 - p)) * 2 ^ p := by rw [hs, Nat.mul_mod_mul_right]
      rw [h1]
      conv => lhs; rw [hs, ← Nat.mul_assoc, ← Nat.add_mul]
      congr 1
      rw [Nat.mul_comm]
      exact Nat.div_add_mod _ _
  · rw [if_neg (show ¬ nI p < (64:Int32) from fun z => c1 ((nI_lt_lit (by omega) (by decide)).mp z))]
    have e : nI p - (64:Int32) = nI (p - 64) := pk_sub (b := 64) (by omega)
    show VN (h ||| lshl_ b (nI p - (64:Int32))) l = _
    have e2 : VN (h ||| lshl_ b (nI p - (64:Int32))) l = VN (h ||| lshl_ b (nI p - (64:Int32))) (l ||| 0) := by rw [Int64.or_zero]
    have hs : 2 ^ p = 2 ^ (p - 64) * 2 ^ 64 := by rw [← Nat.pow_add]; congr 1; omega
    have e3 : VN (lshl_ b (nI (p - 64))) (0:Int64) = uW b * 2 ^ p := by
      unfold VN
      rw [hs, ← Nat.mul_assoc] at hb
      have hb2 : uW b * 2 ^ (p - 64) < 2 ^ 64 := by omega
      rw [uW_shl _ (by omega), Nat.mod_eq_of_lt hb2, show uW (0:Int64) = 0 from rfl, hs, ← Nat.mul_assoc, Nat.add_zero]
    rw [e2, e, VN_or, e3]
theorem VN_add (h l b : Int64) {p m : Nat} (hm : p + m ≤ 128) (hm0 : 0 < m) (hb : uW b < 2 ^ m) (hz : VN h l / 2 ^ p % 2 ^ m = 0) : VN (f_W_addBits (nI p) b h l).1 (f_W_addBits (nI p) b h l).2 = VN h l + uW b * 2 ^ p := by
  have h1 : uW b * 2 ^ p < 2 ^ 128 := by
    calc uW b * 2 ^ p < 2 ^ m * 2 ^ p := Nat.mul_lt_mul_of_pos_right hb (Nat.pow_pos (by decide))
      _ = 2 ^ (m + p) := (Nat.pow_add _ _ _).symm
      _ ≤ 2 ^ 128 := Nat.pow_le_pow_right (by decide) (by omega)
  rw [VN_addOr h l b (by omega) h1, or_disj hz hb]

