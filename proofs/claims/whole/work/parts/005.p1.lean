/-! numbers: an Int64 as an unsigned number (uW), two of them as one of 128 bits (VN) -/
def uW (x : Int64) : Nat := x.toUInt64.toNat
theorem uW_lt (x : Int64) : uW x < 2 ^ 64 := x.toUInt64.toNat_lt
theorem uW_inj {x y : Int64} (h : uW x = uW y) : x = y := congrArg UInt64.toInt64 (UInt64.toNat_inj.mp h)
theorem uW_add (x y : Int64) : uW (x + y) = (uW x + uW y) % 2 ^ 64 := by
  show (x.toUInt64 + y.toUInt64).toNat = _
  exact UInt64.toNat_add _ _
theorem uW_mul (x y : Int64) : uW (x * y) = (uW x * uW y) % 2 ^ 64 := by
  show (x.toUInt64 * y.toUInt64).toNat = _
  exact UInt64.toNat_mul _ _
theorem uW_and (x y : Int64) : uW (x &&& y) = uW x &&& uW y := UInt64.toNat_and _ _
theorem uW_or0 (x y : Int64) : uW (x ||| y) = uW x ||| uW y := UInt64.toNat_or _ _
theorem uW_int (x : Int64) : x.toInt = if 2 * uW x < 2 ^ 64 then (uW x : Int) else (uW x : Int) - (2 ^ 64 : Nat) := BitVec.toInt_eq_toNat_cond _
theorem uW_lN {n : Nat} (h : n < 2 ^ 64) : uW (lN n) = n := by
  show (BitVec.ofNat 64 n).toNat = n
  rw [BitVec.toNat_ofNat, Nat.mod_eq_of_lt h]
theorem lN_uW (x : Int64) : lN (uW x) = x := uW_inj (uW_lN (uW_lt x))
theorem uW_shr0 (x : Int64) (s : UInt64) : uW (x.toUInt64 >>> s).toInt64 = uW x / 2 ^ (s.toNat % 64) := by
  show (x.toUInt64 >>> s).toNat = _
  rw [UInt64.toNat_shiftRight, Nat.shiftRight_eq_div_pow]
  rfl
theorem sh_cu : ∀ k, k < 64 → ((nI k).toInt64.toUInt64 &&& Int64.toUInt64 63).toNat % 64 = k := by decide +kernel
theorem sh_cs : ∀ k, k < 64 → (((nI k).toInt64 &&& 63).toBitVec.smod 64).toNat = k := by decide +kernel
theorem uW_ushr (x : Int64) {k : Nat} (hk : k < 64) : uW (lushr_ x (nI k)) = uW x / 2 ^ k := by
  unfold lushr_
  rw [uW_shr0, sh_cu k hk]
theorem uW_shl (x : Int64) {k : Nat} (hk : k < 64) : uW (lshl_ x (nI k)) = uW x * 2 ^ k % 2 ^ 64 := by
  unfold lshl_
  show (x.toBitVec <<< (((nI k).toInt64 &&& 63).toBitVec.smod 64).toNat).toNat = _
  rw [sh_cs k hk, BitVec.toNat_shiftLeft, Nat.shiftLeft_eq]
  rfl
theorem uW_orP {x y : Int64} {a b k : Nat} (hx : uW x = a * 2 ^ k) (hy : uW y = b) (hb : b < 2 ^ k) : uW (x ||| y) = a * 2 ^ k + b := by
  rw [uW_or0, hx, hy, Nat.mul_comm a, ← Nat.two_pow_add_eq_or_of_lt hb]
theorem uW_orQ {x y : Int64} {a b k : Nat} (hx : uW x = b) (hy : uW y = a * 2 ^ k) (hb : b < 2 ^ k) : uW (x ||| y) = a * 2 ^ k + b := by
  rw [uW_or0, hx, hy, Nat.or_comm, Nat.mul_comm a, ← Nat.two_pow_add_eq_or_of_lt hb]
theorem uW_mask {x y : Int64} {k : Nat} (hy : uW y = 2 ^ k - 1) : uW (x &&& y) = uW x % 2 ^ k := by
  rw [uW_and, hy, Nat.and_two_pow_sub_one_eq_mod]
theorem uW_low (x : Int64) : uW (x &&& (4294967295:Int64)) = uW x % 2 ^ 32 := uW_mask (k := 32) rfl
theorem uW_ones {k : Nat} (hk : k < 64) : uW (f_W_ones (nI k)) = 2 ^ k - 1 := by
  have h1 : uW (lshl_ (1:Int64) (nI k)) = 2 ^ k := by
    rw [uW_shl _ hk, show uW (1:Int64) = 1 from rfl, Nat.one_mul, Nat.mod_eq_of_lt (Nat.pow_lt_pow_right (by decide) hk)]
  have h2 := uW_add (f_W_ones (nI k)) (1:Int64)
  have h3 : f_W_ones (nI k) + (1:Int64) = lshl_ (1:Int64) (nI k) := Int64.sub_add_cancel _ _
  rw [h3, h1, show uW (1:Int64) = 1 from rfl] at h2
  have h4 := uW_lt (f_W_ones (nI k))
  have h5 : 2 ^ k < 2 ^ 64 := Nat.pow_lt_pow_right (by decide) hk
  have h6 : 0 < 2 ^ k := Nat.pow_pos (by decide)
  omega
def VN (h l : Int64) : Nat := uW h * 2 ^ 64 + uW l
theorem VN_lt (h l : Int64) : VN h l < 2 ^ 128 := by
  have := uW_lt h; have := uW_lt l
  unfold VN; omega
theorem VN_inj {h l h' l' : Int64} (e : VN h l = VN h' l') : h = h' ∧ l = l' := by
  have := uW_lt l; have := uW_lt l'
  unfold VN at e
  exact ⟨uW_inj (by omega), uW_inj (by omega)⟩
theorem pow_split {a b : Nat} (h : a ≤ b) : 2 ^ b = 2 ^ a * 2 ^ (b - a) := by rw [← Nat.pow_add]; congr 1; omega
theorem lg0 (x y : Int64) : lg_cmp x y = 0 ↔ x = y := by
  unfold lg_cmp
  constructor
  · intro h
    split at h
    · exact absurd h (by decide)
    · split at h
      · assumption
      · exact absurd h (by decide)
  · intro h
    subst h
    simp

