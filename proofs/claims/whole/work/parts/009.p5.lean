/-! the reference lays bits, compares, multiplies, divides -/
theorem VN_setOr (h l : Int64) {k b : Nat} (hk : k < 128) (hb : b < 2) : VN (f_M_set (nI k) (nI b) h l).1 (f_M_set (nI k) (nI b) h l).2 = VN h l ||| b * 2 ^ k := by
  have eb : uW (Int32.toInt64 (nI b)) = b := uW_i2l (by omega)
  unfold f_M_set
  by_cases c1 : k < 64
  · rw [if_neg (show ¬ (64:Int32) ≤ nI k from fun z => by have := (nI_leI (a := 64) (b := k) (by decide) (by omega)).mp z; omega)]
    show VN h (l ||| lshl_ (Int32.toInt64 (nI b)) (nI k)) = _
    have e : VN h (l ||| lshl_ (Int32.toInt64 (nI b)) (nI k)) = VN (h ||| 0) (l ||| lshl_ (Int32.toInt64 (nI b)) (nI k)) := by rw [Int64.or_zero]
    have e3 : VN (0:Int64) (lshl_ (Int32.toInt64 (nI b)) (nI k)) = b * 2 ^ k := by
      unfold VN
      have h1 : b * 2 ^ k < 2 ^ 64 := Nat.lt_of_le_of_lt (Nat.mul_le_mul_right _ (show b ≤ 1 by omega)) (by rw [Nat.one_mul]; exact Nat.pow_lt_pow_right (by decide) c1)
      rw [uW_shl _ c1, eb, show uW (0:Int64) = 0 from rfl, Nat.zero_mul, Nat.zero_add, Nat.mod_eq_of_lt h1]
    rw [e, VN_or, e3]
  · rw [if_pos (show (64:Int32) ≤ nI k from (nI_leI (a := 64) (b := k) (by decide) (by omega)).mpr (by omega)), show nI k - (64:Int32) = nI (k - 64) from pk_sub (b := 64) (by omega)]
    show VN (h ||| lshl_ (Int32.toInt64 (nI b)) (nI (k - 64))) l = _
    have e : VN (h ||| lshl_ (Int32.toInt64 (nI b)) (nI (k - 64))) l = VN (h ||| lshl_ (Int32.toInt64 (nI b)) (nI (k - 64))) (l ||| 0) := by rw [Int64.or_zero]
    have hs : 2 ^ k = 2 ^ (k - 64) * 2 ^ 64 := by rw [← Nat.pow_add]; congr 1; omega
    have e3 : VN (lshl_ (Int32.toInt64 (nI b)) (nI (k - 64))) (0:Int64) = b * 2 ^ k := by
      unfold VN
      have h1 : b * 2 ^ (k - 64) < 2 ^ 64 := Nat.lt_of_le_of_lt (Nat.mul_le_mul_right _ (show b ≤ 1 by omega)) (by rw [Nat.one_mul]; exact Nat.pow_lt_pow_right (by decide) (by omega))
      rw [uW_shl _ (by omega), eb, show uW (0:Int64) = 0 from rfl, Nat.add_zero, Nat.mod_eq_of_lt h1, hs, Nat.mul_assoc]
    rw [e, VN_or, e3]
theorem VN_set (h l : Int64) {k b : Nat} (hk : k < 128) (hb : b < 2) (hz : VN h l / 2 ^ k % 2 = 0) : VN (f_M_set (nI k) (nI b) h l).1 (f_M_set (nI k) (nI b) h l).2 = VN h l + b * 2 ^ k := by
  rw [VN_setOr h l hk hb]
  exact or_disj (m := 1) hz hb
/-- a number whose n bits from p on are 0 has room for c there; the bits above c are still 0 -/
theorem room_bit {V p n j c : Nat} (hz : V / 2 ^ p % 2 ^ n = 0) (hj : j < n) (hc : c < 2 ^ j) : (V + c * 2 ^ p) / 2 ^ (p + j) % 2 = 0 := by
  have hp0 : 0 < 2 ^ p := Nat.pow_pos (by decide)
  have e1 : (V + c * 2 ^ p) / 2 ^ p = V / 2 ^ p + c := Nat.add_mul_div_right _ _ hp0
  rw [Nat.pow_add, ← Nat.div_div_eq_div_mul, e1]
  obtain ⟨A, hA⟩ : ∃ A, V / 2 ^ p = 2 ^ n * A := ⟨V / 2 ^ p / 2 ^ n, by have := Nat.div_add_mod (V / 2 ^ p) (2 ^ n); omega⟩
  have hj0 : 0 < 2 ^ j := Nat.pow_pos (by decide)
  have e2 : 2 ^ n = 2 ^ j * (2 * 2 ^ (n - j - 1)) := by
    rw [← Nat.pow_succ', ← Nat.pow_add]; congr 1; omega
  rw [hA, e2, Nat.mul_assoc, Nat.mul_add_div hj0, Nat.div_eq_of_lt hc, Nat.add_zero, Nat.mul_assoc]
  exact Nat.mul_mod_right _ _
theorem sh_31 : ∀ j, j < 31 → ((nI j &&& 31).toBitVec.smod 32).toNat = j := by decide +kernel
theorem i_bit {v j : Nat} (hv : v < 2 ^ 31) (hj : j < 31) : (nI v >>> (nI j &&& 31)) &&& (1:Int32) = nI (v / 2 ^ j % 2) := by
  rw [pk_shrN hv _ j (sh_31 j hj), pk_andN (k := 1) (Nat.lt_of_le_of_lt (Nat.div_le_self _ _) (by omega)) rfl]
theorem lay_loop {v p n : Nat} (hv : v < 2 ^ 31) (hn : n ≤ 31) (hp : p + n ≤ 128) {V0 : Nat} (hz : V0 / 2 ^ p % 2 ^ n = 0) : ∀ (fuel j : Nat) (h l : Int64), j ≤ n → n - j < fuel → VN h l = V0 + v % 2 ^ j * 2 ^ p → VN (lf_M_lay fuel (nI v) (nI p) (nI n) (nI j) h l).1 (lf_M_lay fuel (nI v) (nI p) (nI n) (nI j) h l).2 = V0 + v % 2 ^ n * 2 ^ p := by
  intro fuel
  induction fuel with
  | zero => intro j h l _ hf; omega
  | succ f ih =>
    intro j h l hj hf hV
    by_cases c : j = n
    · have e : lf_M_lay (f + 1) (nI v) (nI p) (nI n) (nI j) h l = (h, l) := if_pos ((nI_leI (by omega) (by omega)).mpr (by omega))
      rw [e, ← c]
      exact hV
    · have e : lf_M_lay (f + 1) (nI v) (nI p) (nI n) (nI j) h l = lf_M_lay f (nI v) (nI p) (nI n) (nI (j + 1)) (f_M_set (nI (p + j)) (nI (v / 2 ^ j % 2)) h l).1 (f_M_set (nI (p + j)) (nI (v / 2 ^ j % 2)) h l).2 := by
        have e0 : lf_M_lay (f + 1) (nI v) (nI p) (nI n) (nI j) h l = lf_M_lay f (nI v) (nI p) (nI n) (nI j + (1:Int32)) (f_M_set (nI p + nI j) ((nI v >>> (nI j &&& 31)) &&& (1:Int32)) h l).1 (f_M_set (nI p + nI j) ((nI v >>> (nI j &&& 31)) &&& (1:Int32)) h l).2 := if_neg (fun z => by have := (nI_leI (a := n) (b := j) (by omega) (by omega)).mp z; omega)
        rw [e0, i_bit hv (by omega), nI_add, nI_1]
      rw [e]
      have hb : v / 2 ^ j % 2 < 2 := Nat.mod_lt _ (by decide)
      have hz2 : VN h l / 2 ^ (p + j) % 2 = 0 := by
        rw [hV]
        exact room_bit hz (by omega) (Nat.mod_lt _ (Nat.pow_pos (by decide)))
      refine ih (j + 1) _ _ (by omega) (by omega) ?_
      rw [VN_set h l (by omega) hb hz2, hV, Nat.mod_pow_succ, Nat.add_mul, Nat.add_assoc]
      congr 2
      rw [Nat.pow_add, Nat.mul_comm (2 ^ j) (v / 2 ^ j % 2), Nat.mul_assoc, Nat.mul_comm (2 ^ p)]
theorem VN_lay (h l : Int64) {v p n : Nat} (hv : v < 2 ^ 31) (hn : n ≤ 31) (hp : p + n ≤ 128) (hz : VN h l / 2 ^ p % 2 ^ n = 0) : VN (f_M_lay (nI v) (nI p) (nI n) h l).1 (f_M_lay (nI v) (nI p) (nI n) h l).2 = VN h l + v % 2 ^ n * 2 ^ p :=
  lay_loop hv hn hp hz 200 0 h l (by omega) (by omega) (by rw [Nat.pow_zero, Nat.mod_one, Nat.zero_mul, Nat.add_zero])
theorem ok_up {n fuel : Nat} (hn : n < 2 ^ 31) : ∀ j, j ≤ n → n - j < fuel → lk_M_lay fuel (nI n) (nI j) := by
  induction fuel with
  | zero => intro j _ h; omega
  | succ f ih =>
    intro j hj hf
    unfold lk_M_lay
    refine ⟨fun _ => trivial, fun c => ?_⟩
    rw [nI_1]
    have : j ≠ n := fun e => c ((nI_leI (by omega) (by omega)).mpr (by omega))
    exact ih (j + 1) (by omega) (by omega)
theorem ok_lay {n : Nat} (hn : n < 200) : ok_M_lay (nI n) := ok_up (by omega) 0 (by omega) (by omega)
theorem shr_s : ∀ k, k < 64 → (((nI k).toInt64 &&& 63).toBitVec.smod 64).toNat = k := sh_cs
theorem uW_sshr {x : Int64} (hx : uW x < 2 ^ 63) {k : Nat} (hk : k < 64) : uW (lshr_ x (nI k)) = uW x / 2 ^ k := by
  unfold lshr_
  have hi : x.toInt = (uW x : Int) := by rw [uW_int, if_pos (by omega)]
  have h1 : (x >>> ((nI k).toInt64 &&& 63)).toInt = x.toInt >>> k := by
    show (x.toBitVec.sshiftRight (((nI k).toInt64 &&& 63).toBitVec.smod 64).toNat).toInt = x.toBitVec.toInt >>> k
    rw [sh_cs k hk, BitVec.toInt_sshiftRight]
  rw [hi, Int.shiftRight_eq_div_pow] at h1
  have h2 := uW_int (x >>> ((nI k).toInt64 &&& 63))
  have h3 : (uW x : Int) / ((2 ^ k : Nat) : Int) = ((uW x / 2 ^ k : Nat) : Int) := (Int.natCast_ediv _ _).symm
  have h4 : uW x / 2 ^ k ≤ uW x := Nat.div_le_self _ _
  have h5 := uW_lt (x >>> ((nI k).toInt64 &&& 63))
  rw [h1] at h2
  rw [h3] at h2
  generalize uW x / 2 ^ k = q at *
  split at h2 <;> omega

