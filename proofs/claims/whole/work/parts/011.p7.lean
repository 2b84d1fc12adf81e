/-! digits of 32 bits: the word of a bit, a bit set -/
theorem wd_div {w : Nat → Int64} (h : Wok w 0) : uW (w 0) = WN w 0 % 2 ^ 32 ∧ uW (w 1) = WN w 0 / 2 ^ 32 % 2 ^ 32 ∧ uW (w 2) = WN w 0 / 2 ^ 64 % 2 ^ 32 ∧ uW (w 3) = WN w 0 / 2 ^ 96 % 2 ^ 32 := by
  obtain ⟨a0, a1, a2, a3⟩ := h
  simp only [Nat.zero_add] at a0 a1 a2 a3
  unfold WN
  simp only [Nat.zero_add]
  generalize uW (w 0) = x0 at *
  generalize uW (w 1) = x1 at *
  generalize uW (w 2) = x2 at *
  generalize uW (w 3) = x3 at *
  omega
theorem wd_at {w : Nat → Int64} (h : Wok w 0) {i : Nat} (hi : i < 4) : uW (w i) = WN w 0 / 2 ^ (32 * i) % 2 ^ 32 ∧ uW (w i) < 2 ^ 32 := by
  obtain ⟨b0, b1, b2, b3⟩ := wd_div h
  have hl : uW (w i) = WN w 0 / 2 ^ (32 * i) % 2 ^ 32 := by
    match i, hi with
    | 0, _ => rw [b0, Nat.mul_zero, Nat.pow_zero, Nat.div_one]
    | 1, _ => exact b1
    | 2, _ => exact b2
    | 3, _ => exact b3
  exact ⟨hl, by rw [hl]; exact Nat.mod_lt _ (by decide)⟩
theorem bit_word (V k : Nat) : V / 2 ^ (32 * (k / 32)) % 2 ^ 32 / 2 ^ (k % 32) % 2 = V / 2 ^ k % 2 := by
  have e : 2 ^ 32 = 2 ^ (k % 32) * 2 ^ (32 - k % 32) := pow_split (by omega)
  have e2 : 2 ^ (32 - k % 32) = 2 * 2 ^ (31 - k % 32) := by rw [show 32 - k % 32 = (31 - k % 32) + 1 from by omega, Nat.pow_succ, Nat.mul_comm]
  have e3 : 2 ^ k = 2 ^ (32 * (k / 32)) * 2 ^ (k % 32) := by rw [← Nat.pow_add]; congr 1; omega
  rw [e3, ← Nat.div_div_eq_div_mul]
  generalize V / 2 ^ (32 * (k / 32)) = U
  rw [e, Nat.mod_mul_right_div_self, e2, Nat.mod_mul_right_mod]
theorem bitOf_eq {w : Nat → Int64} (h : Wok w 0) {k : Nat} (hk : k < 128) : f_M_bitOf (nI k) w = nI (WN w 0 / 2 ^ k % 2) := by
  unfold f_M_bitOf
  have e1 : nI k / (32:Int32) = nI (k / 32) := nI_div (a := k) (b := 32) (by omega) (by omega)
  have e2 : nI k - nI k / (32:Int32) * (32:Int32) = nI (k % 32) := nI_rem (a := k) (b := 32) (by omega) (by omega)
  rw [e2, e1, Int32.zero_add, nI_clamp (by omega)]
  obtain ⟨c1, c2⟩ := wd_at h (i := k / 32) (by omega)
  have s := uW_sshr (x := w (k / 32)) (by omega) (k := k % 32) (by omega)
  rw [c1, ] at s
  have m := uW_mask (x := lshr_ (w (k / 32)) (nI (k % 32))) (y := (1:Int64)) (k := 1) rfl
  rw [s, Nat.pow_one, bit_word] at m
  exact (congrArg Int64.toInt32 (lN_uW _)).symm.trans ((l2i_lN _).trans (congrArg nI m))
theorem ok_bitOf {k : Nat} (hk : k < 128) : ok_M_bitOf (nI k) := by
  unfold ok_M_bitOf
  have e1 : nI k / (32:Int32) = nI (k / 32) := nI_div (a := k) (b := 32) (by omega) (by omega)
  rw [e1, Int32.zero_add]
  exact nI_in (by omega) (by omega)
theorem layN_loop {p n : Nat} (hn : n ≤ 128) (hp : p + n ≤ 128) {V0 : Nat} (hz : V0 / 2 ^ p % 2 ^ n = 0) {w : Nat → Int64} (hw : Wok w 0) : ∀ (fuel j : Nat) (h l : Int64), j ≤ n → n - j < fuel → VN h l = V0 + WN w 0 % 2 ^ j * 2 ^ p → VN (lf_M_layNumber fuel (nI p) (nI n) w (nI j) h l).1 (lf_M_layNumber fuel (nI p) (nI n) w (nI j) h l).2 = V0 + WN w 0 % 2 ^ n * 2 ^ p := by
  intro fuel
  induction fuel with
  | zero => intro j h l _ q; omega
  | succ f ih =>
    intro j h l hj hf he
    unfold lf_M_layNumber
    by_cases c : n = j
    · subst c
      rw [if_pos ((nI_leI (by omega) (by omega)).mpr (Nat.le_refl _))]
      exact he
    · rw [if_neg (fun q => c (Nat.le_antisymm ((nI_leI (by omega) (by omega)).mp q) hj))]
      rw [nI_1, nI_add, bitOf_eq hw (by omega)]
      refine ih (j + 1) _ _ (by omega) (by omega) ?_
      have hb : WN w 0 / 2 ^ j % 2 < 2 := Nat.mod_lt _ (by decide)
      rw [VN_set h l (k := p + j) (b := WN w 0 / 2 ^ j % 2) (by omega) hb (by rw [he]; exact room_bit hz (by omega) (Nat.mod_lt _ (Nat.two_pow_pos j)))]
      rw [he, Nat.pow_succ, Nat.mod_mul, Nat.add_mul, Nat.add_assoc]
      congr 2
      rw [Nat.pow_add, Nat.mul_comm (2 ^ j) (WN w 0 / 2 ^ j % 2), Nat.mul_assoc, Nat.mul_comm (2 ^ p)]
theorem VN_layNumber (h l : Int64) {w : Nat → Int64} (hw : Wok w 0) {p n : Nat} (hp : p + n ≤ 128) (hz : VN h l / 2 ^ p % 2 ^ n = 0) : VN (f_M_layNumber (nI p) (nI n) h l w).1 (f_M_layNumber (nI p) (nI n) h l w).2 = VN h l + WN w 0 % 2 ^ n * 2 ^ p :=
  layN_loop (by omega) hp hz hw 200 0 h l (by omega) (by omega) (by rw [Nat.pow_zero, Nat.mod_one, Nat.zero_mul, Nat.add_zero])
theorem lk_layN {n : Nat} (hn : n ≤ 128) : ∀ (fuel j : Nat), j ≤ n → n - j < fuel → lk_M_layNumber fuel (nI n) (nI j)
  | 0, j, _, h => by omega
  | f + 1, j, hj, hf => by
    unfold lk_M_layNumber
    refine ⟨fun _ => trivial, fun c => ?_⟩
    rw [nI_1]
    have : j ≠ n := fun e => c ((nI_leI (by omega) (by omega)).mpr (by omega))
    exact ⟨ok_bitOf (by omega), lk_layN hn f (j + 1) (by omega) (by omega)⟩
theorem ok_layN {n : Nat} (hn : n ≤ 128) : ok_M_layNumber (nI n) := lk_layN hn 200 0 (by omega) (by omega)
/-- word[k / 32] |= 1 << k % 32, where the bit is 0 -/
theorem wset {w : Nat → Int64} (h : Wok w 0) {k : Nat} (hk : k < 128) (hz : WN w 0 / 2 ^ k % 2 = 0) {W : Nat → Int64} (hW : W = vp_updL w (Int32.toNatClampNeg (nI k / (32:Int32))) ((w (Int32.toNatClampNeg (nI k / (32:Int32)))) ||| (lshl_ (1:Int64) (nI k - nI k / (32:Int32) * (32:Int32))))) : WN W 0 = WN w 0 + 2 ^ k ∧ Wok W 0 := by
  have e1 : nI k / (32:Int32) = nI (k / 32) := nI_div (a := k) (b := 32) (by omega) (by omega)
  have e2 : nI k - nI k / (32:Int32) * (32:Int32) = nI (k % 32) := nI_rem (a := k) (b := 32) (by omega) (by omega)
  rw [e2, e1, nI_clamp (by omega)] at hW
  obtain ⟨c1, c2⟩ := wd_at h (i := k / 32) (by omega)
  have hb := bit_word (WN w 0) k
  rw [hz, ← c1] at hb
  have hp : 2 ^ (k % 32) < 2 ^ 32 := Nat.pow_lt_pow_right (by decide) (by omega)
  have s : uW (lshl_ (1:Int64) (nI (k % 32))) = 2 ^ (k % 32) := by
    rw [uW_shl (1:Int64) (k := k % 32) (by omega), uW_one, Nat.one_mul]
    exact Nat.mod_eq_of_lt (Nat.lt_trans hp (by decide))
  have hv : uW (w (k / 32) ||| lshl_ (1:Int64) (nI (k % 32))) = uW (w (k / 32)) + 2 ^ (k % 32) := by
    rw [uW_or0, s]
    have := or_disj (V := uW (w (k / 32))) (b := 1) (p := k % 32) (m := 1) (by rw [Nat.pow_one]; exact hb) (by decide)
    rw [Nat.one_mul] at this
    exact this
  have hlt : uW (w (k / 32)) + 2 ^ (k % 32) < 2 ^ 32 := by
    rw [← hv, uW_or0, s]
    exact Nat.or_lt_two_pow c2 hp
  have e3 : 2 ^ k = 2 ^ (32 * (k / 32)) * 2 ^ (k % 32) := by rw [← Nat.pow_add]; congr 1; omega
  have hWj : ∀ j, uW (W j) = if j = k / 32 then uW (w (k / 32)) + 2 ^ (k % 32) else uW (w j) := by
    intro j
    rw [hW, updL_eq]
    by_cases c : j = k / 32
    · rw [if_pos c, if_pos c, hv]
    · rw [if_neg c, if_neg c]
  have hi : k / 32 < 4 := by omega
  obtain ⟨a0, a1, a2, a3⟩ := h
  unfold WN Wok
  rw [hWj, hWj, hWj, hWj, e3]
  generalize 2 ^ (k % 32) = P at *
  clear hWj hv s hb hz hW c1 e1 e2 hp e3
  generalize k / 32 = i at *
  simp only [Nat.zero_add] at *
  match i, hi with
  | 0, _ => rw [if_pos rfl, if_neg (by decide), if_neg (by decide), if_neg (by decide)]; constructor
            · omega
            · exact ⟨by omega, by omega, by omega, by omega⟩
  | 1, _ => rw [if_pos rfl, if_neg (by decide), if_neg (by decide), if_neg (by decide)]; constructor
            · omega
            · exact ⟨by omega, by omega, by omega, by omega⟩
  | 2, _ => rw [if_pos rfl, if_neg (by decide), if_neg (by decide), if_neg (by decide)]; constructor
            · omega
            · exact ⟨by omega, by omega, by omega, by omega⟩
  | 3, _ => rw [if_pos rfl, if_neg (by decide), if_neg (by decide), if_neg (by decide)]; constructor
            · omega
            · exact ⟨by omega, by omega, by omega, by omega⟩

