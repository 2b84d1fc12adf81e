/-! small arithmetic of Int32 -/
theorem nI_sub {a b : Nat} (h : b ≤ a) : nI a - nI b = nI (a - b) := by
  have e : a = (a - b) + b := by omega
  conv => lhs; rw [e, ← nI_add]
  rw [Int32.add_sub_cancel]
theorem nI_mul (a b : Nat) : nI a * nI b = nI (a * b) := (Int32.ofNat_mul a b).symm
theorem nI_div {a b : Nat} (ha : a < 2 ^ 31) (hb : b < 2 ^ 31) : nI a / nI b = nI (a / b) := by
  have h3 : a / b ≤ a := Nat.div_le_self _ _
  apply Int32.toInt_inj.mp
  rw [Int32.toInt_div, nI_toInt ha, nI_toInt hb, nI_toInt (by omega), show (a:Int).tdiv (b:Int) = ((a / b : Nat) : Int) from rfl]
  generalize a / b = q at *
  apply Int.bmod_eq_of_le <;> omega
theorem nI_rem {a b : Nat} (ha : a < 2 ^ 31) (hb : b < 2 ^ 31) : nI a - nI a / nI b * nI b = nI (a % b) := by
  rw [nI_div ha hb, nI_mul, nI_sub (Nat.div_mul_le_self a b)]
  congr 1
  have := Nat.div_add_mod a b
  rw [Nat.mul_comm] at this
  omega
theorem nI_pow : ∀ k, k < 31 → (1:Int32) <<< (nI k &&& 31) = nI (2 ^ k) := by decide +kernel
theorem i_shr {v j : Nat} (hv : v < 2 ^ 31) (hj : j < 31) : (nI v >>> (nI j &&& 31)) = nI (v / 2 ^ j) := by
  have h3 : v / 2 ^ j ≤ v := Nat.div_le_self _ _
  apply Int32.toInt_inj.mp
  show ((nI v).toBitVec.sshiftRight ((nI j &&& 31).toBitVec.smod 32).toNat).toInt = _
  rw [sh_31 j hj, BitVec.toInt_sshiftRight]
  rw [show (nI v).toBitVec.toInt = (nI v).toInt from rfl, nI_toInt hv, nI_toInt (by omega), Int.shiftRight_eq_div_pow]
  exact (Int.natCast_ediv _ _).symm
/-! the reference's power, comparison, zero -/
theorem power_loop {r : Nat} (hr : r < 2 ^ 31) {n : Nat} (hn : n < 2 ^ 31) (hb : r ^ n < 2 ^ 128) (h1 : 1 ≤ r) (v : Nat → Int64) : ∀ (fuel j : Nat) (w : Nat → Int64), j ≤ n → n - j < fuel → WN w 4 = r ^ j → Wok w 4 → (∀ q < 4, w q = v q) → WN (lf_M_power1 fuel (nI r) (nI n) (nI j) w) 4 = r ^ n ∧ Wok (lf_M_power1 fuel (nI r) (nI n) (nI j) w) 4 ∧ ∀ q < 4, lf_M_power1 fuel (nI r) (nI n) (nI j) w q = v q
  | 0, j, w, _, h, _, _, _ => by omega
  | f + 1, j, w, hj, hf, he, hw, hk => by
    unfold lf_M_power1
    by_cases c : n = j
    · subst c
      rw [if_pos ((nI_leI hn hn).mpr (Nat.le_refl _))]
      exact ⟨he, hw, hk⟩
    · rw [if_neg (fun q => c (Nat.le_antisymm ((nI_leI hn (by omega)).mp q) hj))]
      obtain ⟨t1, t2⟩ := WN_times1 hw (f := r) (m := 0) hr (by omega)
      rw [nI_1]
      refine power_loop hr hn hb h1 v f (j + 1) _ (by omega) (by omega) ?_ t2 (fun q hq => by rw [show f_M_times1 (nI r) (0:Int32) w = f_M_times1 (nI r) (nI 0) w from rfl, times1_keeps _ _ _ _ hq, hk q hq])
      rw [show f_M_times1 (nI r) (0:Int32) w = f_M_times1 (nI r) (nI 0) w from rfl, t1, he, Nat.add_zero, ← Nat.pow_succ, Nat.mod_eq_of_lt]
      exact Nat.lt_of_le_of_lt (Nat.pow_le_pow_right h1 (by omega)) hb
theorem uW_one : uW (1:Int64) = 1 := rfl
theorem power_eq {r n : Nat} (hr : r < 2 ^ 31) (hn : n < 200) (hb : r ^ n < 2 ^ 128) (h1 : 1 ≤ r) (w : Nat → Int64) : WN (f_M_power1 (nI r) (nI n) w) 4 = r ^ n ∧ Wok (f_M_power1 (nI r) (nI n) w) 4 ∧ ∀ q < 4, f_M_power1 (nI r) (nI n) w q = w q := by
  unfold f_M_power1
  obtain ⟨a, b⟩ := WN_be1 (1:Int64) w
  exact power_loop hr (by omega) hb h1 w 200 0 _ (by omega) (by omega) (by rw [a, uW_one, Nat.pow_zero]) b (fun q hq => be1_keeps _ _ _ hq)
theorem lk_power {n : Nat} (hn : n < 2 ^ 31) : ∀ (fuel j : Nat), j ≤ n → n - j < fuel → lk_M_power1 fuel (nI n) (nI j)
  | 0, j, _, h => by omega
  | f + 1, j, hj, hf => by
    unfold lk_M_power1
    refine ⟨fun _ => trivial, fun c => ?_⟩
    rw [nI_1]
    have : j ≠ n := fun e => c ((nI_leI (by omega) (by omega)).mpr (by omega))
    exact lk_power hn f (j + 1) (by omega) (by omega)
theorem ok_power {n : Nat} (hn : n < 200) : ok_M_power1 (nI n) := lk_power (by omega) 200 0 (by omega) (by omega)
theorem lk_take : ∀ (fuel j : Nat), j < fuel → j < 2 ^ 31 → lk_M_take fuel (nI j - (1:Int32))
  | 0, j, h, _ => by omega
  | f + 1, j, h, hj => by
    unfold lk_M_take
    refine ⟨fun _ => trivial, fun c => ?_⟩
    match j, h, hj, c with
    | 0, _, _, c => exact absurd (by decide +kernel : nI 0 - (1:Int32) < 0) c
    | k + 1, h, hj, c => rw [nI_pred, nI_dec]; exact lk_take f k (by omega) (by omega)
theorem ok_take {n : Nat} (h : n < 200) : ok_M_take (nI n) := lk_take 200 n h (by omega)
theorem lg_ge {x y : Int64} (hx : uW x < 2 ^ 32) (hy : uW y < 2 ^ 32) : (0:Int32) ≤ lg_cmp x y ↔ uW y ≤ uW x := by
  have ex : x.toInt = (uW x : Int) := by rw [uW_int, if_pos (by omega)]
  have ey : y.toInt = (uW y : Int) := by rw [uW_int, if_pos (by omega)]
  have hl : x > y ↔ uW y < uW x := by
    show y < x ↔ _
    rw [Int64.lt_iff_toInt_lt, ex, ey]; omega
  unfold lg_cmp
  by_cases c : x > y
  · rw [if_pos c]; have := hl.mp c
    exact ⟨fun _ => by omega, fun _ => by decide⟩
  · rw [if_neg c]; have h1 : ¬ uW y < uW x := fun q => c (hl.mpr q)
    by_cases c2 : x = y
    · rw [if_pos c2]
      exact ⟨fun _ => by rw [c2]; exact Nat.le_refl _, fun _ => by decide⟩
    · rw [if_neg c2]
      have h2 : uW x ≠ uW y := fun q => c2 (uW_inj q)
      exact ⟨fun q => absurd q (by decide), fun q => by omega⟩
theorem isBelow_iff {w : Nat → Int64} (h0 : Wok w 0) (h4 : Wok w 4) : f_M_isBelow w = decide (WN w 0 < WN w 4) := by
  obtain ⟨a0, a1, a2, a3⟩ := h0
  obtain ⟨b0, b1, b2, b3⟩ := h4
  simp only [Nat.zero_add, Nat.reduceAdd] at a0 a1 a2 a3 b0 b1 b2 b3
  unfold f_M_isBelow WN
  simp only [Nat.zero_add, Nat.reduceAdd, lg0, lg_ge a0 b0, lg_ge a1 b1, lg_ge a2 b2, lg_ge a3 b3]
  have i3 : w 3 = w 7 ↔ uW (w 3) = uW (w 7) := ⟨fun h => by rw [h], uW_inj⟩
  have i2 : w 2 = w 6 ↔ uW (w 2) = uW (w 6) := ⟨fun h => by rw [h], uW_inj⟩
  have i1 : w 1 = w 5 ↔ uW (w 1) = uW (w 5) := ⟨fun h => by rw [h], uW_inj⟩
  have i0 : w 0 = w 4 ↔ uW (w 0) = uW (w 4) := ⟨fun h => by rw [h], uW_inj⟩
  simp only [i3, i2, i1, i0]
  generalize uW (w 0) = x0 at *
  generalize uW (w 1) = x1 at *
  generalize uW (w 2) = x2 at *
  generalize uW (w 3) = x3 at *
  generalize uW (w 4) = x4 at *
  generalize uW (w 5) = x5 at *
  generalize uW (w 6) = x6 at *
  generalize uW (w 7) = x7 at *
  clear i3 i2 i1 i0
  symm
  repeat' split
  all_goals first | (apply decide_eq_true; omega) | (apply decide_eq_false; omega)
theorem isZeroM {w : Nat → Int64} : f_M_isZero w = decide (WN w 0 = 0) := by
  unfold f_M_isZero WN
  simp only [Nat.zero_add, lg0, uW_zero, uW_or0, Nat.or_eq_zero_iff]
  generalize uW (w 0) = x0
  generalize uW (w 1) = x1
  generalize uW (w 2) = x2
  generalize uW (w 3) = x3
  symm
  split
  · apply decide_eq_true; omega
  · apply decide_eq_false; omega

