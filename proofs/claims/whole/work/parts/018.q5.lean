/-! declets: tables, digits of a tail, a tail of digits -/
def rd (d : Nat) : Nat := (f_E_read (nI d)).toNatClampNeg
def wr (n : Nat) : Nat := (f_E_write (nI n)).toNatClampNeg
theorem rd_eq : ∀ d, d < 1024 → f_E_read (nI d) = nI (rd d) ∧ rd d < 1000 := by decide +kernel
theorem wr_eq : ∀ n, n < 1000 → f_E_write (nI n) = nI (wr n) ∧ wr n < 1024 := by decide +kernel
def dn : Nat → Nat → Nat
  | 0, _ => 0
  | n + 1, V => rd (V / 2 ^ (10 * n) % 1024) * 1000 ^ n + dn n V
def en : Nat → Nat → Nat
  | 0, _ => 0
  | n + 1, B => en n B + wr (B / 1000 ^ n % 1000) * 2 ^ (10 * n)
theorem dn_lt : ∀ n V, dn n V < 1000 ^ n
  | 0, V => by unfold dn; decide
  | n + 1, V => by
    unfold dn
    have h1 := (rd_eq (V / 2 ^ (10 * n) % 1024) (Nat.mod_lt _ (by decide))).2
    have h2 := dn_lt n V
    have h3 : (rd (V / 2 ^ (10 * n) % 1024) + 1) * 1000 ^ n ≤ 1000 * 1000 ^ n := Nat.mul_le_mul_right _ h1
    rw [Nat.add_mul, Nat.one_mul] at h3
    rw [Nat.pow_succ, Nat.mul_comm (1000 ^ n)]
    omega
theorem en_lt : ∀ n B, en n B < 2 ^ (10 * n)
  | 0, B => by unfold en; decide
  | n + 1, B => by
    unfold en
    have h1 := (wr_eq (B / 1000 ^ n % 1000) (Nat.mod_lt _ (by decide))).2
    have h2 := en_lt n B
    have := lt_top (t := 10 * n) (g := 10) h1 h2
    rw [show 10 * (n + 1) = 10 * n + 10 from by omega]
    exact this
theorem ten_at (k : Nat) : (10:Int32) * nI k = nI (10 * k) := nI_mul 10 k
/-- the class reads a tail -/
theorem rbT_loop (wh wl : Int64) : ∀ (fuel j : Nat) (h l : Int64), j < fuel → 10 * j ≤ 118 → VN h l * 1000 ^ j + dn j (VN wh wl) < 2 ^ 128 → VN (lf_T_readBody fuel wh wl (nI j - (1:Int32)) h l).1 (lf_T_readBody fuel wh wl (nI j - (1:Int32)) h l).2 = VN h l * 1000 ^ j + dn j (VN wh wl) := by
  intro fuel
  induction fuel with
  | zero => intro j h l q; omega
  | succ f ih =>
    intro j h l hf hj hb
    unfold lf_T_readBody
    match j, hf, hj, hb with
    | 0, _, _, _ =>
      rw [if_pos (by decide +kernel : nI 0 - (1:Int32) < 0)]
      unfold dn
      rw [Nat.pow_zero, Nat.mul_one, Nat.add_zero]
    | k + 1, hf, hj, hb =>
      rw [nI_pred, if_neg (nI_pos (by omega)), nI_dec, ten_at]
      have e1 := uW_bitsAt wh wl (p := 10 * k) (c := 10) (by omega) (by omega)
      have e2 : Int64.toInt32 (f_W_bitsAt (nI (10 * k)) (10:Int32) wh wl) = nI (VN wh wl / 2 ^ (10 * k) % 1024) := toI_uW e1
      obtain ⟨r1, r2⟩ := rd_eq (VN wh wl / 2 ^ (10 * k) % 1024) (Nat.mod_lt _ (by decide))
      have e3 := VN_times h l (f := 1000) (m := rd (VN wh wl / 2 ^ (10 * k) % 1024)) (by decide) (by omega)
      have p1 : 1 ≤ 1000 ^ k := Nat.pow_pos (by decide)
      unfold dn at hb ⊢
      rw [Nat.pow_succ, Nat.mul_comm (1000 ^ k), ← Nat.mul_assoc, ← Nat.add_assoc, ← Nat.add_mul] at hb ⊢
      have hlt : VN h l * 1000 + rd (VN wh wl / 2 ^ (10 * k) % 1024) < 2 ^ 128 := by
        have := Nat.le_mul_of_pos_right (VN h l * 1000 + rd (VN wh wl / 2 ^ (10 * k) % 1024)) p1
        omega
      rw [Nat.mod_eq_of_lt hlt] at e3
      dsimp only
      rw [e2, r1]
      have := ih k (f_W_times (nI 1000) (nI (rd (VN wh wl / 2 ^ (10 * k) % 1024))) h l).1 (f_W_times (nI 1000) (nI (rd (VN wh wl / 2 ^ (10 * k) % 1024))) h l).2 (by omega) (by omega) (by rw [e3]; exact hb)
      rw [e3] at this
      exact this
theorem pow1000 {a n : Nat} (ha : a < 10) (hn : n ≤ 11) (V : Nat) : a * 1000 ^ n + dn n V < 10 ^ (3 * n + 1) ∧ a * 1000 ^ n + dn n V < 2 ^ 128 := by
  have h1 := dn_lt n V
  have h2 : (a + 1) * 1000 ^ n ≤ 10 * 1000 ^ n := Nat.mul_le_mul_right _ (by omega)
  rw [Nat.add_mul, Nat.one_mul] at h2
  have h3 : 10 ^ (3 * n + 1) = 10 * 1000 ^ n := by rw [Nat.pow_succ, Nat.pow_mul, Nat.mul_comm]
  have h4 : 10 ^ (3 * n + 1) < 2 ^ 128 := pow10 (by omega)
  rw [h3] at h4 ⊢
  omega
theorem readBodyT {a n : Nat} (ha : a < 10) (hn : n ≤ 11) (wh wl : Int64) : VN (f_T_readBody (nI a) (nI n) wh wl).1 (f_T_readBody (nI a) (nI n) wh wl).2 = a * 1000 ^ n + dn n (VN wh wl) := by
  have hu : VN (0:Int64) (Int32.toInt64 (nI a)) = a := by unfold VN; rw [uW_0, Nat.zero_mul, Nat.zero_add]; exact uW_i2l (by omega)
  have := rbT_loop wh wl 40 n (0:Int64) (Int32.toInt64 (nI a)) (by omega) (by omega) (by rw [hu]; exact (pow1000 ha hn _).2)
  rw [hu] at this
  exact this
theorem lk_rbT : ∀ (fuel j : Nat), j < fuel → j < 2 ^ 31 → lk_T_readBody fuel (nI j - (1:Int32))
  | 0, j, h, _ => by omega
  | f + 1, j, h, hj => by
    unfold lk_T_readBody
    refine ⟨fun _ => trivial, fun c => ?_⟩
    match j, h, hj, c with
    | 0, _, _, c => exact absurd (by decide +kernel : nI 0 - (1:Int32) < 0) c
    | k + 1, h, hj, c => rw [nI_pred, nI_dec]; exact lk_rbT f k (by omega) (by omega)
theorem ok_rbT {n : Nat} (h : n < 40) : ok_T_readBody (nI n) := lk_rbT 40 n h (by omega)
/-- the reference reads a tail -/
theorem tdg_loop (h l : Int64) {sp : Nat → Int32} (hsp : ∀ d, d < 1024 → sp d = f_E_read (nI d)) : ∀ (fuel j : Nat) (w : Nat → Int64), j < fuel → 10 * j ≤ 118 → Wok w 0 → WN w 0 * 1000 ^ j + dn j (VN h l) < 2 ^ 128 → WN (lf_M_takeDigits fuel h l sp (nI j - (1:Int32)) w) 0 = WN w 0 * 1000 ^ j + dn j (VN h l) ∧ Wok (lf_M_takeDigits fuel h l sp (nI j - (1:Int32)) w) 0 := by
  intro fuel
  induction fuel with
  | zero => intro j w q; omega
  | succ f ih =>
    intro j w hf hj hw hb
    unfold lf_M_takeDigits
    match j, hf, hj, hb with
    | 0, _, _, _ =>
      rw [if_pos (by decide +kernel : nI 0 - (1:Int32) < 0)]
      unfold dn
      rw [Nat.pow_zero, Nat.mul_one, Nat.add_zero]
      exact ⟨rfl, hw⟩
    | k + 1, hf, hj, hb =>
      rw [nI_pred, if_neg (nI_pos (by omega)), nI_dec, ten_at]
      have e1 : f_M_field (nI (10 * k)) (10:Int32) h l = nI (VN h l / 2 ^ (10 * k) % 1024) := field_eq h l (p := 10 * k) (n := 10) (by omega) (by omega)
      have hm : VN h l / 2 ^ (10 * k) % 1024 < 1024 := Nat.mod_lt _ (by decide)
      obtain ⟨r1, r2⟩ := rd_eq (VN h l / 2 ^ (10 * k) % 1024) hm
      have e3 := WN_times0 hw (f := 1000) (m := rd (VN h l / 2 ^ (10 * k) % 1024)) (by decide) (by omega)
      have p1 : 1 ≤ 1000 ^ k := Nat.pow_pos (by decide)
      unfold dn at hb ⊢
      rw [Nat.pow_succ, Nat.mul_comm (1000 ^ k), ← Nat.mul_assoc, ← Nat.add_assoc, ← Nat.add_mul] at hb ⊢
      have hlt : WN w 0 * 1000 + rd (VN h l / 2 ^ (10 * k) % 1024) < 2 ^ 128 := by
        have := Nat.le_mul_of_pos_right (WN w 0 * 1000 + rd (VN h l / 2 ^ (10 * k) % 1024)) p1
        omega
      rw [Nat.mod_eq_of_lt hlt] at e3
      dsimp only
      rw [e1, nI_clamp (by omega), hsp _ hm, r1]
      have := ih k (f_M_times0 (nI 1000) (nI (rd (VN h l / 2 ^ (10 * k) % 1024))) w) (by omega) (by omega) e3.2 (by rw [e3.1]; exact hb)
      rw [e3.1] at this
      exact this
theorem lk_tdg (h l : Int64) : ∀ (fuel j : Nat), j < fuel → 10 * j ≤ 118 → lk_M_takeDigits fuel h l (nI j - (1:Int32))
  | 0, j, h, _ => by omega
  | f + 1, j, hf, hj => by
    unfold lk_M_takeDigits
    refine ⟨fun _ => trivial, fun c => ?_⟩
    match j, hf, hj, c with
    | 0, _, _, c => exact absurd (by decide +kernel : nI 0 - (1:Int32) < 0) c
    | k + 1, hf, hj, c =>
      rw [nI_pred, nI_dec, ten_at]
      refine ⟨ok_field (n := 10) (by decide), fun u e => ⟨?_, lk_tdg h l f k (by omega) (by omega)⟩⟩
      rw [e, show f_M_field (nI (10 * k)) (10:Int32) h l = _ from field_eq h l (p := 10 * k) (n := 10) (by omega) (by omega)]
      exact nI_in (Nat.mod_lt _ (by decide)) (by decide)
theorem takeDigits {f : Int32} {n : Nat} (hn : n ≤ 11) (htl : f_M_tail f = nI (10 * n)) (h l : Int64) {sp : Nat → Int32} (hsp : ∀ d, d < 1024 → sp d = f_E_read (nI d)) {w : Nat → Int64} (hw : Wok w 0) {a : Nat} (ha : a < 10) (hwa : WN w 0 = a) :
    WN (f_M_takeDigits f h l w sp) 0 = a * 1000 ^ n + dn n (VN h l) ∧ Wok (f_M_takeDigits f h l w sp) 0 := by
  unfold f_M_takeDigits
  rw [htl]
  dsimp only
  rw [show nI (10 * n) / (10:Int32) = nI n from by rw [show (10:Int32) = nI 10 from rfl, nI_div (by omega) (by decide), Nat.mul_div_cancel_left _ (by decide)]]
  have := tdg_loop h l hsp 200 n w (by omega) (by omega) hw (by rw [hwa]; exact (pow1000 ha hn _).2)
  rw [hwa] at this
  exact this
theorem ok_takeDigits {f : Int32} {n : Nat} (hn : n ≤ 11) (htl : f_M_tail f = nI (10 * n)) (h l : Int64) : ok_M_takeDigits f h l := by
  unfold ok_M_takeDigits
  intro u e
  rw [htl] at e
  rw [e, show nI (10 * n) / (10:Int32) = nI n from by rw [show (10:Int32) = nI 10 from rfl, nI_div (by omega) (by decide), Nat.mul_div_cancel_left _ (by decide)]]
  exact lk_tdg h l 200 n (by omega) (by omega)

