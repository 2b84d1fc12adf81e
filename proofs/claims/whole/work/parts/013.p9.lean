/-! the binary formats: the reference -/
theorem u_sub (a b : Nat) (h : b ≤ a) (x : Int32) (hx : x = nI b) : nI a - x = nI (a - b) := by rw [hx]; exact nI_sub h
theorem nI_lit {n : Nat} (x : Int32) (m : Nat) (hx : x = nI m) (hm : m < 2 ^ 31) (hn : n < 2 ^ 31) : nI n = x ↔ n = m := by rw [hx]; exact nI_eq hn hm
theorem be0_0 (w : Nat → Int64) : WN (f_M_be0 (0:Int64) w) 0 = 0 ∧ Wok (f_M_be0 (0:Int64) w) 0 := by
  have := WN_be0 (0:Int64) w
  rw [uW_0] at this
  exact this
theorem openB {f L : Int32} {t s : Nat} (ht : 2 ≤ t) (hs : 1 ≤ s) (hs2 : s ≤ 30) (hw : t + s ≤ 127) (hdig : f_M_digitsOf f = nI (t + 1)) (hwid : f_M_width f = nI (t + 1 + s)) (hL : f_M_least f = L) (h l : Int64) (w : Nat → Int64) :
    ∃ kd ex W, f_M_openBinary f 0 0 h l w = (kd, ex, W) ∧ (kd, ex, WN W 0) = sB t s L (VN h l) ∧ Wok W 0 := by
  have hfe := field_eq h l (p := t) (n := s) (by omega) (by omega)
  obtain ⟨ht1, ht2⟩ := take_eq h l w (p := 0) (n := t) (by omega)
  rw [Nat.pow_zero, Nat.div_one] at ht1
  have ps : 0 < 2 ^ s := Nat.two_pow_pos s
  have ps2 : 2 ^ s ≤ 2 ^ 30 := Nat.pow_le_pow_right (by decide) hs2
  have hE : VN h l / 2 ^ t % 2 ^ s < 2 ^ s := Nat.mod_lt _ ps
  unfold f_M_openBinary sB
  rw [hdig, hwid, hL]
  dsimp only
  rw [u_sub (t + 1) 1 (by omega) (1:Int32) rfl, u_sub (t + 1) 2 (by omega) (2:Int32) rfl, u_sub (t + 1 + s) (t + 1) (by omega) _ rfl, show t + 1 - 1 = t from by omega, show t + 1 - 2 = t - 1 from by omega, show t + 1 + s - (t + 1) = s from by omega, nI_pow s (by omega), u_sub (2 ^ s) 1 ps (1:Int32) rfl, hfe]
  by_cases c1 : VN h l / 2 ^ t % 2 ^ s = 2 ^ s - 1
  · rw [if_pos (congrArg nI c1), if_pos c1, isZeroM, show f_M_take 0 (nI t) h l w = f_M_take (nI 0) (nI t) h l w from rfl, ht1]
    by_cases c2 : VN h l % 2 ^ t = 0
    · rw [if_neg (fun q => bI_d.mp q c2), if_pos c2]
      exact ⟨_, _, _, rfl, congrArg (fun n => ((1:Int32), (0:Int32), n)) (ht1.trans c2), ht2⟩
    · rw [if_pos (bI_d.mpr c2), if_neg c2, bit_eq h l (k := t - 1) (by omega)]
      obtain ⟨h3, h4⟩ := take_eq h l (f_M_take (nI 0) (nI t) h l w) (p := 0) (n := t - 1) (by omega)
      rw [Nat.pow_zero, Nat.div_one] at h3
      have hb : VN h l / 2 ^ (t - 1) % 2 < 2 := Nat.mod_lt _ (by decide)
      by_cases c3 : VN h l / 2 ^ (t - 1) % 2 = 1
      · rw [if_pos ((nI_lit (1:Int32) 1 rfl (by decide) (by omega)).mpr c3), if_pos c3]
        exact ⟨_, _, _, rfl, congrArg (fun n => ((2:Int32), (0:Int32), n)) h3, h4⟩
      · rw [if_neg (fun q => c3 ((nI_lit (1:Int32) 1 rfl (by decide) (by omega)).mp q)), if_neg c3]
        exact ⟨_, _, _, rfl, congrArg (fun n => ((3:Int32), (0:Int32), n)) h3, h4⟩
  · rw [if_neg (fun q => c1 ((nI_eq (by omega) (by omega)).mp q)), if_neg c1]
    by_cases c2 : VN h l / 2 ^ t % 2 ^ s = 0
    · have cc := (nI_lit (0:Int32) 0 rfl (by decide) (by omega)).mpr c2
      rw [if_pos cc, if_pos cc, if_pos c2]
      exact ⟨_, _, _, rfl, congrArg (fun n => ((0:Int32), L, n)) ht1, ht2⟩
    · have cc : ¬ nI (VN h l / 2 ^ t % 2 ^ s) = (0:Int32) := fun q => c2 ((nI_lit (0:Int32) 0 rfl (by decide) (by omega)).mp q)
      rw [if_neg cc, if_neg cc, if_neg c2]
      obtain ⟨h3, h4⟩ := wset ht2 (k := t) (by omega) (by rw [ht1, div_lt_pow (Nat.mod_lt _ (Nat.two_pow_pos t))]) rfl
      rw [ht1] at h3
      exact ⟨_, _, _, rfl, congrArg (fun n => ((0:Int32), nI (VN h l / 2 ^ t % 2 ^ s) - 1 + L, n)) h3, h4⟩
theorem ok_openB {f : Int32} {t s : Nat} (ht : 2 ≤ t) (hs2 : s ≤ 30) (hw : t + s ≤ 127) (hdig : f_M_digitsOf f = nI (t + 1)) (hwid : f_M_width f = nI (t + 1 + s)) : ok_M_openBinary f := by
  unfold ok_M_openBinary
  intro u1 h1 u2 h2
  rw [hdig] at h1
  rw [hwid] at h2
  rw [h1, h2, u_sub (t + 1) 1 (by omega) (1:Int32) rfl, u_sub (t + 1) 2 (by omega) (2:Int32) rfl, u_sub (t + 1 + s) (t + 1) (by omega) _ rfl, show t + 1 - 1 = t from by omega, show t + 1 - 2 = t - 1 from by omega, show t + 1 + s - (t + 1) = s from by omega]
  have e1 : nI t / (32:Int32) = nI (t / 32) := nI_div (a := t) (b := 32) (by omega) (by omega)
  have hv : vp_in (nI t / (32:Int32)) 12 := by rw [e1]; exact nI_in (by omega) (by omega)
  exact ⟨ok_field (by omega), ok_take (by omega), ok_take (by omega), hv, hv⟩
/-- what a word of the reference is behind power: its number, and the comparison with it -/
theorem below_pow {w : Nat → Int64} (hw : Wok w 0) {r n : Nat} (hr : r < 2 ^ 31) (hn : n < 200) (hb : r ^ n < 2 ^ 128) (h1 : 1 ≤ r) :
    f_M_isBelow (f_M_power1 (nI r) (nI n) w) = decide (WN w 0 < r ^ n) ∧ Wok (f_M_power1 (nI r) (nI n) w) 0 ∧ WN (f_M_power1 (nI r) (nI n) w) 0 = WN w 0 := by
  obtain ⟨a, b, c⟩ := power_eq hr hn hb h1 w
  have e : WN (f_M_power1 (nI r) (nI n) w) 0 = WN w 0 := by unfold WN; rw [c 0 (by decide), c (0 + 1) (by decide), c (0 + 2) (by decide), c (0 + 3) (by decide)]
  have k : Wok (f_M_power1 (nI r) (nI n) w) 0 := by unfold Wok; rw [c 0 (by decide), c (0 + 1) (by decide), c (0 + 2) (by decide), c (0 + 3) (by decide)]; exact hw
  rw [isBelow_iff k b, a, e]
  exact ⟨rfl, k, rfl⟩
theorem fitsB {f L G : Int32} {t : Nat} (ht : 2 ≤ t) (hw : t ≤ 120) (hf : ¬ (4:Int32) ≤ f) (hf3 : ¬ (3:Int32) < f) (hdig : f_M_digitsOf f = nI (t + 1)) (hL : f_M_least f = L) (hG : f_M_greatest f = G) (kd ex : Int32) {w : Nat → Int64} (hk : Wok w 0) :
    ∃ b W, f_M_fits f kd ex w = (b, W) ∧ b = hB t L G kd ex (WN w 0) ∧ Wok W 0 ∧ WN W 0 = WN w 0 := by
  have pb : ∀ n, n ≤ 127 → 2 ^ n < 2 ^ 128 := fun n hn => Nat.pow_lt_pow_right (by decide) (by omega)
  have pw : 2 ^ t < 2 ^ (t + 1) := Nat.pow_lt_pow_right (by decide) (by omega)
  obtain ⟨a1, a2, a3⟩ := below_pow hk (r := 2) (n := t + 1) (by decide) (by omega) (pb _ (by omega)) (by decide)
  obtain ⟨b1, b2, b3⟩ := below_pow a2 (r := 2) (n := t) (by decide) (by omega) (pb _ (by omega)) (by decide)
  obtain ⟨c1, c2, c3⟩ := below_pow hk (r := 2) (n := t - 1) (by decide) (by omega) (pb _ (by omega)) (by decide)
  rw [a3] at b1 b3
  unfold f_M_fits hB
  rw [hdig, hL, hG]
  dsimp only
  rw [u_sub (t + 1) 1 (by omega) (1:Int32) rfl, u_sub (t + 1) 2 (by omega) (2:Int32) rfl, show t + 1 - 1 = t from by omega, show t + 1 - 2 = t - 1 from by omega]
  simp only [if_neg hf, if_neg hf3]
  rw [show (2:Int32) = nI 2 from rfl, a1, b1, c1, isZeroM, c3]
  by_cases k0 : kd = 0
  · subst k0
    rw [if_neg (by decide), if_pos rfl, if_pos rfl]
    by_cases q1 : WN w 0 < 2 ^ (t + 1)
    · rw [if_neg (fun q => bI_d.mp q q1)]
      by_cases q2 : ex < L
      · rw [if_pos q2]; exact ⟨_, _, rfl, (decide_eq_false (fun q => q.1 q2)).symm, a2, a3⟩
      · rw [if_neg q2]
        by_cases q3 : ex ≤ G
        · have q3' : ¬ G < ex := Int32.not_lt.mpr q3
          rw [if_pos q3]
          by_cases q4 : ex = L
          · rw [if_pos q4]; exact ⟨_, _, rfl, (decide_eq_true ⟨q2, q3', fun _ => q4, q1⟩).symm, b2, b3⟩
          · rw [if_neg q4]
            by_cases q5 : WN w 0 < 2 ^ t
            · rw [if_neg (fun q => bI_d.mp q q5)]; exact ⟨_, _, rfl, (decide_eq_false (fun q => q4 (q.2.2.1 q5))).symm, b2, b3⟩
            · rw [if_pos (bI_d.mpr q5)]; exact ⟨_, _, rfl, (decide_eq_true ⟨q2, q3', fun q => absurd q q5, q1⟩).symm, b2, b3⟩
        · have q3' : G < ex := Int32.not_le.mp q3
          rw [if_neg q3]; exact ⟨_, _, rfl, (decide_eq_false (fun q => q.2.1 q3')).symm, a2, a3⟩
    · rw [if_pos (bI_d.mpr q1)]; exact ⟨_, _, rfl, (decide_eq_false (fun q => q1 q.2.2.2)).symm, a2, a3⟩
  · by_cases k1 : kd = 1
    · rw [if_pos k1, if_neg k0, if_pos k1]; exact ⟨_, _, rfl, rfl, hk, rfl⟩
    · rw [if_neg k1, if_neg k0, if_neg k0, if_neg k1]
      by_cases q1 : WN w 0 < 2 ^ (t - 1)
      · rw [if_neg (fun q => bI_d.mp q q1)]
        by_cases k3 : kd = 3
        · rw [if_pos k3]
          by_cases q2 : WN w 0 = 0
          · rw [if_neg (fun q => bI_d.mp q q2)]; exact ⟨_, _, rfl, (decide_eq_false (fun q => q.2 ⟨k3, q2⟩)).symm, c2, c3⟩
          · rw [if_pos (bI_d.mpr q2)]; exact ⟨_, _, rfl, (decide_eq_true ⟨q1, fun q => q2 q.2⟩).symm, c2, c3⟩
        · rw [if_neg k3]; exact ⟨_, _, rfl, (decide_eq_true ⟨q1, fun q => k3 q.1⟩).symm, c2, c3⟩
      · rw [if_pos (bI_d.mpr q1)]; exact ⟨_, _, rfl, (decide_eq_false (fun q => q1 q.1)).symm, c2, c3⟩
theorem ok_fits {f : Int32} {p : Nat} (hp : 2 ≤ p) (hp2 : p < 200) (hdig : f_M_digitsOf f = nI p) : ok_M_fits f := by
  unfold ok_M_fits
  intro u1 h1
  rw [hdig] at h1
  rw [h1, u_sub p 1 (by omega) (1:Int32) rfl, u_sub p 2 (by omega) (2:Int32) rfl]
  exact ⟨⟨ok_power (by omega), ok_power (by omega)⟩, ok_power (by omega), ok_power (by omega)⟩
theorem closeB {f L : Int32} {t s : Nat} (ht : 2 ≤ t) (hs : 1 ≤ s) (hs2 : s ≤ 30) (hw : t + s ≤ 127) (hdig : f_M_digitsOf f = nI (t + 1)) (hwid : f_M_width f = nI (t + 1 + s)) (hL : f_M_least f = L) {kd ex : Int32} {w : Nat → Int64} (hk : Wok w 0) {h l : Int64} {S : Nat} (hS : VN h l = S * 2 ^ (t + s)) {d : Nat} (hd : kd = 0 → ex = nI d + L ∧ d + 1 < 2 ^ s ∧ WN w 0 < 2 ^ (t + 1)) (h1 : kd = 1 → WN w 0 = 0) (h2 : kd ≠ 0 → WN w 0 < 2 ^ (t - 1)) :
    VN (f_M_closeBinary f kd ex h l w).1 (f_M_closeBinary f kd ex h l w).2 = S * 2 ^ (t + s) + wB t s kd d (WN w 0) := by
  have pt : 2 ^ t = 2 ^ (t - 1) * 2 := by rw [← Nat.pow_succ]; congr 1; omega
  have pts : 2 ^ (t + s) = 2 ^ s * 2 ^ t := by rw [Nat.add_comm]; exact Nat.pow_add 2 s t
  have p0 : 0 < 2 ^ t := Nat.two_pow_pos t
  have ps : 0 < 2 ^ s := Nat.two_pow_pos s
  have ps2 : 2 ^ s ≤ 2 ^ 30 := Nat.pow_le_pow_right (by decide) hs2
  have hz : VN h l / 2 ^ t % 2 ^ s = 0 := by rw [hS, pts, ← Nat.mul_assoc, Nat.mul_div_cancel _ p0, Nat.mul_mod_left]
  have hlay : ∀ v, v < 2 ^ s → VN (f_M_lay (nI v) (nI t) (nI s) h l).1 (f_M_lay (nI v) (nI t) (nI s) h l).2 = (S * 2 ^ s + v) * 2 ^ t := by
    intro v hv
    rw [VN_lay h l (v := v) (p := t) (n := s) (by omega) (by omega) (by omega) hz, Nat.mod_eq_of_lt hv, hS, pts, Nat.add_mul, Nat.mul_assoc]
  have hnum : ∀ v, v < 2 ^ s → VN (f_M_layNumber 0 (nI t) (f_M_lay (nI v) (nI t) (nI s) h l).1 (f_M_lay (nI v) (nI t) (nI s) h l).2 w).1 (f_M_layNumber 0 (nI t) (f_M_lay (nI v) (nI t) (nI s) h l).1 (f_M_lay (nI v) (nI t) (nI s) h l).2 w).2 = (S * 2 ^ s + v) * 2 ^ t + WN w 0 % 2 ^ t := by
    intro v hv
    have := VN_layNumber (f_M_lay (nI v) (nI t) (nI s) h l).1 (f_M_lay (nI v) (nI t) (nI s) h l).2 hk (p := 0) (n := t) (by omega) (by rw [hlay v hv, Nat.pow_zero, Nat.div_one, Nat.mul_mod_left])
    rw [hlay v hv, Nat.pow_zero, Nat.mul_one] at this
    exact this
  have htot : ∀ v, (S * 2 ^ s + v) * 2 ^ t = S * 2 ^ (t + s) + v * 2 ^ t := by intro v; rw [pts, Nat.add_mul, Nat.mul_assoc]
  unfold f_M_closeBinary wB
  rw [hdig, hwid, hL]
  dsimp only
  rw [u_sub (t + 1) 1 (by omega) (1:Int32) rfl, u_sub (t + 1) 2 (by omega) (2:Int32) rfl, u_sub (t + 1 + s) (t + 1) (by omega) _ rfl, show t + 1 - 1 = t from by omega, show t + 1 - 2 = t - 1 from by omega, show t + 1 + s - (t + 1) = s from by omega, nI_pow s (by omega), u_sub (2 ^ s) 1 ps (1:Int32) rfl]
  by_cases k0 : kd = 0
  · obtain ⟨d1, d2, d3⟩ := hd k0
    rw [if_pos k0, if_pos k0, bitOf_eq hk (k := t) (by omega), d1, Int32.add_sub_cancel, nI_1]
    by_cases c : WN w 0 < 2 ^ t
    · rw [div_lt_pow c, if_neg (by decide), if_pos c]
      dsimp only
      rw [show (0:Int32) = nI 0 from rfl]
      have := hnum 0 ps
      rw [htot, Nat.zero_mul, Nat.add_zero, Nat.mod_eq_of_lt c] at this
      exact this
    · have hq : WN w 0 / 2 ^ t % 2 = 1 := by
        have : WN w 0 / 2 ^ t = 1 := by
          rw [Nat.pow_succ] at d3
          have e1 : 1 ≤ WN w 0 / 2 ^ t := (Nat.le_div_iff_mul_le p0).mpr (by omega)
          have e2 : WN w 0 / 2 ^ t < 2 := (Nat.div_lt_iff_lt_mul p0).mpr (by omega)
          omega
        rw [this]
      rw [hq, if_pos (show nI 1 = (1:Int32) from rfl), if_neg c]
      dsimp only
      rw [hnum (d + 1) d2, htot]
      omega
  · rw [if_neg k0, if_neg k0]
    have hB := h2 k0
    have hf := hlay (2 ^ s - 1) (by omega)
    by_cases k1 : kd = 1
    · rw [if_pos k1, if_pos k1]
      dsimp only
      rw [hf, htot]
    · rw [if_neg k1, if_neg k1]
      have hset : ∀ b, b < 2 → VN (f_M_set (nI (t - 1)) (nI b) (f_M_lay (nI (2 ^ s - 1)) (nI t) (nI s) h l).1 (f_M_lay (nI (2 ^ s - 1)) (nI t) (nI s) h l).2).1 (f_M_set (nI (t - 1)) (nI b) (f_M_lay (nI (2 ^ s - 1)) (nI t) (nI s) h l).1 (f_M_lay (nI (2 ^ s - 1)) (nI t) (nI s) h l).2).2 = (S * 2 ^ s + (2 ^ s - 1)) * 2 ^ t + b * 2 ^ (t - 1) := by
        intro b hb
        rw [VN_set _ _ (k := t - 1) (b := b) (by omega) hb (by rw [hf, pt, ← Nat.mul_assoc, Nat.mul_right_comm, Nat.mul_div_cancel _ (Nat.two_pow_pos _), Nat.mul_mod_left]), hf]
      have hn2 : ∀ b, b < 2 → VN (f_M_layNumber 0 (nI (t - 1)) (f_M_set (nI (t - 1)) (nI b) (f_M_lay (nI (2 ^ s - 1)) (nI t) (nI s) h l).1 (f_M_lay (nI (2 ^ s - 1)) (nI t) (nI s) h l).2).1 (f_M_set (nI (t - 1)) (nI b) (f_M_lay (nI (2 ^ s - 1)) (nI t) (nI s) h l).1 (f_M_lay (nI (2 ^ s - 1)) (nI t) (nI s) h l).2).2 w).1 (f_M_layNumber 0 (nI (t - 1)) (f_M_set (nI (t - 1)) (nI b) (f_M_lay (nI (2 ^ s - 1)) (nI t) (nI s) h l).1 (f_M_lay (nI (2 ^ s - 1)) (nI t) (nI s) h l).2).1 (f_M_set (nI (t - 1)) (nI b) (f_M_lay (nI (2 ^ s - 1)) (nI t) (nI s) h l).1 (f_M_lay (nI (2 ^ s - 1)) (nI t) (nI s) h l).2).2 w).2 = S * 2 ^ (t + s) + (2 ^ s - 1) * 2 ^ t + b * 2 ^ (t - 1) + WN w 0 := by
        intro b hb
        have := VN_layNumber (f_M_set (nI (t - 1)) (nI b) (f_M_lay (nI (2 ^ s - 1)) (nI t) (nI s) h l).1 (f_M_lay (nI (2 ^ s - 1)) (nI t) (nI s) h l).2).1 (f_M_set (nI (t - 1)) (nI b) (f_M_lay (nI (2 ^ s - 1)) (nI t) (nI s) h l).1 (f_M_lay (nI (2 ^ s - 1)) (nI t) (nI s) h l).2).2 hk (p := 0) (n := t - 1) (by omega) (by
          rw [hset b hb, pt, Nat.mul_comm (2 ^ (t - 1)) 2, ← Nat.mul_assoc, ← Nat.add_mul, Nat.pow_zero, Nat.div_one, Nat.mul_mod_left])
        rw [hset b hb, Nat.pow_zero, Nat.mul_one, Nat.mod_eq_of_lt hB, htot] at this
        exact this
      by_cases k2 : kd = 2
      · rw [if_pos k2, if_pos k2]
        have := hn2 1 (by decide)
        rw [Nat.one_mul] at this
        dsimp only
        refine Eq.trans this ?_
        omega
      · rw [if_neg k2, if_neg k2]
        have := hn2 0 (by decide)
        rw [Nat.zero_mul, Nat.add_zero] at this
        dsimp only
        refine Eq.trans this ?_
        omega
theorem ok_closeB {f : Int32} {t s : Nat} (ht : 2 ≤ t) (hs2 : s ≤ 30) (hw : t + s ≤ 127) (hdig : f_M_digitsOf f = nI (t + 1)) (hwid : f_M_width f = nI (t + 1 + s)) : ok_M_closeBinary f := by
  unfold ok_M_closeBinary
  intro u1 h1 u2 h2
  rw [hdig] at h1
  rw [hwid] at h2
  rw [h1, h2, u_sub (t + 1) 1 (by omega) (1:Int32) rfl, u_sub (t + 1) 2 (by omega) (2:Int32) rfl, u_sub (t + 1 + s) (t + 1) (by omega) _ rfl, show t + 1 - 1 = t from by omega, show t + 1 - 2 = t - 1 from by omega, show t + 1 + s - (t + 1) = s from by omega]
  exact ⟨⟨ok_bitOf (by omega), ok_lay (by omega), ok_layN (by omega)⟩, ok_lay (by omega), ok_layN (by omega)⟩

