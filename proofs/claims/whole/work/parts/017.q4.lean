/-! the decimal formats: what the reference has, and writing (plain) -/
theorem fitsD {f L G : Int32} {p : Nat} (hp : 2 ≤ p) (hp2 : p ≤ 38) (hf : (4:Int32) ≤ f) (hf3 : (3:Int32) < f) (hdig : f_M_digitsOf f = nI p) (hL : f_M_least f = L) (hG : f_M_greatest f = G) (kd ex : Int32) {w : Nat → Int64} (hk : Wok w 0) :
    ∃ b W, f_M_fits f kd ex w = (b, W) ∧ b = hP (10 ^ p) (10 ^ (p - 1)) L G kd ex (WN w 0) ∧ Wok W 0 ∧ WN W 0 = WN w 0 := by
  have pb : ∀ n, n ≤ 127 → 2 ^ n < 2 ^ 128 := fun n hn => Nat.pow_lt_pow_right (by decide) (by omega)
  obtain ⟨a1, a2, a3⟩ := below_pow hk (r := 10) (n := p) (by decide) (by omega) (pow10 hp2) (by decide)
  obtain ⟨b1, b2, b3⟩ := below_pow a2 (r := 2) (n := p - 1) (by decide) (by omega) (pb _ (by omega)) (by decide)
  obtain ⟨c1, c2, c3⟩ := below_pow hk (r := 10) (n := p - 1) (by decide) (by omega) (pow10 (by omega)) (by decide)
  rw [a3] at b3
  unfold f_M_fits hP
  rw [hdig, hL, hG]
  dsimp only
  rw [u_sub p 1 (by omega) (1:Int32) rfl]
  simp only [if_pos hf, if_pos hf3]
  rw [show (10:Int32) = nI 10 from rfl, show (2:Int32) = nI 2 from rfl, a1, c1]
  by_cases k0 : kd = 0
  · subst k0
    rw [if_neg (by decide), if_pos rfl, if_pos rfl]
    by_cases q1 : WN w 0 < 10 ^ p
    · rw [if_neg (fun q => bI_d.mp q q1)]
      by_cases q2 : ex < L
      · rw [if_pos q2]; exact ⟨_, _, rfl, (decide_eq_false (fun q => q.1 q2)).symm, a2, a3⟩
      · rw [if_neg q2]
        by_cases q3 : ex ≤ G
        · rw [if_pos q3]; exact ⟨_, _, rfl, (decide_eq_true ⟨q2, Int32.not_lt.mpr q3, q1⟩).symm, b2, b3⟩
        · rw [if_neg q3]; exact ⟨_, _, rfl, (decide_eq_false (fun q => q.2.1 (Int32.not_le.mp q3))).symm, a2, a3⟩
    · rw [if_pos (bI_d.mpr q1)]; exact ⟨_, _, rfl, (decide_eq_false (fun q => q1 q.2.2)).symm, a2, a3⟩
  · by_cases k1 : kd = 1
    · rw [if_pos k1, if_neg k0, if_pos k1]; exact ⟨_, _, rfl, rfl, hk, rfl⟩
    · rw [if_neg k1, if_neg k0, if_neg k0, if_neg k1]
      by_cases q1 : WN w 0 < 10 ^ (p - 1)
      · rw [if_neg (fun q => bI_d.mp q q1)]; exact ⟨_, _, rfl, (decide_eq_true q1).symm, c2, c3⟩
      · rw [if_pos (bI_d.mpr q1)]; exact ⟨_, _, rfl, (decide_eq_false q1).symm, c2, c3⟩
theorem bit8 {a : Nat} (h : a < 8) : ¬ a / 8 % 2 = 1 := by omega
theorem rmz {X q Y p n V : Nat} (hV : V = X * 2 ^ q + Y) (hY : Y < 2 ^ p) (h : p + n ≤ q) : V / 2 ^ p % 2 ^ n = 0 := by
  have e : 2 ^ q = 2 ^ (q - p - n) * 2 ^ n * 2 ^ p := by rw [← Nat.pow_add, ← Nat.pow_add]; congr 1; omega
  rw [hV, e, ← Nat.mul_assoc, ← Nat.mul_assoc, Nat.add_comm, Nat.add_mul_div_right _ _ (Nat.two_pow_pos p), div_lt_pow hY, Nat.zero_add, Nat.mul_mod_left]
theorem VN_lay5 {h l : Int64} {v p : Nat} (hv : v < 32) (hp : p + 5 ≤ 128) (hz : VN h l / 2 ^ p % 2 ^ 5 = 0) (x : Int32) (hx : x = nI v) : VN (f_M_lay x (nI p) (5:Int32) h l).1 (f_M_lay x (nI p) (5:Int32) h l).2 = VN h l + v * 2 ^ p := by
  have := VN_lay h l (v := v) (p := p) (n := 5) (by omega) (by omega) hp hz
  rw [Nat.mod_eq_of_lt (by omega)] at this
  rw [hx]; exact this
theorem VN_num0 {h l : Int64} {w : Nat → Int64} (hw : Wok w 0) {n : Nat} (hn : n ≤ 128) (hz : VN h l % 2 ^ n = 0) : VN (f_M_layNumber (0:Int32) (nI n) h l w).1 (f_M_layNumber (0:Int32) (nI n) h l w).2 = VN h l + WN w 0 % 2 ^ n := by
  have := VN_layNumber h l hw (p := 0) (n := n) (by omega) (by rw [Nat.pow_zero, Nat.div_one]; exact hz)
  rw [Nat.pow_zero, Nat.mul_one] at this
  exact this
theorem mul_pow_mod {X q n : Nat} (h : n ≤ q) : X * 2 ^ q % 2 ^ n = 0 := by
  rw [pow_split h, Nat.mul_comm (2 ^ n), ← Nat.mul_assoc, Nat.mul_mod_left]
theorem closeP {f L : Int32} {t g d : Nat} (hg : 7 ≤ g) (hg2 : g ≤ 30) (hw : t + g ≤ 127) (hf : f ≤ (6:Int32)) (hwid : f_M_width f = nI (t + g + 1)) (htl : f_M_tail f = nI t) (hL : f_M_least f = L) {kd ex : Int32} {w : Nat → Int64} (hk : Wok w 0) {h l : Int64} {S : Nat} (hS : VN h l = S * 2 ^ (t + g)) (hd : kd = 0 → ex = nI d + L ∧ d < 3 * 2 ^ (g - 5)) (hB : WN w 0 < 10 * 2 ^ t) (h1 : kd = 1 → WN w 0 = 0) (h2 : kd ≠ 0 → WN w 0 < 2 ^ t) (h3 : kd = 0 ∨ kd = 1 ∨ kd = 2 ∨ kd = 3) (md : Nat → Int32) :
    ∃ ch cl, f_M_closeDecimal f kd ex h l w md = (ch, cl, w) ∧ VN ch cl = S * 2 ^ (t + g) + wP t g kd d (WN w 0) := by
  have p0 : 0 < 2 ^ t := Nat.two_pow_pos t
  have pg : 2 ^ g ≤ 2 ^ 30 := Nat.pow_le_pow_right (by decide) hg2
  have e5 : 2 ^ g = 32 * 2 ^ (g - 5) := by rw [pw2 (g := g) (k := 5) (by omega)]
  have e3 : 2 ^ (g - 3) = 4 * 2 ^ (g - 5) := by rw [show (4:Nat) = 2 ^ 2 from rfl, ← Nat.pow_add]; congr 1; omega
  have t5 : 2 ^ (t + (g - 5)) = 2 ^ (g - 5) * 2 ^ t := by rw [Nat.add_comm, Nat.pow_add]
  have t6 : 2 ^ (t + (g - 6)) = 2 ^ (g - 6) * 2 ^ t := by rw [Nat.add_comm, Nat.pow_add]
  have t2 : 2 ^ (t + (g - 2)) = 2 ^ (g - 2) * 2 ^ t := by rw [Nat.add_comm, Nat.pow_add]
  have e6 : 2 ^ (g - 5) = 2 * 2 ^ (g - 6) := by rw [← Nat.pow_succ']; congr 1; omega
  unfold f_M_closeDecimal wP hdP
  rw [hwid, htl, hL]
  dsimp only
  simp only [if_pos hf]
  rw [u_sub (t + g + 1) 1 (by omega) (1:Int32) rfl, u_sub (t + g + 1) 6 (by omega) (6:Int32) rfl, u_sub (t + g + 1) 7 (by omega) (7:Int32) rfl, u_sub (t + g + 1) 3 (by omega) (3:Int32) rfl, show t + g + 1 - 1 = t + g from by omega, u_sub (t + g) t (by omega) _ rfl, show t + g - t = g from by omega, u_sub g 3 (by omega) (3:Int32) rfl, show t + g + 1 - 6 = t + (g - 5) from by omega, show t + g + 1 - 7 = t + (g - 6) from by omega, show t + g + 1 - 3 = t + (g - 2) from by omega, show nI t + (1:Int32) = nI (t + 1) from nI_add t 1, show nI t + (3:Int32) = nI (t + 3) from nI_add t 3]
  have hz5 : VN h l / 2 ^ (t + (g - 5)) % 2 ^ 5 = 0 := rmz (q := t + g) (Y := 0) (by rw [hS, Nat.add_zero]) (Nat.two_pow_pos _) (by omega)
  by_cases k1 : kd = 1
  · rw [if_pos k1, if_neg (by rw [k1]; decide), if_pos k1]
    refine ⟨_, _, rfl, ?_⟩
    rw [VN_lay5 (v := 30) (by omega) (by omega) hz5 (30:Int32) rfl, hS, h1 k1, Nat.zero_mod, Nat.zero_add, t5, Nat.mul_assoc]
  · rw [if_neg k1]
    by_cases k0 : kd = 0
    · obtain ⟨d1, d2⟩ := hd k0
      rw [if_pos k0, if_pos k0, d1, Int32.add_sub_cancel, bitOf_eq hk (k := t + 3) (by omega)]
      have hq : WN w 0 / 2 ^ (t + 3) = WN w 0 / 2 ^ t / 8 := by rw [Nat.pow_add, ← Nat.div_div_eq_div_mul]
      have ha : WN w 0 / 2 ^ t < 10 := (Nat.div_lt_iff_lt_mul p0).mpr hB
      have hdiv := Nat.div_add_mod (WN w 0) (2 ^ t)
      have hmod := Nat.mod_lt (WN w 0) p0
      by_cases c : WN w 0 / 2 ^ t < 8
      · rw [if_neg (fun q => by have := (nI_lit (1:Int32) 1 rfl (by decide) (by omega)).mp q; rw [hq] at this; exact bit8 c this), if_pos c]
        refine ⟨_, _, rfl, ?_⟩
        have l1 := VN_lay h l (v := d) (p := t + 3) (n := g - 3) (by omega) (by omega) (by omega) (rmz (q := t + g) (Y := 0) (by rw [hS, Nat.add_zero]) (Nat.two_pow_pos _) (by omega))
        rw [Nat.mod_eq_of_lt (by omega), hS] at l1
        rw [VN_num0 hk (by omega) (by rw [l1, Nat.add_mod, mul_pow_mod (by omega), Nat.mul_mod_left, Nat.add_zero, Nat.zero_mod]), l1]
        have hbm : WN w 0 % 2 ^ (t + 3) = WN w 0 := Nat.mod_eq_of_lt (by rw [Nat.pow_add]; rw [Nat.div_lt_iff_lt_mul p0] at c; omega)
        rw [hbm, Nat.pow_add 2 t 3, Nat.add_mul, Nat.add_assoc]
        have x1 : d * 8 * 2 ^ t = d * (2 ^ t * 2 ^ 3) := by rw [Nat.mul_assoc, Nat.mul_comm 8]
        have x2 : WN w 0 / 2 ^ t * 2 ^ t = 2 ^ t * (WN w 0 / 2 ^ t) := Nat.mul_comm _ _
        omega
      · have ha2 : WN w 0 / 2 ^ t / 8 % 2 = 1 := by omega
        rw [if_pos ((nI_lit (1:Int32) 1 rfl (by decide) (by omega)).mpr (by rw [hq]; exact ha2)), if_neg c]
        refine ⟨_, _, rfl, ?_⟩
        have l1 := VN_lay h l (v := d) (p := t + 1) (n := g - 3) (by omega) (by omega) (by omega) (rmz (q := t + g) (Y := 0) (by rw [hS, Nat.add_zero]) (Nat.two_pow_pos _) (by omega))
        rw [Nat.mod_eq_of_lt (by omega), hS] at l1
        have l2 := VN_num0 (h := (f_M_lay (nI d) (nI (t + 1)) (nI (g - 3)) h l).1) (l := (f_M_lay (nI d) (nI (t + 1)) (nI (g - 3)) h l).2) hk (n := t + 1) (by omega) (by rw [l1, Nat.add_mod, mul_pow_mod (by omega), Nat.mul_mod_left, Nat.add_zero, Nat.zero_mod])
        rw [l1] at l2
        have hsm : d * 2 ^ (t + 1) + WN w 0 % 2 ^ (t + 1) < 2 ^ (t + (g - 2)) := by
          have := lt_top (h := d) (b := WN w 0 % 2 ^ (t + 1)) (t := t + 1) (g := g - 3) (by omega) (Nat.mod_lt _ (Nat.two_pow_pos _))
          rw [show t + 1 + (g - 3) = t + (g - 2) from by omega] at this
          omega
        have l3 := VN_lay (f_M_layNumber (0:Int32) (nI (t + 1)) (f_M_lay (nI d) (nI (t + 1)) (nI (g - 3)) h l).1 (f_M_lay (nI d) (nI (t + 1)) (nI (g - 3)) h l).2 w).1 (f_M_layNumber (0:Int32) (nI (t + 1)) (f_M_lay (nI d) (nI (t + 1)) (nI (g - 3)) h l).1 (f_M_lay (nI d) (nI (t + 1)) (nI (g - 3)) h l).2 w).2 (v := 3) (p := t + (g - 2)) (n := 2) (by omega) (by omega) (by omega) (rmz (X := S) (q := t + g) (Y := d * 2 ^ (t + 1) + WN w 0 % 2 ^ (t + 1)) (by rw [l2, Nat.add_assoc]) hsm (by omega))
        rw [l2] at l3
        refine Eq.trans l3 ?_
        rw [show (3:Nat) % 2 ^ 2 = 3 from rfl, mod_up, Nat.pow_one, t2, Nat.pow_add 2 t 1, Nat.add_mul, Nat.add_mul, Nat.mul_assoc 3, Nat.mul_assoc d, Nat.mul_comm 2 (2 ^ t), Nat.pow_one]
        omega
    · rw [if_neg k0, if_neg k0, if_neg k1]
      have hbm : WN w 0 % 2 ^ t = WN w 0 := Nat.mod_eq_of_lt (h2 k0)
      have l1 := VN_lay5 (h := h) (l := l) (v := 31) (p := t + (g - 5)) (by omega) (by omega) hz5 (31:Int32) rfl
      rw [hS] at l1
      have hset : ∀ b, b < 2 → VN (f_M_set (nI (t + (g - 6))) (nI b) (f_M_lay (31:Int32) (nI (t + (g - 5))) (5:Int32) h l).1 (f_M_lay (31:Int32) (nI (t + (g - 5))) (5:Int32) h l).2).1 (f_M_set (nI (t + (g - 6))) (nI b) (f_M_lay (31:Int32) (nI (t + (g - 5))) (5:Int32) h l).1 (f_M_lay (31:Int32) (nI (t + (g - 5))) (5:Int32) h l).2).2 = S * 2 ^ (t + g) + 31 * 2 ^ (t + (g - 5)) + b * 2 ^ (t + (g - 6)) := by
        intro b hb
        rw [VN_set _ _ (k := t + (g - 6)) (b := b) (by omega) hb (by
          have x1 : 2 ^ (t + g) = 2 ^ 5 * 2 ^ (t + (g - 5)) := by rw [← Nat.pow_add]; congr 1; omega
          have := rmz (V := S * 2 ^ (t + g) + 31 * 2 ^ (t + (g - 5))) (X := S * 2 ^ 5 + 31) (q := t + (g - 5)) (Y := 0) (p := t + (g - 6)) (n := 1) (by rw [x1, Nat.add_mul, Nat.mul_assoc, Nat.add_zero]) (Nat.two_pow_pos _) (by omega)
          rw [Nat.pow_one] at this
          rw [l1]; exact this), l1]
      have hfin : ∀ b, b < 2 → VN (f_M_layNumber (0:Int32) (nI t) (f_M_set (nI (t + (g - 6))) (nI b) (f_M_lay (31:Int32) (nI (t + (g - 5))) (5:Int32) h l).1 (f_M_lay (31:Int32) (nI (t + (g - 5))) (5:Int32) h l).2).1 (f_M_set (nI (t + (g - 6))) (nI b) (f_M_lay (31:Int32) (nI (t + (g - 5))) (5:Int32) h l).1 (f_M_lay (31:Int32) (nI (t + (g - 5))) (5:Int32) h l).2).2 w).1 (f_M_layNumber (0:Int32) (nI t) (f_M_set (nI (t + (g - 6))) (nI b) (f_M_lay (31:Int32) (nI (t + (g - 5))) (5:Int32) h l).1 (f_M_lay (31:Int32) (nI (t + (g - 5))) (5:Int32) h l).2).1 (f_M_set (nI (t + (g - 6))) (nI b) (f_M_lay (31:Int32) (nI (t + (g - 5))) (5:Int32) h l).1 (f_M_lay (31:Int32) (nI (t + (g - 5))) (5:Int32) h l).2).2 w).2 = S * 2 ^ (t + g) + 31 * 2 ^ (t + (g - 5)) + b * 2 ^ (t + (g - 6)) + WN w 0 := by
        intro b hb
        rw [VN_num0 hk (by omega) (by rw [hset b hb, Nat.add_mod, Nat.add_mod (S * 2 ^ (t + g)), mul_pow_mod (by omega), mul_pow_mod (by omega), mul_pow_mod (by omega), Nat.add_zero, Nat.zero_mod, Nat.zero_mod]), hset b hb, hbm]
      by_cases k3 : kd = 3
      · rw [if_pos k3, if_neg (by rw [k3]; decide)]
        refine ⟨_, _, rfl, ?_⟩
        have := hfin 1 (by omega)
        refine Eq.trans this ?_
        rw [hbm, t5, t6, e6, Nat.mul_assoc 2, Nat.mul_assoc 63]
        omega
      · have k2 : kd = 2 := by rcases h3 with h | h | h | h; exact absurd h k0; exact absurd h k1; exact h; exact absurd h k3
        rw [if_neg k3, if_pos k2]
        refine ⟨_, _, rfl, ?_⟩
        have := hfin 0 (by omega)
        refine Eq.trans this ?_
        rw [hbm, t5, Nat.mul_assoc 31]
        omega
theorem ok_closeP {f : Int32} {t g : Nat} (hg : 7 ≤ g) (hg2 : g ≤ 30) (hw : t + g ≤ 127) (hf : f ≤ (6:Int32)) (hwid : f_M_width f = nI (t + g + 1)) (htl : f_M_tail f = nI t) (w : Nat → Int64) : ok_M_closeDecimal f w := by
  unfold ok_M_closeDecimal
  intro u1 h1 u2 h2
  rw [hwid] at h1
  rw [htl] at h2
  rw [h1, h2, u_sub (t + g + 1) 1 (by omega) (1:Int32) rfl, show t + g + 1 - 1 = t + g from by omega, u_sub (t + g) t (by omega) _ rfl, show t + g - t = g from by omega, u_sub g 3 (by omega) (3:Int32) rfl, show nI t + (1:Int32) = nI (t + 1) from nI_add t 1, show nI t + (3:Int32) = nI (t + 3) from nI_add t 3]
  have l5 : ok_M_lay (5:Int32) := ok_lay (n := 5) (by decide)
  have l2 : ok_M_lay (2:Int32) := ok_lay (n := 2) (by decide)
  exact ⟨l5, ⟨fun _ => ⟨ok_bitOf (by omega), ⟨ok_lay (by omega), ok_layN (by omega), l2⟩, ok_lay (by omega), ok_layN (by omega)⟩, fun q => absurd hf q⟩, l5, fun _ => ok_layN (by omega), fun q => absurd hf q⟩

