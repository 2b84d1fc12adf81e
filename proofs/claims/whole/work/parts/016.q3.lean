/-! the plain decimal formats: reading, the reference -/
theorem take0 (h l : Int64) (w : Nat → Int64) {n : Nat} (hn : n ≤ 128) : WN (f_M_take (0:Int32) (nI n) h l w) 0 = VN h l % 2 ^ n ∧ Wok (f_M_take (0:Int32) (nI n) h l w) 0 := by
  have := take_eq h l w (p := 0) (n := n) (by omega)
  rw [Nat.pow_zero, Nat.div_one] at this
  exact this
theorem pow10 {m : Nat} (hm : m ≤ 38) : 10 ^ m < 2 ^ 128 := Nat.lt_of_le_of_lt (Nat.pow_le_pow_right (by decide) hm) (by decide)
theorem capW {w : Nat → Int64} (hw : Wok w 0) {m : Nat} (hm : m ≤ 38) (W : Nat → Int64) (hW : W = if bI (f_M_isBelow (f_M_power1 (10:Int32) (nI m) w)) = (0:Int32) then f_M_be0 (0:Int64) (f_M_power1 (10:Int32) (nI m) w) else f_M_power1 (10:Int32) (nI m) w) : WN W 0 = cap (10 ^ m) (WN w 0) ∧ Wok W 0 := by
  obtain ⟨a, b, c⟩ := below_pow hw (r := 10) (n := m) (by decide) (by omega) (pow10 hm) (by decide)
  rw [show (10:Int32) = nI 10 from rfl, a] at hW
  unfold cap
  by_cases q : WN w 0 < 10 ^ m
  · rw [if_neg (fun x => bI_d.mp x q)] at hW
    rw [if_pos q, hW]; exact ⟨c, b⟩
  · rw [if_pos (bI_d.mpr q)] at hW
    rw [if_neg q, hW]; exact be0_0 _
theorem tam0 (h l : Int64) (w : Nat → Int64) {n m : Nat} (hn : n ≤ 128) (hm : m ≤ 38) (v : Int32) : WN (f_M_takeAtMost (0:Int32) (nI n) (nI m) v h l w) 0 = cap (10 ^ m) (VN h l % 2 ^ n) ∧ Wok (f_M_takeAtMost (0:Int32) (nI n) (nI m) v h l w) 0 := by
  obtain ⟨a, b⟩ := take0 h l w hn
  obtain ⟨c, d⟩ := capW b hm _ rfl
  rw [a] at c
  unfold f_M_takeAtMost
  rw [if_pos (by decide)]
  exact ⟨c, d⟩
theorem tam4 (h l : Int64) (w : Nat → Int64) {n m : Nat} (hn : n + 2 < 128) (hm : m ≤ 38) : WN (f_M_takeAtMost (4:Int32) (nI n) (nI m) (nI n) h l w) 0 = cap (10 ^ m) (VN h l % 2 ^ n + 2 ^ (n + 2)) ∧ Wok (f_M_takeAtMost (4:Int32) (nI n) (nI m) (nI n) h l w) 0 := by
  obtain ⟨a, b⟩ := take0 h l w (n := n) (by omega)
  have hlt : VN h l % 2 ^ n < 2 ^ (n + 2) := Nat.lt_of_lt_of_le (Nat.mod_lt _ (Nat.two_pow_pos n)) (Nat.pow_le_pow_right (by decide) (by omega))
  obtain ⟨e, f⟩ := wset b (k := n + 2) (by omega) (by rw [a, div_lt_pow hlt]) rfl
  obtain ⟨c, d⟩ := capW f hm _ rfl
  rw [e, a] at c
  unfold f_M_takeAtMost
  rw [if_neg (by decide), show nI n + (2:Int32) = nI (n + 2) from nI_add n 2]
  exact ⟨c, d⟩
theorem mod_up {V t k : Nat} : V % 2 ^ (t + k) = V % 2 ^ t + V / 2 ^ t % 2 ^ k * 2 ^ t := by
  rw [Nat.pow_add, Nat.mod_mul, Nat.mul_comm (2 ^ t)]
theorem five8 {H g : Nat} (hg : 5 ≤ g) : H / 2 ^ (g - 2) = H / 2 ^ (g - 5) / 8 := by
  rw [show (8:Nat) = 2 ^ 3 from rfl, Nat.div_div_eq_div_mul, ← Nat.pow_add, show g - 5 + 3 = g - 2 from by omega]
theorem openP {f L : Int32} {t g p : Nat} (hg : 7 ≤ g) (hg2 : g ≤ 30) (hw : t + g ≤ 127) (hp : 2 ≤ p) (hp2 : p ≤ 38) (hf : f ≤ (6:Int32)) (hdig : f_M_digitsOf f = nI p) (hwid : f_M_width f = nI (t + g + 1)) (htl : f_M_tail f = nI t) (hL : f_M_least f = L) (h l : Int64) (w : Nat → Int64) (sp : Nat → Int32) :
    ∃ kd ex W, f_M_openDecimal f 0 0 h l w sp = (kd, ex, W) ∧ (kd, ex, WN W 0) = sP t g (10 ^ p) (10 ^ (p - 1)) L (VN h l) ∧ Wok W 0 := by
  have hfe : f_M_field (nI (t + (g - 5))) (5:Int32) h l = nI (VN h l / 2 ^ t % 2 ^ g / 2 ^ (g - 5)) := by
    rw [hd_div (by omega), show g - (g - 5) = 5 from by omega]
    exact field_eq h l (p := t + (g - 5)) (n := 5) (by omega) (by omega)
  have hF : VN h l / 2 ^ t % 2 ^ g / 2 ^ (g - 5) < 32 := by
    rw [hd_div (by omega), show g - (g - 5) = 5 from by omega]; exact Nat.mod_lt _ (by decide)
  have h8 := five8 (H := VN h l / 2 ^ t % 2 ^ g) (g := g) (by omega)
  unfold f_M_openDecimal sP
  rw [hdig, hwid, htl, hL]
  dsimp only
  rw [if_pos hf]
  rw [u_sub (t + g + 1) 1 (by omega) (1:Int32) rfl, u_sub (t + g + 1) 6 (by omega) (6:Int32) rfl, u_sub (t + g + 1) 7 (by omega) (7:Int32) rfl, u_sub p 1 (by omega) (1:Int32) rfl, show t + g + 1 - 1 = t + g from by omega, u_sub (t + g) t (by omega) _ rfl, show t + g - t = g from by omega, u_sub g 3 (by omega) (3:Int32) rfl, show t + g + 1 - 6 = t + (g - 5) from by omega, show t + g + 1 - 7 = t + (g - 6) from by omega, show nI t + (1:Int32) = nI (t + 1) from nI_add t 1, show nI t + (3:Int32) = nI (t + 3) from nI_add t 3]
  rw [hfe]
  by_cases c1 : VN h l / 2 ^ t % 2 ^ g / 2 ^ (g - 5) = 30
  · rw [if_pos ((nI_lit (30:Int32) 30 rfl (by decide) (by omega)).mpr c1), if_neg (by omega), if_pos c1]
    obtain ⟨a, b⟩ := be0_0 w
    exact ⟨_, _, _, rfl, congrArg (fun n => ((1:Int32), (0:Int32), n)) a, b⟩
  · rw [if_neg (fun q => c1 ((nI_lit (30:Int32) 30 rfl (by decide) (by omega)).mp q))]
    by_cases c2 : VN h l / 2 ^ t % 2 ^ g / 2 ^ (g - 5) = 31
    · rw [if_pos ((nI_lit (31:Int32) 31 rfl (by decide) (by omega)).mpr c2), if_pos c2]
      have hbit : VN h l / 2 ^ t % 2 ^ g / 2 ^ (g - 6) % 2 = VN h l / 2 ^ (t + (g - 6)) % 2 := by
        rw [hd_div (by omega), show g - (g - 6) = 6 from by omega]
        exact Nat.mod_mul_right_mod _ 2 32
      obtain ⟨a, b⟩ := tam0 h l (f_M_be0 (0:Int64) w) (n := t) (m := p - 1) (by omega) (by omega) (0:Int32)
      have hlt : VN h l / 2 ^ (t + (g - 6)) % 2 < 2 := Nat.mod_lt _ (by decide)
      rw [bit_eq h l (k := t + (g - 6)) (by omega), hbit]
      by_cases c3 : VN h l / 2 ^ (t + (g - 6)) % 2 = 1
      · rw [if_pos ((nI_lit (1:Int32) 1 rfl (by decide) (by omega)).mpr c3), if_pos c3]
        exact ⟨_, _, _, rfl, congrArg (fun n => ((3:Int32), (0:Int32), n)) a, b⟩
      · rw [if_neg (fun q => c3 ((nI_lit (1:Int32) 1 rfl (by decide) (by omega)).mp q)), if_neg c3]
        exact ⟨_, _, _, rfl, congrArg (fun n => ((2:Int32), (0:Int32), n)) a, b⟩
    · rw [if_neg (fun q => c2 ((nI_lit (31:Int32) 31 rfl (by decide) (by omega)).mp q)), if_neg c2, if_neg c1]
      by_cases c3 : 24 ≤ VN h l / 2 ^ t % 2 ^ g / 2 ^ (g - 5)
      · rw [if_pos ((lit_le (24:Int32) 24 rfl (by decide) (by omega)).mpr c3), if_pos (by rw [h8]; omega)]
        obtain ⟨a, b⟩ := tam4 h l (f_M_be0 (0:Int64) w) (n := t + 1) (m := p) (by omega) (by omega)
        have hm : VN h l / 2 ^ t % 2 ^ g % 2 = VN h l / 2 ^ t % 2 ^ 1 := by
          have := mod_below (V := VN h l / 2 ^ t) (t := g) (k := 1) (by omega)
          rw [Nat.pow_one] at this; exact this
        have hb : VN h l % 2 ^ (t + 1) + 2 ^ (t + 1 + 2) = VN h l % 2 ^ t + (8 + VN h l / 2 ^ t % 2 ^ g % 2) * 2 ^ t := by
          rw [mod_up, hm, Nat.add_mul, show t + 1 + 2 = t + 3 from rfl, Nat.pow_add 2 t 3]; omega
        rw [hb] at a
        have he : f_M_field (nI (t + 1)) (nI (g - 3)) h l = nI (VN h l / 2 ^ t % 2 ^ g / 2 % 2 ^ (g - 3)) := by
          rw [field_eq h l (p := t + 1) (n := g - 3) (by omega) (by omega)]
          have := hd_div (V := VN h l) (t := t) (g := g) (k := 1) (by omega)
          rw [Nat.pow_one] at this
          rw [this, mod_below (by omega)]
        rw [he]
        exact ⟨_, _, _, rfl, congrArg (fun n => ((0:Int32), nI (VN h l / 2 ^ t % 2 ^ g / 2 % 2 ^ (g - 3)) + L, n)) a, b⟩
      · rw [if_neg (fun q => c3 ((lit_le (24:Int32) 24 rfl (by decide) (by omega)).mp q)), if_neg (by rw [h8]; omega)]
        obtain ⟨a, b⟩ := tam0 h l (f_M_be0 (0:Int64) w) (n := t + 3) (m := p) (by omega) (by omega) (0:Int32)
        have hm : VN h l / 2 ^ t % 2 ^ g % 8 = VN h l / 2 ^ t % 2 ^ 3 := mod_below (V := VN h l / 2 ^ t) (t := g) (k := 3) (by omega)
        have hb : VN h l % 2 ^ (t + 3) = VN h l % 2 ^ t + VN h l / 2 ^ t % 2 ^ g % 8 * 2 ^ t := by rw [mod_up, hm]
        rw [hb] at a
        have he : f_M_field (nI (t + 3)) (nI (g - 3)) h l = nI (VN h l / 2 ^ t % 2 ^ g / 8) := by
          rw [field_eq h l (p := t + 3) (n := g - 3) (by omega) (by omega)]
          have := hd_div (V := VN h l) (t := t) (g := g) (k := 3) (by omega)
          rw [← this]
        rw [he]
        exact ⟨_, _, _, rfl, congrArg (fun n => ((0:Int32), nI (VN h l / 2 ^ t % 2 ^ g / 8) + L, n)) a, b⟩
theorem ok_tam {n m v : Nat} (hn : n < 200) (hm : m < 200) (hv : v < 126) : ok_M_takeAtMost (nI n) (nI m) (nI v) := by
  unfold ok_M_takeAtMost
  rw [show nI v + (2:Int32) = nI (v + 2) from nI_add v 2]
  have e1 : nI (v + 2) / (32:Int32) = nI ((v + 2) / 32) := nI_div (a := v + 2) (b := 32) (by omega) (by omega)
  have hv : vp_in (nI (v + 2) / (32:Int32)) 12 := by rw [e1]; exact nI_in (by omega) (by omega)
  exact ⟨ok_take hn, ok_power hm, hv, hv, ok_power hm⟩
theorem ok_openP {f : Int32} {t g p : Nat} (hg : 7 ≤ g) (hg2 : g ≤ 30) (hw : t + g ≤ 127) (hp : 2 ≤ p) (hp2 : p ≤ 38) (hf : f ≤ (6:Int32)) (hdig : f_M_digitsOf f = nI p) (hwid : f_M_width f = nI (t + g + 1)) (htl : f_M_tail f = nI t) (h l : Int64) : ok_M_openDecimal f h l := by
  unfold ok_M_openDecimal
  intro u1 h1 u2 h2
  rw [hwid] at h1
  rw [htl] at h2
  rw [h1, h2, hdig, u_sub (t + g + 1) 1 (by omega) (1:Int32) rfl, show t + g + 1 - 1 = t + g from by omega, u_sub (t + g) t (by omega) _ rfl, show t + g - t = g from by omega, u_sub g 3 (by omega) (3:Int32) rfl, show nI t + (1:Int32) = nI (t + 1) from nI_add t 1, show nI t + (3:Int32) = nI (t + 3) from nI_add t 3]
  have hz : (0:Int32) = nI 0 := rfl
  refine ⟨ok_field (n := 5) (by decide), fun _ => ⟨⟨?_, ?_⟩, ⟨ok_field (by omega), ?_⟩, ok_field (by omega), ?_⟩, fun q => absurd hf q⟩
  · intro u e; rw [e, u_sub p 1 (by omega) (1:Int32) rfl, hz]; exact ok_tam (by omega) (by omega) (by omega)
  · intro u e; rw [e, u_sub p 1 (by omega) (1:Int32) rfl, hz]; exact ok_tam (by omega) (by omega) (by omega)
  · intro u e; rw [e]; exact ok_tam (by omega) (by omega) (by omega)
  · intro u e; rw [e, hz]; exact ok_tam (by omega) (by omega) (by omega)

