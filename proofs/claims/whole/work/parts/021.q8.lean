/-! the densely packed decimal formats: writing, the reference -/
theorem wr_0 : wr 0 = 0 := by decide +kernel
theorem en_0 : ∀ n, en n 0 = 0
  | 0 => rfl
  | n + 1 => by unfold en; rw [en_0 n, Nat.zero_div, Nat.zero_mod, wr_0, Nat.zero_mul]
theorem tail_n {f : Int32} {n : Nat} (hn : n ≤ 11) (htl : f_M_tail f = nI (10 * n)) : f_M_tail f / (10:Int32) = nI n := by
  rw [htl, show (10:Int32) = nI 10 from rfl, nI_div (by omega) (by decide), Nat.mul_div_cancel_left _ (by decide)]
theorem lyd_loop {f : Int32} {n : Nat} (hn : n ≤ 11) (htl : f_M_tail f = nI (10 * n)) {md : Nat → Int32} (hmd : ∀ m, m < 1000 → md m = f_E_write (nI m)) (B X : Nat) {V0 : Nat} (hV : V0 = X * 2 ^ (10 * n)) (w : Nat → Int64) : ∀ (fuel j : Nat) (h l : Int64) (W : Nat → Int64), j ≤ n → n - j < fuel → VN h l = V0 + en j B → WN W 8 = B / 1000 ^ j → Wok W 8 → (∀ q, q < 8 → W q = w q) →
    ∃ ch cl W', lf_M_layDigits fuel f md (nI j) h l W = (Int64.toInt32 (W' 8), ch, cl, W') ∧ WN W' 8 = B / 1000 ^ n ∧ VN ch cl = V0 + en n B ∧ ∀ q, q < 8 → W' q = w q := by
  intro fuel
  induction fuel with
  | zero => intro j _ _ _ _ q; omega
  | succ fu ih =>
    intro j h l W hj hf e1 e2 e3 e4
    unfold lf_M_layDigits
    dsimp only
    rw [tail_n hn htl]
    by_cases c : n = j
    · subst c
      rw [if_pos ((nI_leI (by omega) (by omega)).mpr (Nat.le_refl _))]
      exact ⟨h, l, W, rfl, e2, e1, e4⟩
    · rw [if_neg (fun q => c (Nat.le_antisymm ((nI_leI (by omega) (by omega)).mp q) hj)), nI_1, ten_at]
      obtain ⟨t1, t2, t3, t4⟩ := over_eq e3
      have hm : B / 1000 ^ j % 1000 < 1000 := Nat.mod_lt _ (by decide)
      obtain ⟨w1, w2⟩ := wr_eq _ hm
      rw [t1, e2, nI_clamp (by omega), hmd _ hm, w1]
      have ha := VN_lay h l (v := wr (B / 1000 ^ j % 1000)) (p := 10 * j) (n := 10) (by omega) (by omega) (by omega) (by rw [e1]; exact en_room hV (by omega))
      rw [Nat.mod_eq_of_lt (show wr (B / 1000 ^ j % 1000) < 2 ^ 10 from w2), e1, Nat.add_assoc] at ha
      exact ih (j + 1) _ _ _ (by omega) (by omega) ha (by rw [t2, e2, b1000]) t3 (fun q hq => by rw [t4 q hq, e4 q hq])
theorem cp_W (w : Nat → Int64) (a b c d : Int64) : WN (vp_updL (vp_updL (vp_updL (vp_updL w 8 a) 9 b) 10 c) 11 d) 8 = uW a + uW b * 2 ^ 32 + uW c * 2 ^ 64 + uW d * 2 ^ 96 := rfl
theorem cp_O (w : Nat → Int64) (a b c d : Int64) (h : uW a < 2 ^ 32 ∧ uW b < 2 ^ 32 ∧ uW c < 2 ^ 32 ∧ uW d < 2 ^ 32) : Wok (vp_updL (vp_updL (vp_updL (vp_updL w 8 a) 9 b) 10 c) 11 d) 8 := h
theorem layDigits {f : Int32} {n : Nat} (hn : n ≤ 11) (htl : f_M_tail f = nI (10 * n)) {md : Nat → Int32} (hmd : ∀ m, m < 1000 → md m = f_E_write (nI m)) {w : Nat → Int64} (hw : Wok w 0) {h l : Int64} {X : Nat} (hV : VN h l = X * 2 ^ (10 * n)) (ha : WN w 0 / 1000 ^ n < 10) :
    ∃ ch cl W', f_M_layDigits f h l w md = (nI (WN w 0 / 1000 ^ n), ch, cl, W') ∧ VN ch cl = VN h l + en n (WN w 0) ∧ ∀ q, q < 8 → W' q = w q := by
  obtain ⟨ch, cl, W', q1, q2, q3, q4⟩ := lyd_loop hn htl hmd (WN w 0) X (V0 := VN h l) hV w 200 0 h l (vp_updL (vp_updL (vp_updL (vp_updL w 8 (w 0)) 9 (w 1)) 10 (w 2)) 11 (w 3)) (by omega) (by omega) (by unfold en; rw [Nat.add_zero]) (by rw [Nat.pow_zero, Nat.div_one, cp_W]; rfl) (cp_O _ _ _ _ _ hw) (fun q hq => by
    simp only [updL_eq]
    rw [if_neg (by omega), if_neg (by omega), if_neg (by omega), if_neg (by omega)])
  refine ⟨ch, cl, W', ?_, q3, q4⟩
  have hl : uW (W' 8) = WN w 0 / 1000 ^ n := by rw [← q2] at ha ⊢; unfold WN at ha ⊢; have := uW_lt (W' 8); omega
  rw [← toI_uW hl]
  exact q1
theorem lk_lyd {f : Int32} {n : Nat} (hn : n ≤ 11) (htl : f_M_tail f = nI (10 * n)) : ∀ (fuel j : Nat) (W : Nat → Int64), j ≤ n → n - j < fuel → Wok W 8 → lk_M_layDigits fuel f (nI j) W
  | 0, j, _, _, h, _ => by omega
  | fu + 1, j, W, hj, hf, hw => by
    unfold lk_M_layDigits
    intro u6 h6
    have h7 := tail_n hn htl
    rw [← h6] at h7
    rw [h7]
    refine ⟨fun _ => trivial, fun c => ?_⟩
    rw [nI_1]
    have : j ≠ n := fun e => c ((nI_leI (by omega) (by omega)).mpr (by omega))
    intro u8 h8
    obtain ⟨t1, t2, t3, t4⟩ := over_eq hw
    rw [h8]
    refine ⟨?_, ok_lay (n := 10) (by decide), lk_lyd hn htl fu (j + 1) _ (by omega) (by omega) t3⟩
    rw [t1]
    exact nI_in (Nat.mod_lt _ (by decide)) (by decide)
theorem ok_layDigits {f : Int32} {n : Nat} (hn : n ≤ 11) (htl : f_M_tail f = nI (10 * n)) {w : Nat → Int64} (hw : Wok w 0) : ok_M_layDigits f w := lk_lyd hn htl 200 0 _ (by omega) (by omega) (cp_O _ _ _ _ _ hw)
theorem closeT {f L : Int32} {n g d : Nat} (hg : 7 ≤ g) (hg2 : g ≤ 30) (hn : n ≤ 11) (hw : 10 * n + g ≤ 127) (hf : ¬ f ≤ (6:Int32)) (hwid : f_M_width f = nI (10 * n + g + 1)) (htl : f_M_tail f = nI (10 * n)) (hL : f_M_least f = L) {kd ex : Int32} {w : Nat → Int64} (hk : Wok w 0) {h l : Int64} {S : Nat} (hS : VN h l = S * 2 ^ (10 * n + g)) (hd : kd = 0 → ex = nI d + L ∧ d < 3 * 2 ^ (g - 5)) (ha : WN w 0 / 1000 ^ n < 10) (h1 : kd = 1 → WN w 0 = 0) (h2 : kd ≠ 0 → WN w 0 / 1000 ^ n = 0) (h3 : kd = 0 ∨ kd = 1 ∨ kd = 2 ∨ kd = 3) {md : Nat → Int32} (hmd : ∀ m, m < 1000 → md m = f_E_write (nI m)) :
    ∃ ch cl W, f_M_closeDecimal f kd ex h l w md = (ch, cl, W) ∧ VN ch cl = S * 2 ^ (10 * n + g) + wT n g kd d (WN w 0) ∧ ∀ q, q < 8 → W q = w q := by
  have p0 : 0 < 2 ^ (10 * n) := Nat.two_pow_pos _
  have pg : 2 ^ g ≤ 2 ^ 30 := Nat.pow_le_pow_right (by decide) hg2
  have e5 : 2 ^ g = 32 * 2 ^ (g - 5) := by rw [pw2 (g := g) (k := 5) (by omega)]
  have tg : 2 ^ (10 * n + g) = 2 ^ g * 2 ^ (10 * n) := by rw [Nat.add_comm, Nat.pow_add]
  have t5 : 2 ^ (10 * n + (g - 5)) = 2 ^ (g - 5) * 2 ^ (10 * n) := by rw [Nat.add_comm, Nat.pow_add]
  have t6 : 2 ^ (10 * n + (g - 6)) = 2 ^ (g - 6) * 2 ^ (10 * n) := by rw [Nat.add_comm, Nat.pow_add]
  have e6 : 2 ^ (g - 5) = 2 * 2 ^ (g - 6) := by rw [← Nat.pow_succ']; congr 1; omega
  have hen := en_lt n (WN w 0)
  unfold f_M_closeDecimal wT hdT
  rw [hwid, htl, hL]
  dsimp only
  simp only [if_neg hf]
  rw [u_sub (10 * n + g + 1) 1 (by omega) (1:Int32) rfl, u_sub (10 * n + g + 1) 6 (by omega) (6:Int32) rfl, u_sub (10 * n + g + 1) 7 (by omega) (7:Int32) rfl, show 10 * n + g + 1 - 1 = 10 * n + g from by omega, u_sub (10 * n + g) (10 * n) (by omega) _ rfl, show 10 * n + g - 10 * n = g from by omega, u_sub g 5 (by omega) (5:Int32) rfl, show 10 * n + g + 1 - 6 = 10 * n + (g - 5) from by omega, show 10 * n + g + 1 - 7 = 10 * n + (g - 6) from by omega]
  have hz5 : VN h l / 2 ^ (10 * n + (g - 5)) % 2 ^ 5 = 0 := rmz (q := 10 * n + g) (Y := 0) (by rw [hS, Nat.add_zero]) (Nat.two_pow_pos _) (by omega)
  by_cases k1 : kd = 1
  · rw [if_pos k1, if_neg (by rw [k1]; decide), if_pos k1]
    refine ⟨_, _, _, rfl, ?_, fun _ _ => rfl⟩
    rw [VN_lay5 (v := 30) (by omega) (by omega) hz5 (30:Int32) rfl, hS, h1 k1, en_0, Nat.zero_add, t5, Nat.mul_assoc]
  · rw [if_neg k1]
    by_cases k0 : kd = 0
    · obtain ⟨d1, d2⟩ := hd k0
      obtain ⟨q3, hm⟩ := mk_lt (a := WN w 0 / 1000 ^ n) ha d2
      have hd31 : d < 2 ^ 31 := by omega
      have hml : d % 2 ^ (g - 5) < 2 ^ (g - 5) := Nat.mod_lt _ (Nat.two_pow_pos _)
      obtain ⟨ch, cl, W', r1, r2, r3⟩ := layDigits hn htl hmd hk (h := h) (l := l) (X := S * 2 ^ g) (by rw [hS, tg, Nat.mul_assoc]) ha
      rw [if_pos k0, if_pos k0, d1, Int32.add_sub_cancel, r1, i_shr hd31 (by omega)]
      rw [hS] at r2
      have l1 := VN_lay ch cl (v := d) (p := 10 * n) (n := g - 5) hd31 (by omega) (by omega) (rmz (q := 10 * n + g) r2 hen (by omega))
      rw [r2] at l1
      have hsm : en n (WN w 0) + d % 2 ^ (g - 5) * 2 ^ (10 * n) < 2 ^ (10 * n + (g - 5)) := lt_top hml hen
      have hroom := rmz (V := VN (f_M_lay (nI d) (nI (10 * n)) (nI (g - 5)) ch cl).1 (f_M_lay (nI d) (nI (10 * n)) (nI (g - 5)) ch cl).2) (X := S) (q := 10 * n + g) (Y := en n (WN w 0) + d % 2 ^ (g - 5) * 2 ^ (10 * n)) (p := 10 * n + (g - 5)) (n := 5) (by rw [l1, Nat.add_assoc]) hsm (by omega)
      have hfin : ∀ m, m < 32 → ∀ x, x = nI m → VN (f_M_lay x (nI (10 * n + (g - 5))) (5:Int32) (f_M_lay (nI d) (nI (10 * n)) (nI (g - 5)) ch cl).1 (f_M_lay (nI d) (nI (10 * n)) (nI (g - 5)) ch cl).2).1 (f_M_lay x (nI (10 * n + (g - 5))) (5:Int32) (f_M_lay (nI d) (nI (10 * n)) (nI (g - 5)) ch cl).1 (f_M_lay (nI d) (nI (10 * n)) (nI (g - 5)) ch cl).2).2 = S * 2 ^ (10 * n + g) + (en n (WN w 0) + (m * 2 ^ (g - 5) + d % 2 ^ (g - 5)) * 2 ^ (10 * n)) := by
        intro m hm x hx
        rw [VN_lay5 hm (by omega) hroom x hx, l1, t5, Nat.add_mul, Nat.mul_assoc]
        omega
      dsimp only
      by_cases c : WN w 0 / 1000 ^ n < 8
      · rw [if_pos c] at hm ⊢
        rw [if_neg (fun q => absurd ((lit_le (a := WN w 0 / 1000 ^ n) (8:Int32) 8 rfl (by decide) (by omega)).mp q) (by omega))]
        refine ⟨_, _, _, rfl, ?_, r3⟩
        exact hfin _ hm _ (by rw [show (8:Int32) = nI 8 from rfl, nI_mul, nI_add, Nat.mul_comm])
      · rw [if_neg c] at hm ⊢
        rw [if_pos ((lit_le (a := WN w 0 / 1000 ^ n) (8:Int32) 8 rfl (by decide) (by omega)).mpr (by omega))]
        refine ⟨_, _, _, rfl, ?_, r3⟩
        have x1 : nI (WN w 0 / 1000 ^ n) - nI (WN w 0 / 1000 ^ n) / (2:Int32) * (2:Int32) = nI (WN w 0 / 1000 ^ n % 2) := nI_rem (b := 2) (by omega) (by decide)
        exact hfin _ hm _ (by rw [x1, show (2:Int32) = nI 2 from rfl, show (24:Int32) = nI 24 from rfl, nI_mul, nI_add, nI_add, Nat.mul_comm 2])
    · rw [if_neg k0, if_neg k0, if_neg k1]
      have l1 := VN_lay5 (h := h) (l := l) (v := 31) (p := 10 * n + (g - 5)) (by omega) (by omega) hz5 (31:Int32) rfl
      rw [hS] at l1
      have hset : ∀ b, b < 2 → VN (f_M_set (nI (10 * n + (g - 6))) (nI b) (f_M_lay (31:Int32) (nI (10 * n + (g - 5))) (5:Int32) h l).1 (f_M_lay (31:Int32) (nI (10 * n + (g - 5))) (5:Int32) h l).2).1 (f_M_set (nI (10 * n + (g - 6))) (nI b) (f_M_lay (31:Int32) (nI (10 * n + (g - 5))) (5:Int32) h l).1 (f_M_lay (31:Int32) (nI (10 * n + (g - 5))) (5:Int32) h l).2).2 = S * 2 ^ (10 * n + g) + 31 * 2 ^ (10 * n + (g - 5)) + b * 2 ^ (10 * n + (g - 6)) := by
        intro b hb
        rw [VN_set _ _ (k := 10 * n + (g - 6)) (b := b) (by omega) hb (by
          have x1 : 2 ^ (10 * n + g) = 2 ^ 5 * 2 ^ (10 * n + (g - 5)) := by rw [← Nat.pow_add]; congr 1; omega
          have := rmz (V := S * 2 ^ (10 * n + g) + 31 * 2 ^ (10 * n + (g - 5))) (X := S * 2 ^ 5 + 31) (q := 10 * n + (g - 5)) (Y := 0) (p := 10 * n + (g - 6)) (n := 1) (by rw [x1, Nat.add_mul, Nat.mul_assoc, Nat.add_zero]) (Nat.two_pow_pos _) (by omega)
          rw [Nat.pow_one] at this
          rw [l1]; exact this), l1]
      have hfin : ∀ b, b < 2 → ∃ ch cl W', f_M_layDigits f (f_M_set (nI (10 * n + (g - 6))) (nI b) (f_M_lay (31:Int32) (nI (10 * n + (g - 5))) (5:Int32) h l).1 (f_M_lay (31:Int32) (nI (10 * n + (g - 5))) (5:Int32) h l).2).1 (f_M_set (nI (10 * n + (g - 6))) (nI b) (f_M_lay (31:Int32) (nI (10 * n + (g - 5))) (5:Int32) h l).1 (f_M_lay (31:Int32) (nI (10 * n + (g - 5))) (5:Int32) h l).2).2 w md = (nI (WN w 0 / 1000 ^ n), ch, cl, W') ∧ VN ch cl = S * 2 ^ (10 * n + g) + 31 * 2 ^ (10 * n + (g - 5)) + b * 2 ^ (10 * n + (g - 6)) + en n (WN w 0) ∧ ∀ q, q < 8 → W' q = w q := by
        intro b hb
        obtain ⟨ch, cl, W', r1, r2, r3⟩ := layDigits hn htl hmd hk (h := (f_M_set (nI (10 * n + (g - 6))) (nI b) (f_M_lay (31:Int32) (nI (10 * n + (g - 5))) (5:Int32) h l).1 (f_M_lay (31:Int32) (nI (10 * n + (g - 5))) (5:Int32) h l).2).1) (l := (f_M_set (nI (10 * n + (g - 6))) (nI b) (f_M_lay (31:Int32) (nI (10 * n + (g - 5))) (5:Int32) h l).1 (f_M_lay (31:Int32) (nI (10 * n + (g - 5))) (5:Int32) h l).2).2) (X := S * 2 ^ g + 31 * 2 ^ (g - 5) + b * 2 ^ (g - 6)) (by rw [hset b hb, tg, t5, t6, Nat.add_mul, Nat.add_mul, Nat.mul_assoc, Nat.mul_assoc, Nat.mul_assoc]) ha
        exact ⟨ch, cl, W', r1, by rw [r2, hset b hb], r3⟩
      by_cases k3 : kd = 3
      · rw [if_pos k3, if_neg (by rw [k3]; decide)]
        obtain ⟨ch, cl, W', r1, r2, r3⟩ := hfin 1 (by omega)
        rw [show (1:Int32) = nI 1 from rfl, r1]
        refine ⟨_, _, _, rfl, ?_, r3⟩
        rw [r2, t5, t6, e6, Nat.mul_assoc 2, Nat.mul_assoc 63]
        omega
      · have k2 : kd = 2 := by rcases h3 with h | h | h | h; exact absurd h k0; exact absurd h k1; exact h; exact absurd h k3
        rw [if_neg k3, if_pos k2]
        obtain ⟨ch, cl, W', r1, r2, r3⟩ := hfin 0 (by omega)
        rw [show (0:Int32) = nI 0 from rfl, r1]
        refine ⟨_, _, _, rfl, ?_, r3⟩
        rw [r2, t5, Nat.mul_assoc 31]
        omega
theorem ok_closeT {f : Int32} {n g : Nat} (hg : 7 ≤ g) (hg2 : g ≤ 30) (hn : n ≤ 11) (hw : 10 * n + g ≤ 127) (hf : ¬ f ≤ (6:Int32)) (hwid : f_M_width f = nI (10 * n + g + 1)) (htl : f_M_tail f = nI (10 * n)) {w : Nat → Int64} (hk : Wok w 0) : ok_M_closeDecimal f w := by
  unfold ok_M_closeDecimal
  intro u1 h1 u2 h2
  rw [hwid] at h1
  rw [htl] at h2
  rw [h1, h2, u_sub (10 * n + g + 1) 1 (by omega) (1:Int32) rfl, show 10 * n + g + 1 - 1 = 10 * n + g from by omega, u_sub (10 * n + g) (10 * n) (by omega) _ rfl, show 10 * n + g - 10 * n = g from by omega, u_sub g 5 (by omega) (5:Int32) rfl]
  have l5 : ok_M_lay (5:Int32) := ok_lay (n := 5) (by decide)
  have ld := ok_layDigits hn htl hk
  exact ⟨l5, ⟨fun q => absurd q hf, fun _ => ⟨ld, ok_lay (by omega), l5⟩⟩, l5, fun q => absurd q hf, fun _ => ld⟩

