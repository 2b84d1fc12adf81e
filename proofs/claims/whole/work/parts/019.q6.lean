/-! the densely packed decimal formats: reading -/
def sT (n g : Nat) (L : Int32) (V : Nat) : Int32 × Int32 × Nat :=
  if V / 2 ^ (10 * n) % 2 ^ g / 2 ^ (g - 5) = 31 then (if V / 2 ^ (10 * n) % 2 ^ g / 2 ^ (g - 6) % 2 = 1 then 3 else 2, 0, dn n V)
  else if V / 2 ^ (10 * n) % 2 ^ g / 2 ^ (g - 5) = 30 then (1, 0, 0)
  else if V / 2 ^ (10 * n) % 2 ^ g / 2 ^ (g - 2) = 3 then (0, nI (V / 2 ^ (10 * n) % 2 ^ g / 2 ^ (g - 5) / 2 % 4 * 2 ^ (g - 5) + V / 2 ^ (10 * n) % 2 ^ g % 2 ^ (g - 5)) + L, (8 + V / 2 ^ (10 * n) % 2 ^ g / 2 ^ (g - 5) % 2) * 1000 ^ n + dn n V)
  else (0, nI (V / 2 ^ (10 * n) % 2 ^ g / 2 ^ (g - 5) / 8 * 2 ^ (g - 5) + V / 2 ^ (10 * n) % 2 ^ g % 2 ^ (g - 5)) + L, V / 2 ^ (10 * n) % 2 ^ g / 2 ^ (g - 5) % 8 * 1000 ^ n + dn n V)
theorem beginsT {x : Int64} {g : Nat} (hg : 6 ≤ g) (hg2 : g ≤ 60) : f_T_begins x (nI g) = decide (uW x / 2 ^ (g - 2) = 3) := beginsP hg hg2
theorem readT {n g : Nat} (hg : 7 ≤ g) (hg2 : g ≤ 30) (hn : n ≤ 11) (hw : 10 * n + g ≤ 127) {L : Int32} (wh wl bh bl : Int64) :
    ∃ kd ex ch cl, f_T_readU L (nI n) (nI (10 * n)) (nI g) (nI (g - 5)) wh wl bh bl = (kd, ex, ch, cl) ∧ (kd, ex, VN ch cl) = sT n g L (VN wh wl) := by
  have hb := uW_bitsAt wh wl (p := 10 * n) (c := g) (by omega) (by omega)
  have hH : VN wh wl / 2 ^ (10 * n) % 2 ^ g < 2 ^ g := Nat.mod_lt _ (Nat.two_pow_pos g)
  have pg : 2 ^ g ≤ 2 ^ 30 := Nat.pow_le_pow_right (by decide) hg2
  have e5 : 2 ^ g = 2 ^ (g - 5) * 32 := by rw [pow_split (a := g - 5) (b := g) (by omega), show g - (g - 5) = 5 from by omega]
  unfold f_T_readU sT
  rw [u_sub g 5 (by omega) (5:Int32) rfl, u_sub g 6 (by omega) (6:Int32) rfl]
  dsimp only
  rw [← hb] at hH
  generalize f_W_bitsAt (nI (10 * n)) (nI g) wh wl = x at *
  rw [← hb]
  have h5 := uW_ushr x (k := g - 5) (by omega)
  have h6 := uW_ushr x (k := g - 6) (by omega)
  have hF : uW x / 2 ^ (g - 5) < 32 := (Nat.div_lt_iff_lt_mul (Nat.two_pow_pos _)).mpr (by rw [Nat.mul_comm, ← e5]; exact hH)
  by_cases c1 : uW x / 2 ^ (g - 5) = 31
  · rw [if_pos ((lg_eq (b := 31) h5 rfl).mpr c1), if_pos c1]
    have h7 := uW_and1 (lushr_ x (nI (g - 6)))
    rw [h6] at h7
    have hr := readBodyT (a := 0) (n := n) (by omega) hn wh wl
    rw [Nat.zero_mul, Nat.zero_add] at hr
    by_cases c2 : uW x / 2 ^ (g - 6) % 2 = 1
    · rw [if_pos ((lg_eq (b := 1) h7 rfl).mpr c2), if_pos c2]
      exact ⟨_, _, _, _, rfl, congrArg (fun n => ((3:Int32), (0:Int32), n)) hr⟩
    · rw [if_neg (fun q => c2 ((lg_eq (b := 1) h7 rfl).mp q)), if_neg c2]
      exact ⟨_, _, _, _, rfl, congrArg (fun n => ((2:Int32), (0:Int32), n)) hr⟩
  · rw [if_neg (fun q => c1 ((lg_eq (b := 31) h5 rfl).mp q)), if_neg c1]
    by_cases c2 : uW x / 2 ^ (g - 5) = 30
    · rw [if_pos ((lg_eq (b := 30) h5 rfl).mpr c2), if_pos c2]
      exact ⟨_, _, _, _, rfl, congrArg (fun n => ((1:Int32), (0:Int32), n)) VN_00⟩
    · rw [if_neg (fun q => c2 ((lg_eq (b := 30) h5 rfl).mp q)), if_neg c2]
      unfold f_T_leadOf f_T_fieldOf
      have hlow : uW (x &&& f_W_ones (nI (g - 5))) = uW x % 2 ^ (g - 5) := uW_ones' x (by omega)
      have hml : uW x % 2 ^ (g - 5) < 2 ^ (g - 5) := Nat.mod_lt _ (Nat.two_pow_pos _)
      have a3 : nI (g - 5) + (3:Int32) = nI (g - 2) := by rw [show (3:Int32) = nI 3 from rfl, nI_add]; congr 1; omega
      have a1 : nI (g - 5) + (1:Int32) = nI (g - 4) := by rw [show (1:Int32) = nI 1 from rfl, nI_add]; congr 1; omega
      rw [beginsT (by omega) (by omega), a3, a1]
      dsimp only
      by_cases c3 : uW x / 2 ^ (g - 2) = 3
      · rw [if_neg (fun q => bI_d.mp q c3), if_neg (fun q => bI_d.mp q c3), if_pos c3]
        have s1 : uW (lushr_ x (nI (g - 4)) &&& (3:Int64)) = uW x / 2 ^ (g - 5) / 2 % 4 := by
          rw [uW_and3, uW_ushr x (by omega), show 2 ^ (g - 4) = 2 ^ (g - 5) * 2 from by rw [← Nat.pow_succ]; congr 1; omega, ← Nat.div_div_eq_div_mul]
        have s2 : uW (lshl_ (lushr_ x (nI (g - 4)) &&& (3:Int64)) (nI (g - 5))) = uW x / 2 ^ (g - 5) / 2 % 4 * 2 ^ (g - 5) := uW_shlv s1 (by omega) (by
          have : uW x / 2 ^ (g - 5) / 2 % 4 * 2 ^ (g - 5) ≤ 4 * 2 ^ (g - 5) := Nat.mul_le_mul_right _ (by omega)
          omega)
        have e2 := toI_uW (uW_orP s2 hlow hml)
        have e1 : (8:Int32) + Int64.toInt32 (lushr_ x (nI (g - 5)) &&& (1:Int64)) = nI (8 + uW x / 2 ^ (g - 5) % 2) := by rw [toI_uW (by rw [uW_and1, h5] : uW (lushr_ x (nI (g - 5)) &&& (1:Int64)) = uW x / 2 ^ (g - 5) % 2)]; exact nI_add 8 _
        rw [e1, e2]
        have hr := readBodyT (a := 8 + uW x / 2 ^ (g - 5) % 2) (n := n) (by omega) hn wh wl
        exact ⟨_, _, _, _, rfl, congrArg (fun k => ((0:Int32), nI (uW x / 2 ^ (g - 5) / 2 % 4 * 2 ^ (g - 5) + uW x % 2 ^ (g - 5)) + L, k)) hr⟩
      · rw [if_pos (bI_d.mpr c3), if_pos (bI_d.mpr c3), if_neg c3]
        have s1 : uW (lushr_ x (nI (g - 2))) = uW x / 2 ^ (g - 5) / 8 := by rw [uW_ushr x (by omega), five8 (by omega)]
        have s2 : uW (lshl_ (lushr_ x (nI (g - 2))) (nI (g - 5))) = uW x / 2 ^ (g - 5) / 8 * 2 ^ (g - 5) := uW_shlv s1 (by omega) (by
          have : uW x / 2 ^ (g - 5) / 8 * 2 ^ (g - 5) ≤ 4 * 2 ^ (g - 5) := Nat.mul_le_mul_right _ (by omega)
          omega)
        have e2 := toI_uW (uW_orP s2 hlow hml)
        have e1 : Int64.toInt32 (lushr_ x (nI (g - 5)) &&& (7:Int64)) = nI (uW x / 2 ^ (g - 5) % 8) := toI_uW (by rw [uW_and7, h5])
        rw [e1, e2]
        have hr := readBodyT (a := uW x / 2 ^ (g - 5) % 8) (n := n) (by omega) hn wh wl
        exact ⟨_, _, _, _, rfl, congrArg (fun k => ((0:Int32), nI (uW x / 2 ^ (g - 5) / 8 * 2 ^ (g - 5) + uW x % 2 ^ (g - 5)) + L, k)) hr⟩
theorem openT {f L : Int32} {n g : Nat} (hg : 7 ≤ g) (hg2 : g ≤ 30) (hn : n ≤ 11) (hw : 10 * n + g ≤ 127) (hf : ¬ f ≤ (6:Int32)) (hwid : f_M_width f = nI (10 * n + g + 1)) (htl : f_M_tail f = nI (10 * n)) (hL : f_M_least f = L) (h l : Int64) (w : Nat → Int64) {sp : Nat → Int32} (hsp : ∀ d, d < 1024 → sp d = f_E_read (nI d)) :
    ∃ kd ex W, f_M_openDecimal f 0 0 h l w sp = (kd, ex, W) ∧ (kd, ex, WN W 0) = sT n g L (VN h l) ∧ Wok W 0 := by
  have hfe : f_M_field (nI (10 * n + (g - 5))) (5:Int32) h l = nI (VN h l / 2 ^ (10 * n) % 2 ^ g / 2 ^ (g - 5)) := by
    rw [hd_div (by omega), show g - (g - 5) = 5 from by omega]
    exact field_eq h l (p := 10 * n + (g - 5)) (n := 5) (by omega) (by omega)
  have hF : VN h l / 2 ^ (10 * n) % 2 ^ g / 2 ^ (g - 5) < 32 := by
    rw [hd_div (by omega), show g - (g - 5) = 5 from by omega]; exact Nat.mod_lt _ (by decide)
  have h8 := five8 (H := VN h l / 2 ^ (10 * n) % 2 ^ g) (g := g) (by omega)
  have hlo : f_M_field (nI (10 * n)) (nI (g - 5)) h l = nI (VN h l / 2 ^ (10 * n) % 2 ^ g % 2 ^ (g - 5)) := by
    rw [field_eq h l (by omega) (by omega), mod_below (by omega)]
  obtain ⟨z1, z2⟩ := be0_0 w
  unfold f_M_openDecimal sT
  rw [hwid, htl, hL]
  dsimp only
  rw [if_neg hf]
  rw [u_sub (10 * n + g + 1) 1 (by omega) (1:Int32) rfl, u_sub (10 * n + g + 1) 6 (by omega) (6:Int32) rfl, u_sub (10 * n + g + 1) 7 (by omega) (7:Int32) rfl, show 10 * n + g + 1 - 1 = 10 * n + g from by omega, u_sub (10 * n + g) (10 * n) (by omega) _ rfl, show 10 * n + g - 10 * n = g from by omega, u_sub g 5 (by omega) (5:Int32) rfl, show 10 * n + g + 1 - 6 = 10 * n + (g - 5) from by omega, show 10 * n + g + 1 - 7 = 10 * n + (g - 6) from by omega, nI_pow (g - 5) (by omega)]
  rw [hfe, hlo]
  generalize hFd : VN h l / 2 ^ (10 * n) % 2 ^ g / 2 ^ (g - 5) = F at *
  by_cases c1 : F = 30
  · rw [if_pos ((nI_lit (30:Int32) 30 rfl (by decide) (by omega)).mpr c1), if_neg (by omega), if_pos c1]
    exact ⟨_, _, _, rfl, congrArg (fun n => ((1:Int32), (0:Int32), n)) z1, z2⟩
  · rw [if_neg (fun q => c1 ((nI_lit (30:Int32) 30 rfl (by decide) (by omega)).mp q))]
    by_cases c2 : F = 31
    · rw [if_pos ((nI_lit (31:Int32) 31 rfl (by decide) (by omega)).mpr c2), if_pos c2]
      have hbit : VN h l / 2 ^ (10 * n) % 2 ^ g / 2 ^ (g - 6) % 2 = VN h l / 2 ^ (10 * n + (g - 6)) % 2 := by
        rw [hd_div (by omega), show g - (g - 6) = 6 from by omega]
        exact Nat.mod_mul_right_mod _ 2 32
      obtain ⟨a, b⟩ := takeDigits hn htl h l hsp z2 (a := 0) (by omega) z1
      rw [Nat.zero_mul, Nat.zero_add] at a
      have hlt : VN h l / 2 ^ (10 * n + (g - 6)) % 2 < 2 := Nat.mod_lt _ (by decide)
      rw [bit_eq h l (k := 10 * n + (g - 6)) (by omega), hbit]
      by_cases c3 : VN h l / 2 ^ (10 * n + (g - 6)) % 2 = 1
      · rw [if_pos ((nI_lit (1:Int32) 1 rfl (by decide) (by omega)).mpr c3), if_pos c3]
        exact ⟨_, _, _, rfl, congrArg (fun n => ((3:Int32), (0:Int32), n)) a, b⟩
      · rw [if_neg (fun q => c3 ((nI_lit (1:Int32) 1 rfl (by decide) (by omega)).mp q)), if_neg c3]
        exact ⟨_, _, _, rfl, congrArg (fun n => ((2:Int32), (0:Int32), n)) a, b⟩
    · rw [if_neg (fun q => c2 ((nI_lit (31:Int32) 31 rfl (by decide) (by omega)).mp q)), if_neg c2, if_neg c1]
      by_cases c3 : 24 ≤ F
      · rw [if_pos ((lit_le (24:Int32) 24 rfl (by decide) (by omega)).mpr c3), if_pos (by rw [h8]; omega)]
        have x1 : nI F - nI F / (2:Int32) * (2:Int32) = nI (F % 2) := nI_rem (a := F) (b := 2) (by omega) (by decide)
        have x2 : nI F / (2:Int32) = nI (F / 2) := nI_div (a := F) (b := 2) (by omega) (by decide)
        have x3 : nI (F / 2) - nI (F / 2) / (4:Int32) * (4:Int32) = nI (F / 2 % 4) := nI_rem (a := F / 2) (b := 4) (by omega) (by decide)
        rw [x1, x2, x3, nI_mul, nI_add, show (8:Int32) + nI (F % 2) = nI (8 + F % 2) from nI_add 8 _]
        obtain ⟨y1, y2⟩ := WN_be0 (Int32.toInt64 (nI (8 + F % 2))) (f_M_be0 (0:Int64) w)
        rw [uW_i2l (by omega)] at y1
        obtain ⟨a, b⟩ := takeDigits hn htl h l hsp y2 (a := 8 + F % 2) (by omega) y1
        exact ⟨_, _, _, rfl, congrArg (fun k => ((0:Int32), nI (F / 2 % 4 * 2 ^ (g - 5) + VN h l / 2 ^ (10 * n) % 2 ^ g % 2 ^ (g - 5)) + L, k)) a, b⟩
      · rw [if_neg (fun q => c3 ((lit_le (24:Int32) 24 rfl (by decide) (by omega)).mp q)), if_neg (by rw [h8]; omega)]
        have x1 : nI F - nI F / (8:Int32) * (8:Int32) = nI (F % 8) := nI_rem (a := F) (b := 8) (by omega) (by decide)
        have x2 : nI F / (8:Int32) = nI (F / 8) := nI_div (a := F) (b := 8) (by omega) (by decide)
        rw [x1, x2, nI_mul, nI_add]
        obtain ⟨y1, y2⟩ := WN_be0 (Int32.toInt64 (nI (F % 8))) (f_M_be0 (0:Int64) w)
        rw [uW_i2l (by omega)] at y1
        obtain ⟨a, b⟩ := takeDigits hn htl h l hsp y2 (a := F % 8) (by omega) y1
        exact ⟨_, _, _, rfl, congrArg (fun k => ((0:Int32), nI (F / 8 * 2 ^ (g - 5) + VN h l / 2 ^ (10 * n) % 2 ^ g % 2 ^ (g - 5)) + L, k)) a, b⟩
theorem ok_openT {f : Int32} {n g : Nat} (hg : 7 ≤ g) (hg2 : g ≤ 30) (hn : n ≤ 11) (hw : 10 * n + g ≤ 127) (hf : ¬ f ≤ (6:Int32)) (hwid : f_M_width f = nI (10 * n + g + 1)) (htl : f_M_tail f = nI (10 * n)) (h l : Int64) : ok_M_openDecimal f h l := by
  unfold ok_M_openDecimal
  intro u1 h1 u2 h2
  rw [hwid] at h1
  rw [htl] at h2
  rw [h1, h2, u_sub (10 * n + g + 1) 1 (by omega) (1:Int32) rfl, show 10 * n + g + 1 - 1 = 10 * n + g from by omega, u_sub (10 * n + g) (10 * n) (by omega) _ rfl, show 10 * n + g - 10 * n = g from by omega, u_sub g 5 (by omega) (5:Int32) rfl]
  exact ⟨ok_field (n := 5) (by decide), fun q => absurd q hf, fun _ => ⟨ok_takeDigits hn htl h l, ok_field (by omega), ok_takeDigits hn htl h l⟩⟩

