/-! the plain decimal formats: writing, the class -/
/-- the head of a datum: of its kind, its field d, and what stands above the tail -/
def hdP (g : Nat) (kd : Int32) (d a : Nat) : Nat :=
  if kd = 0 then (if a < 8 then d * 8 + a else 3 * 2 ^ (g - 2) + d * 2 + a % 2)
  else if kd = 1 then 30 * 2 ^ (g - 5) else if kd = 2 then 31 * 2 ^ (g - 5) else 63 * 2 ^ (g - 6)
theorem pw2 {g k : Nat} (h : k ≤ g) : 2 ^ g = 2 ^ k * 2 ^ (g - k) := pow_split h
theorem hdP_lt {g d a : Nat} (hg : 7 ≤ g) (kd : Int32) (ha : a < 10) (hd : kd = 0 → d < 3 * 2 ^ (g - 5)) : hdP g kd d a < 2 ^ g := by
  unfold hdP
  have e5 : 2 ^ g = 32 * 2 ^ (g - 5) := by rw [pw2 (g := g) (k := 5) (by omega)]
  have e2 : 2 ^ (g - 2) = 8 * 2 ^ (g - 5) := by rw [show (8:Nat) = 2 ^ 3 from rfl, ← Nat.pow_add]; congr 1; omega
  have e6 : 2 ^ (g - 5) = 2 * 2 ^ (g - 6) := by rw [← Nat.pow_succ']; congr 1; omega
  have p6 : 0 < 2 ^ (g - 6) := Nat.two_pow_pos _
  generalize 2 ^ (g - 5) = x5 at *
  generalize 2 ^ (g - 6) = x6 at *
  generalize 2 ^ (g - 2) = x2 at *
  by_cases k0 : kd = 0
  · have := hd k0
    rw [if_pos k0]; split <;> omega
  · rw [if_neg k0]; split
    · omega
    · split <;> omega
theorem uW_shlv {x : Int64} {n k : Nat} (hx : uW x = n) (hk : k < 64) (hb : n * 2 ^ k < 2 ^ 64) : uW (lshl_ x (nI k)) = n * 2 ^ k := by
  rw [uW_shl x hk, hx, Nat.mod_eq_of_lt hb]
theorem i_and1 {a : Nat} (ha : a < 16) : (nI a &&& (1:Int32)) = nI (a % 2) := by
  have : ∀ a, a < 16 → (nI a &&& (1:Int32)) = nI (a % 2) := by decide +kernel
  exact this a ha
theorem lit_le {a : Nat} (x : Int32) (m : Nat) (hx : x = nI m) (hm : m < 2 ^ 31) (ha : a < 2 ^ 31) : x ≤ nI a ↔ m ≤ a := by rw [hx]; exact nI_leI hm ha
theorem headForP {g d a : Nat} (hg : 7 ≤ g) (hg2 : g ≤ 30) {kd ex L : Int32} (ha : a < 10) (hd : kd = 0 → ex = nI d + L ∧ d < 3 * 2 ^ (g - 5)) : uW (f_P_headFor (nI a) L (nI g) kd ex) = hdP g kd d a := by
  have hlt := hdP_lt (d := d) (a := a) hg kd ha (fun k => (hd k).2)
  have pg : 2 ^ g ≤ 2 ^ 30 := Nat.pow_le_pow_right (by decide) hg2
  unfold f_P_headFor hdP
  unfold hdP at hlt
  rw [u_sub g 5 (by omega) (5:Int32) rfl, u_sub g 6 (by omega) (6:Int32) rfl]
  by_cases k0 : kd = 0
  · obtain ⟨d1, d2⟩ := hd k0
    rw [if_pos k0] at hlt ⊢
    rw [if_pos k0, d1, Int32.add_sub_cancel]
    unfold f_P_headOf
    rw [u_sub g 2 (by omega) (2:Int32) rfl, i_and1 (by omega)]
    have e2 : 2 ^ (g - 2) = 8 * 2 ^ (g - 5) := by rw [show (8:Nat) = 2 ^ 3 from rfl, ← Nat.pow_add]; congr 1; omega
    have e5 : 2 ^ g = 32 * 2 ^ (g - 5) := by rw [pw2 (g := g) (k := 5) (by omega)]
    have hd31 : d < 2 ^ 31 := by omega
    have hud : uW (Int32.toInt64 (nI d)) = d := uW_i2l hd31
    dsimp only
    by_cases c : a < 8
    · rw [if_pos c] at hlt ⊢
      rw [if_neg (fun q => absurd ((lit_le (a := a) (8:Int32) 8 rfl (by omega) (by omega)).mp q) (by omega))]
      have s1 : uW (lshl_ (Int32.toInt64 (nI d)) (3:Int32)) = d * 2 ^ 3 := uW_shlv (k := 3) hud (by decide) (by omega)
      exact uW_orP s1 (uW_i2l (by omega)) (by omega)
    · rw [if_neg c] at hlt ⊢
      rw [if_pos ((lit_le (a := a) (8:Int32) 8 rfl (by omega) (by omega)).mpr (by omega))]
      have s0 : uW (lshl_ (3:Int64) (nI (g - 2))) = 3 * 2 ^ (g - 2) := uW_shlv (n := 3) rfl (by omega) (by omega)
      have s1 : uW (lshl_ (Int32.toInt64 (nI d)) (1:Int32)) = d * 2 ^ 1 := uW_shlv (k := 1) hud (by decide) (by omega)
      have s2 := uW_orP (k := g - 2) (a := 3) s0 s1 (by omega)
      have s3 : 3 * 2 ^ (g - 2) + d * 2 ^ 1 = (3 * 2 ^ (g - 3) + d) * 2 ^ 1 := by
        have : 2 ^ (g - 2) = 2 ^ (g - 3) * 2 := by rw [← Nat.pow_succ]; congr 1; omega
        rw [this]; omega
      rw [s3] at s2
      have s4 := uW_orP s2 (uW_i2l (n := a % 2) (by omega)) (by omega)
      rw [s4, ← s3, Nat.pow_one]
  · rw [if_neg k0] at hlt ⊢
    rw [if_neg k0]
    by_cases k1 : kd = 1
    · rw [if_pos k1] at hlt ⊢
      rw [if_pos k1]; exact uW_shlv (n := 30) rfl (by omega) (by omega)
    · rw [if_neg k1] at hlt ⊢
      rw [if_neg k1]
      by_cases k2 : kd = 2
      · rw [if_pos k2] at hlt ⊢
        rw [if_pos k2]; exact uW_shlv (n := 31) rfl (by omega) (by omega)
      · rw [if_neg k2] at hlt ⊢
        rw [if_neg k2]; exact uW_shlv (n := 63) rfl (by omega) (by omega)
/-- the pattern of a datum that a plain decimal format has, its sign aside -/
def wP (t g : Nat) (kd : Int32) (d B : Nat) : Nat := B % 2 ^ t + hdP g kd d (B / 2 ^ t) * 2 ^ t
theorem lt_top {h b t g : Nat} (hh : h < 2 ^ g) (hb : b < 2 ^ t) : b + h * 2 ^ t < 2 ^ (t + g) := by
  have : (h + 1) * 2 ^ t ≤ 2 ^ g * 2 ^ t := Nat.mul_le_mul_right _ hh
  rw [Nat.add_mul, Nat.one_mul] at this
  rw [Nat.pow_add, Nat.mul_comm (2 ^ t)]
  omega
theorem writeP {t g d : Nat} (hg : 7 ≤ g) (hg2 : g ≤ 30) (hw : t + g ≤ 127) {L kd ex : Int32} {bh bl : Int64} (hd : kd = 0 → ex = nI d + L ∧ d < 3 * 2 ^ (g - 5)) (hB : VN bh bl < 10 * 2 ^ t) :
    VN (f_P_writeU L (nI t) (nI g) kd ex bh bl).1 (f_P_writeU L (nI t) (nI g) kd ex bh bl).2 = wP t g kd d (VN bh bl) ∧ wP t g kd d (VN bh bl) < 2 ^ (t + g) := by
  have p0 : 0 < 2 ^ t := Nat.two_pow_pos t
  have hk := VN_keep bh bl (k := t) (by omega)
  have hb := uW_bitsAt bh bl (p := t) (c := 4) (by omega) (by omega)
  have ha : VN bh bl / 2 ^ t < 10 := (Nat.div_lt_iff_lt_mul p0).mpr hB
  rw [Nat.mod_eq_of_lt (by omega)] at hb
  have hh := headForP (g := g) (d := d) (a := VN bh bl / 2 ^ t) hg hg2 (kd := kd) (ex := ex) (L := L) ha hd
  have hlt := hdP_lt (d := d) (a := VN bh bl / 2 ^ t) hg kd ha (fun k => (hd k).2)
  unfold f_P_writeU f_P_writeTail f_W_copy f_W_set wP
  dsimp only
  rw [show (4:Int32) = nI 4 from rfl, toI_uW hb]
  refine ⟨?_, lt_top hlt (Nat.mod_lt _ p0)⟩
  rw [VN_add _ _ _ (p := t) (m := g) (by omega) (by omega) (by rw [hh]; exact hlt) (by rw [hk, div_lt_pow (Nat.mod_lt _ p0), Nat.zero_mod]), hk, hh]

