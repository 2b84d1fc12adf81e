theorem e_great {H g : Nat} (hg : 7 ≤ g) (h1 : 24 ≤ H / 2 ^ (g - 5)) (h2 : H / 2 ^ (g - 5) < 30) : H / 2 % 2 ^ (g - 3) < 3 * 2 ^ (g - 5) := by
  have e3 : 2 ^ (g - 3) = 4 * 2 ^ (g - 5) := by rw [show (4:Nat) = 2 ^ 2 from rfl, ← Nat.pow_add]; congr 1; omega
  have p0 : 0 < 2 ^ (g - 5) := Nat.two_pow_pos _
  rw [Nat.le_div_iff_mul_le p0] at h1
  rw [Nat.div_lt_iff_lt_mul p0] at h2
  rw [e3]
  generalize 2 ^ (g - 5) = r at *
  have : H / 2 = 4 * r * 3 + (H / 2 - 4 * r * 3) := by omega
  rw [this, Nat.mul_add_mod, Nat.mod_eq_of_lt (by omega)]
  omega
theorem e_small {H g : Nat} (h2 : H / 2 ^ (g - 5) < 24) : H / 8 < 3 * 2 ^ (g - 5) := by
  have p0 : 0 < 2 ^ (g - 5) := Nat.two_pow_pos _
  rw [Nat.div_lt_iff_lt_mul p0] at h2
  generalize 2 ^ (g - 5) = r at *
  omega
theorem F_cases {H g : Nat} (hg : 7 ≤ g) (hH : H < 2 ^ g) : H / 2 ^ (g - 5) < 32 ∧ (H / 2 ^ (g - 2) = 3 ↔ 24 ≤ H / 2 ^ (g - 5)) := by
  have e5 : 2 ^ g = 32 * 2 ^ (g - 5) := by rw [pw2 (g := g) (k := 5) (by omega)]
  have h1 : H / 2 ^ (g - 5) < 32 := (Nat.div_lt_iff_lt_mul (Nat.two_pow_pos _)).mpr (by rw [← e5]; exact hH)
  refine ⟨h1, ?_⟩
  rw [five8 (by omega)]
  generalize H / 2 ^ (g - 5) = F at *
  omega
/-- of a datum that a decimal format has: the field, the range -/
theorem hP_use {P Q D : Nat} {L kd ex : Int32} {B : Nat} (hD : D < 2 ^ 31) (hov : L.toInt + D < 2 ^ 31) (hPQ : Q ≤ P) (h0 : 0 < Q) (hk : okD kd B) (hh : hP P Q L (nI D + L) kd ex B = true) : (kd = 0 → ex = nI (ex - L).toNatClampNeg + L ∧ (ex - L).toNatClampNeg ≤ D) ∧ B < P ∧ (kd ≠ 0 → B < Q) := by
  unfold hP at hh
  by_cases k0 : kd = 0
  · rw [if_pos k0] at hh
    obtain ⟨a1, a2, a3⟩ := of_decide_eq_true hh
    exact ⟨fun _ => rng hD hov a1 a2, a3, fun q => absurd k0 q⟩
  · rw [if_neg k0] at hh
    have hB : B < Q := by
      by_cases k1 : kd = 1
      · rw [hk.2 k1]; exact h0
      · rw [if_neg k1] at hh; exact of_decide_eq_true hh
    exact ⟨fun q => absurd q k0, by omega, fun _ => hB⟩
theorem fP_good {t g p : Nat} {L : Int32} (hg : 7 ≤ g) (hg2 : g ≤ 30) (hw : t + g ≤ 127) (hp : 10 ^ p ≤ 10 * 2 ^ t) (hq : 10 ^ (p - 1) ≤ 2 ^ t) (hov : L.toInt + (3 * 2 ^ (g - 5) - 1 : Nat) < 2 ^ 31) : (fP t g p L (nI (3 * 2 ^ (g - 5) - 1) + L)).good := by
  have pg : 2 ^ g ≤ 2 ^ 30 := Nat.pow_le_pow_right (by decide) hg2
  have e5 : 2 ^ g = 32 * 2 ^ (g - 5) := by rw [pw2 (g := g) (k := 5) (by omega)]
  have p0 : 0 < 2 ^ (g - 5) := Nat.two_pow_pos _
  have hD : 3 * 2 ^ (g - 5) - 1 < 2 ^ 31 := by omega
  have q0 : 0 < 10 ^ (p - 1) := Nat.pow_pos (by decide)
  have qp : 10 ^ (p - 1) ≤ 10 ^ p := Nat.pow_le_pow_right (by decide) (by omega)
  have P0 : 0 < 10 ^ p := by omega
  refine ⟨hw, ?_, ?_, ?_⟩
  · intro V
    show okD (sP t g (10 ^ p) (10 ^ (p - 1)) L V).1 (sP t g (10 ^ p) (10 ^ (p - 1)) L V).2.2
    unfold sP okD
    try dsimp only
    split
    · split
      · exact ⟨Or.inr (Or.inr (Or.inr rfl)), fun (q : (3:Int32) = 1) => absurd q (by decide)⟩
      · exact ⟨Or.inr (Or.inr (Or.inl rfl)), fun (q : (2:Int32) = 1) => absurd q (by decide)⟩
    · split
      · exact ⟨Or.inr (Or.inl rfl), fun _ => rfl⟩
      · split
        · exact ⟨Or.inl rfl, fun (q : (0:Int32) = 1) => absurd q (by decide)⟩
        · exact ⟨Or.inl rfl, fun (q : (0:Int32) = 1) => absurd q (by decide)⟩
  · intro V
    have hH : V / 2 ^ t % 2 ^ g < 2 ^ g := Nat.mod_lt _ (Nat.two_pow_pos g)
    show hP (10 ^ p) (10 ^ (p - 1)) L (nI (3 * 2 ^ (g - 5) - 1) + L) (sP t g (10 ^ p) (10 ^ (p - 1)) L V).1 (sP t g (10 ^ p) (10 ^ (p - 1)) L V).2.1 (sP t g (10 ^ p) (10 ^ (p - 1)) L V).2.2 = true
    unfold sP hP
    try dsimp only
    generalize V / 2 ^ t % 2 ^ g = H at *
    obtain ⟨f1, f2⟩ := F_cases hg hH
    by_cases c1 : H / 2 ^ (g - 5) = 31
    · rw [if_pos c1]
      split
      · exact decide_eq_true (cap_lt q0)
      · exact decide_eq_true (cap_lt q0)
    · rw [if_neg c1]
      by_cases c2 : H / 2 ^ (g - 5) = 30
      · rw [if_pos c2]; rfl
      · rw [if_neg c2]
        by_cases c3 : H / 2 ^ (g - 2) = 3
        · rw [if_pos c3]
          have he := e_great (H := H) hg (f2.mp c3) (by omega)
          have := rng2 (L := L) (D := 3 * 2 ^ (g - 5) - 1) (j := H / 2 % 2 ^ (g - 3)) hD hov (by omega)
          exact decide_eq_true ⟨this.1, this.2.1, cap_lt P0⟩
        · rw [if_neg c3]
          have he := e_small (H := H) (g := g) (by have := fun q => c3 (f2.mpr q); omega)
          have := rng2 (L := L) (D := 3 * 2 ^ (g - 5) - 1) (j := H / 8) hD hov (by omega)
          exact decide_eq_true ⟨this.1, this.2.1, cap_lt P0⟩
  · intro kd ex B hk hh
    have hh : hP (10 ^ p) (10 ^ (p - 1)) L (nI (3 * 2 ^ (g - 5) - 1) + L) kd ex B = true := hh
    obtain ⟨a1, a2, a3⟩ := hP_use hD hov qp q0 hk hh
    show wP t g kd (ex - L).toNatClampNeg B < 2 ^ (t + g)
    have t0 := Nat.two_pow_pos t
    exact lt_top (hdP_lt hg kd ((Nat.div_lt_iff_lt_mul t0).mpr (by omega)) (fun k => by have := (a1 k).2; omega)) (Nat.mod_lt _ t0)
theorem fT_good {n g : Nat} {L : Int32} (hg : 7 ≤ g) (hg2 : g ≤ 30) (hn : n ≤ 11) (hw : 10 * n + g ≤ 127) (hov : L.toInt + (3 * 2 ^ (g - 5) - 1 : Nat) < 2 ^ 31) : (fT n g L (nI (3 * 2 ^ (g - 5) - 1) + L)).good := by
  have pg : 2 ^ g ≤ 2 ^ 30 := Nat.pow_le_pow_right (by decide) hg2
  have e5 : 2 ^ g = 32 * 2 ^ (g - 5) := by rw [pw2 (g := g) (k := 5) (by omega)]
  have p0 : 0 < 2 ^ (g - 5) := Nat.two_pow_pos _
  have hD : 3 * 2 ^ (g - 5) - 1 < 2 ^ 31 := by omega
  have q0 : 0 < 10 ^ (3 * n) := Nat.pow_pos (by decide)
  have qp : 10 ^ (3 * n) ≤ 10 ^ (3 * n + 1) := Nat.pow_le_pow_right (by decide) (by omega)
  have h3 : 10 ^ (3 * n + 1) = 10 * 1000 ^ n := by rw [Nat.pow_succ, Nat.pow_mul, Nat.mul_comm]
  have h4 : 10 ^ (3 * n) = 1000 ^ n := by rw [Nat.pow_mul]
  refine ⟨hw, ?_, ?_, ?_⟩
  · intro V
    show okD (sT n g L V).1 (sT n g L V).2.2
    unfold sT okD
    try dsimp only
    split
    · split
      · exact ⟨Or.inr (Or.inr (Or.inr rfl)), fun (q : (3:Int32) = 1) => absurd q (by decide)⟩
      · exact ⟨Or.inr (Or.inr (Or.inl rfl)), fun (q : (2:Int32) = 1) => absurd q (by decide)⟩
    · split
      · exact ⟨Or.inr (Or.inl rfl), fun _ => rfl⟩
      · split
        · exact ⟨Or.inl rfl, fun (q : (0:Int32) = 1) => absurd q (by decide)⟩
        · exact ⟨Or.inl rfl, fun (q : (0:Int32) = 1) => absurd q (by decide)⟩
  · intro V
    have hH : V / 2 ^ (10 * n) % 2 ^ g < 2 ^ g := Nat.mod_lt _ (Nat.two_pow_pos g)
    have hml : V / 2 ^ (10 * n) % 2 ^ g % 2 ^ (g - 5) < 2 ^ (g - 5) := Nat.mod_lt _ p0
    have hdn := dn_lt n V
    have hpw : ∀ a, a < 10 → a * 1000 ^ n + dn n V < 10 ^ (3 * n + 1) := fun a ha => (pow1000 ha hn V).1
    show hP (10 ^ (3 * n + 1)) (10 ^ (3 * n)) L (nI (3 * 2 ^ (g - 5) - 1) + L) (sT n g L V).1 (sT n g L V).2.1 (sT n g L V).2.2 = true
    unfold sT hP
    try dsimp only
    generalize V / 2 ^ (10 * n) % 2 ^ g = H at *
    obtain ⟨f1, f2⟩ := F_cases hg hH
    by_cases c1 : H / 2 ^ (g - 5) = 31
    · rw [if_pos c1]
      split
      · exact decide_eq_true (show dn n V < 10 ^ (3 * n) by rw [h4]; exact hdn)
      · exact decide_eq_true (show dn n V < 10 ^ (3 * n) by rw [h4]; exact hdn)
    · rw [if_neg c1]
      by_cases c2 : H / 2 ^ (g - 5) = 30
      · rw [if_pos c2]; rfl
      · rw [if_neg c2]
        generalize hFd : H / 2 ^ (g - 5) = F at *
        have hjj : ∀ a, a < 3 → a * 2 ^ (g - 5) + H % 2 ^ (g - 5) ≤ 3 * 2 ^ (g - 5) - 1 := by
          intro a ha
          have : (a + 1) * 2 ^ (g - 5) ≤ 3 * 2 ^ (g - 5) := Nat.mul_le_mul_right _ ha
          rw [Nat.add_mul, Nat.one_mul] at this
          omega
        by_cases c3 : H / 2 ^ (g - 2) = 3
        · rw [if_pos c3]
          have h24 := f2.mp c3
          have := rng2 (L := L) (D := 3 * 2 ^ (g - 5) - 1) (j := F / 2 % 4 * 2 ^ (g - 5) + H % 2 ^ (g - 5)) hD hov (hjj _ (by omega))
          exact decide_eq_true ⟨this.1, this.2.1, hpw _ (by omega)⟩
        · rw [if_neg c3]
          have h24 : F < 24 := by have := fun q => c3 (f2.mpr q); omega
          have := rng2 (L := L) (D := 3 * 2 ^ (g - 5) - 1) (j := F / 8 * 2 ^ (g - 5) + H % 2 ^ (g - 5)) hD hov (hjj _ (by omega))
          exact decide_eq_true ⟨this.1, this.2.1, hpw _ (by omega)⟩
  · intro kd ex B hk hh
    have hh : hP (10 ^ (3 * n + 1)) (10 ^ (3 * n)) L (nI (3 * 2 ^ (g - 5) - 1) + L) kd ex B = true := hh
    obtain ⟨a1, a2, a3⟩ := hP_use hD hov qp q0 hk hh
    show wT n g kd (ex - L).toNatClampNeg B < 2 ^ (10 * n + g)
    exact lt_top (hdT_lt hg kd ((Nat.div_lt_iff_lt_mul (Nat.pow_pos (by decide))).mpr (by omega)) (fun k => by have := (a1 k).2; omega)) (en_lt _ _)

