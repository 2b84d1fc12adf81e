/-! a format as numbers; exponents in range -/
theorem toInt_addI {j : Nat} {L : Int32} (hj : j < 2 ^ 31) (hov : L.toInt + j < 2 ^ 31) : (nI j + L).toInt = j + L.toInt := by
  have h1 := L.le_toInt
  have h2 := L.toInt_lt
  rw [Int32.toInt_add, nI_toInt hj]
  apply Int.bmod_eq_of_le <;> omega
theorem rng2 {L : Int32} {D j : Nat} (hD : D < 2 ^ 31) (hov : L.toInt + D < 2 ^ 31) (hj : j ≤ D) : ¬ nI j + L < L ∧ ¬ nI D + L < nI j + L ∧ (nI j + L - L).toNatClampNeg = j := by
  have e1 := toInt_addI (j := j) (L := L) (by omega) (by omega)
  have e2 := toInt_addI (j := D) (L := L) hD hov
  refine ⟨?_, ?_, by rw [Int32.add_sub_cancel, nI_clamp (by omega)]⟩
  · rw [Int32.lt_iff_toInt_lt, e1]; omega
  · rw [Int32.lt_iff_toInt_lt, e1, e2]; omega
theorem rng {L ex : Int32} {D : Nat} (hD : D < 2 ^ 31) (hov : L.toInt + D < 2 ^ 31) (h1 : ¬ ex < L) (h2 : ¬ nI D + L < ex) : ex = nI (ex - L).toNatClampNeg + L ∧ (ex - L).toNatClampNeg ≤ D := by
  have e2 := toInt_addI (j := D) (L := L) hD hov
  rw [Int32.lt_iff_toInt_lt] at h1
  rw [Int32.lt_iff_toInt_lt, e2] at h2
  have hj : (ex.toInt - L.toInt).toNat ≤ D := by omega
  have hex : ex = nI (ex.toInt - L.toInt).toNat + L := by
    apply Int32.toInt_inj.mp
    rw [toInt_addI (by omega) (by omega)]
    omega
  have hc : (ex - L).toNatClampNeg = (ex.toInt - L.toInt).toNat := by
    conv => lhs; rw [hex]
    exact (rng2 hD hov hj).2.2
  rw [hc]
  exact ⟨hex, hj⟩
def FS : Type := Nat × Int32 × Int32 × (Nat → Int32 × Int32 × Nat) × (Int32 → Int32 → Nat → Bool) × (Int32 → Int32 → Nat → Nat)
abbrev FS.q (F : FS) : Nat := F.1
abbrev FS.L (F : FS) : Int32 := F.2.1
abbrev FS.G (F : FS) : Int32 := F.2.2.1
abbrev FS.r (F : FS) : Nat → Int32 × Int32 × Nat := F.2.2.2.1
abbrev FS.h (F : FS) : Int32 → Int32 → Nat → Bool := F.2.2.2.2.1
abbrev FS.w (F : FS) : Int32 → Int32 → Nat → Nat := F.2.2.2.2.2
def fB (t s : Nat) (L G : Int32) : FS := ⟨t + s, L, G, sB t s L, hB t L G, fun kd ex B => wB t s kd (ex - L).toNatClampNeg B⟩
def fP (t g p : Nat) (L G : Int32) : FS := ⟨t + g, L, G, sP t g (10 ^ p) (10 ^ (p - 1)) L, hP (10 ^ p) (10 ^ (p - 1)) L G, fun kd ex B => wP t g kd (ex - L).toNatClampNeg B⟩
def fT (n g : Nat) (L G : Int32) : FS := ⟨10 * n + g, L, G, sT n g L, hP (10 ^ (3 * n + 1)) (10 ^ (3 * n)) L G, fun kd ex B => wT n g kd (ex - L).toNatClampNeg B⟩
/-- what a datum is: one of the four kinds, an infinity's body is 0 -/
def okD (kd : Int32) (B : Nat) : Prop := (kd = 0 ∨ kd = 1 ∨ kd = 2 ∨ kd = 3) ∧ (kd = 1 → B = 0)
/-- a read datum is one, and the format has it -/
def FS.good (F : FS) : Prop := F.q ≤ 127 ∧ (∀ V, okD (F.r V).1 (F.r V).2.2) ∧ (∀ V, F.h (F.r V).1 (F.r V).2.1 (F.r V).2.2 = true) ∧ ∀ kd ex B, okD kd B → F.h kd ex B = true → F.w kd ex B < 2 ^ F.q
theorem FS.good.q7 {F : FS} (g : F.good) : F.q ≤ 127 := g.1
theorem FS.good.ok {F : FS} (g : F.good) : ∀ V, okD (F.r V).1 (F.r V).2.2 := g.2.1
theorem FS.good.has {F : FS} (g : F.good) : ∀ V, F.h (F.r V).1 (F.r V).2.1 (F.r V).2.2 = true := g.2.2.1
theorem FS.good.lt {F : FS} (g : F.good) : ∀ kd ex B, okD kd B → F.h kd ex B = true → F.w kd ex B < 2 ^ F.q := g.2.2.2
theorem fB_good {t s : Nat} {L : Int32} (ht : 2 ≤ t) (hs : 2 ≤ s) (hs2 : s ≤ 30) (hw : t + s ≤ 127) (hov : L.toInt + (2 ^ s - 3 : Nat) < 2 ^ 31) : (fB t s L (nI (2 ^ s - 3) + L)).good := by
  have ps : 2 ^ s ≤ 2 ^ 30 := Nat.pow_le_pow_right (by decide) hs2
  have ps4 : 2 ^ 2 ≤ 2 ^ s := Nat.pow_le_pow_right (by decide) hs
  have pt : 2 ^ t = 2 ^ (t - 1) * 2 := by rw [← Nat.pow_succ]; congr 1; omega
  have p1 : 0 < 2 ^ (t - 1) := Nat.two_pow_pos _
  have pt1 : 2 ^ (t + 1) = 2 ^ t * 2 := Nat.pow_succ 2 t
  have hD : 2 ^ s - 3 < 2 ^ 31 := by omega
  refine ⟨hw, ?_, ?_, ?_⟩
  · intro V
    show okD (sB t s L V).1 (sB t s L V).2.2
    unfold sB okD
    try dsimp only
    split
    · split
      · exact ⟨Or.inr (Or.inl rfl), fun _ => rfl⟩
      · split
        · exact ⟨Or.inr (Or.inr (Or.inl rfl)), fun (q : (2:Int32) = 1) => absurd q (by decide)⟩
        · exact ⟨Or.inr (Or.inr (Or.inr rfl)), fun (q : (3:Int32) = 1) => absurd q (by decide)⟩
    · split
      · exact ⟨Or.inl rfl, fun (q : (0:Int32) = 1) => absurd q (by decide)⟩
      · exact ⟨Or.inl rfl, fun (q : (0:Int32) = 1) => absurd q (by decide)⟩
  · intro V
    show hB t L (nI (2 ^ s - 3) + L) (sB t s L V).1 (sB t s L V).2.1 (sB t s L V).2.2 = true
    unfold sB hB
    try dsimp only
    have hE : V / 2 ^ t % 2 ^ s < 2 ^ s := Nat.mod_lt _ (by omega)
    have hT : V % 2 ^ t < 2 ^ t := Nat.mod_lt _ (by omega)
    have hT1 : V % 2 ^ (t - 1) < 2 ^ (t - 1) := Nat.mod_lt _ p1
    by_cases c1 : V / 2 ^ t % 2 ^ s = 2 ^ s - 1
    · rw [if_pos c1]
      by_cases c2 : V % 2 ^ t = 0
      · rw [if_pos c2]; rfl
      · rw [if_neg c2]
        have hv : ¬ V / 2 ^ (t - 1) % 2 = 1 → V % 2 ^ (t - 1) ≠ 0 := by
          intro c3 c4
          have e : V % 2 ^ t = V % 2 ^ (t - 1) + V / 2 ^ (t - 1) % 2 ^ 1 * 2 ^ (t - 1) := by
            have := mod_up (V := V) (t := t - 1) (k := 1)
            rw [show t - 1 + 1 = t from by omega] at this; exact this
          have hb : V / 2 ^ (t - 1) % 2 < 2 := Nat.mod_lt _ (by decide)
          rw [Nat.pow_one, show V / 2 ^ (t - 1) % 2 = 0 from by omega, Nat.zero_mul, c4] at e
          exact c2 e
        by_cases c3 : V / 2 ^ (t - 1) % 2 = 1
        · rw [if_pos c3]
          exact decide_eq_true ⟨hT1, fun q => absurd (show (2:Int32) = 3 from q.1) (by decide)⟩
        · rw [if_neg c3]
          exact decide_eq_true ⟨hT1, fun q => hv c3 q.2⟩
    · rw [if_neg c1]
      by_cases c2 : V / 2 ^ t % 2 ^ s = 0
      · rw [if_pos c2]
        have := rng2 (L := L) (D := 2 ^ s - 3) (j := 0) hD hov (by omega)
        rw [nI_0, Int32.zero_add] at this
        exact decide_eq_true ⟨this.1, this.2.1, fun _ => rfl, Nat.lt_trans hT (by omega)⟩
      · rw [if_neg c2]
        have e : nI (V / 2 ^ t % 2 ^ s) - (1:Int32) = nI (V / 2 ^ t % 2 ^ s - 1) := u_sub _ 1 (by omega) (1:Int32) rfl
        dsimp only
        rw [e]
        have := rng2 (L := L) (D := 2 ^ s - 3) (j := V / 2 ^ t % 2 ^ s - 1) hD hov (by omega)
        exact decide_eq_true ⟨this.1, this.2.1, fun (q : V % 2 ^ t + 2 ^ t < 2 ^ t) => by omega, (show V % 2 ^ t + 2 ^ t < 2 ^ (t + 1) from by omega)⟩
  · intro kd ex B hk hh
    have h0 : 0 < 2 ^ t := Nat.two_pow_pos t
    have hh : hB t L (nI (2 ^ s - 3) + L) kd ex B = true := hh
    show wB t s kd (ex - L).toNatClampNeg B < 2 ^ (t + s)
    unfold hB at hh
    unfold wB
    try dsimp only at hh ⊢
    have hmul : ∀ a, a < 2 ^ s → ∀ b, b < 2 ^ t → b + a * 2 ^ t < 2 ^ (t + s) := fun a ha b hb => lt_top ha hb
    by_cases k0 : kd = 0
    · rw [if_pos k0] at hh ⊢
      obtain ⟨a1, a2, a3, a4⟩ := of_decide_eq_true hh
      obtain ⟨b1, b2⟩ := rng hD hov a1 a2
      split
      · exact Nat.lt_of_lt_of_le (by assumption) (Nat.pow_le_pow_right (by decide) (by omega))
      · exact hmul _ (by omega) _ (Nat.mod_lt _ h0)
    · rw [if_neg k0] at hh ⊢
      by_cases k1 : kd = 1
      · rw [if_pos k1]
        have := hmul (2 ^ s - 1) (by omega) 0 h0
        omega
      · rw [if_neg k1] at hh ⊢
        obtain ⟨a1, a2⟩ := of_decide_eq_true hh
        split
        · exact hmul _ (by omega) _ (by omega)
        · exact hmul _ (by omega) _ (by omega)

