/-! the decimal formats: the head as a number -/
theorem hd_div {V t g k : Nat} (h : k ≤ g) : V / 2 ^ t % 2 ^ g / 2 ^ k = V / 2 ^ (t + k) % 2 ^ (g - k) := by
  rw [pow_split h, Nat.mod_mul_right_div_self, Nat.div_div_eq_div_mul, ← Nat.pow_add]
theorem uW_and1 (x : Int64) : uW (x &&& (1:Int64)) = uW x % 2 := by have := uW_mask (x := x) (y := (1:Int64)) (k := 1) rfl; rw [Nat.pow_one] at this; exact this
theorem uW_and3 (x : Int64) : uW (x &&& (3:Int64)) = uW x % 4 := uW_mask (x := x) (y := (3:Int64)) (k := 2) rfl
theorem uW_and7 (x : Int64) : uW (x &&& (7:Int64)) = uW x % 8 := uW_mask (x := x) (y := (7:Int64)) (k := 3) rfl
theorem uW_ones' (x : Int64) {k : Nat} (hk : k < 64) : uW (x &&& f_W_ones (nI k)) = uW x % 2 ^ k := uW_mask (uW_ones hk)
theorem uW_sh1 (x : Int64) : uW (lushr_ x (1:Int32)) = uW x / 2 := by have := uW_ushr x (k := 1) (by decide); rw [Nat.pow_one] at this; exact this
theorem uW_sh3 (x : Int64) : uW (lushr_ x (3:Int32)) = uW x / 8 := uW_ushr x (k := 3) (by decide)
def cap (M x : Nat) : Nat := if x < M then x else 0
theorem cap_lt {M x : Nat} (h : 0 < M) : cap M x < M := by unfold cap; split <;> omega
def sP (t g P Q : Nat) (L : Int32) (V : Nat) : Int32 × Int32 × Nat :=
  if V / 2 ^ t % 2 ^ g / 2 ^ (g - 5) = 31 then (if V / 2 ^ t % 2 ^ g / 2 ^ (g - 6) % 2 = 1 then 3 else 2, 0, cap Q (V % 2 ^ t))
  else if V / 2 ^ t % 2 ^ g / 2 ^ (g - 5) = 30 then (1, 0, 0)
  else if V / 2 ^ t % 2 ^ g / 2 ^ (g - 2) = 3 then (0, nI (V / 2 ^ t % 2 ^ g / 2 % 2 ^ (g - 3)) + L, cap P (V % 2 ^ t + (8 + V / 2 ^ t % 2 ^ g % 2) * 2 ^ t))
  else (0, nI (V / 2 ^ t % 2 ^ g / 8) + L, cap P (V % 2 ^ t + V / 2 ^ t % 2 ^ g % 8 * 2 ^ t))
theorem aboveM {h l a b : Int64} {M : Nat} (hM : VN a b = M - 1) (h0 : 0 < M) : f_W_isAbove h l a b = decide (¬ VN h l < M) := by
  rw [isAbove_iff, hM]
  by_cases c : VN h l < M
  · rw [decide_eq_false (by omega), decide_eq_false (fun q => q c)]
  · rw [decide_eq_true (by omega), decide_eq_true c]
theorem readBodyP {t a M : Nat} (ht : t + 4 ≤ 128) (ha : a < 16) {mh ml : Int64} (hM : VN mh ml = M - 1) (h0 : 0 < M) (wh wl : Int64) :
    VN (f_P_readBody (nI a) (nI t) mh ml wh wl).1 (f_P_readBody (nI a) (nI t) mh ml wh wl).2 = cap M (VN wh wl % 2 ^ t + a * 2 ^ t) := by
  have hk := VN_keep wh wl (k := t) (by omega)
  have hu : uW (Int32.toInt64 (nI a)) = a := uW_i2l (by omega)
  have hz : VN wh wl % 2 ^ t / 2 ^ t % 2 ^ 4 = 0 := by rw [div_lt_pow (Nat.mod_lt _ (Nat.two_pow_pos t)), Nat.zero_mod]
  have hadd := VN_add (f_W_keep (nI t) wh wl).1 (f_W_keep (nI t) wh wl).2 (Int32.toInt64 (nI a)) (p := t) (m := 4) (by omega) (by omega) (by rw [hu]; omega) (by rw [hk, hz])
  rw [hk, hu] at hadd
  unfold f_P_readBody f_W_copy f_W_set cap
  dsimp only
  rw [aboveM hM h0, hadd]
  by_cases c : VN wh wl % 2 ^ t + a * 2 ^ t < M
  · rw [if_pos (bI_d.mpr (fun q => q c)), if_pos c]; exact hadd
  · rw [if_neg (fun q => bI_d.mp q c), if_neg c]; exact VN_00
theorem beginsP {x : Int64} {g : Nat} (hg : 6 ≤ g) (hg2 : g ≤ 60) : f_P_begins x (nI g) = decide (uW x / 2 ^ (g - 2) = 3) := by
  unfold f_P_begins
  rw [u_sub g 2 (by omega) (2:Int32) rfl]
  have h := uW_ushr x (k := g - 2) (by omega)
  by_cases c : uW x / 2 ^ (g - 2) = 3
  · rw [if_pos ((lg_eq (b := 3) h rfl).mpr c), decide_eq_true c]
  · rw [if_neg (fun q => c ((lg_eq (b := 3) h rfl).mp q)), decide_eq_false c]
theorem readP {t g P Q : Nat} (hg : 7 ≤ g) (hg2 : g ≤ 30) (hw : t + g ≤ 127) (hP : 0 < P) (hQ : 0 < Q) {L : Int32} {mnh mnl mph mpl : Int64} (hN : VN mnh mnl = P - 1) (hM : VN mph mpl = Q - 1) (wh wl bh bl : Int64) :
    ∃ kd ex ch cl, f_P_readU L (nI t) (nI g) mnh mnl mph mpl wh wl bh bl = (kd, ex, ch, cl) ∧ (kd, ex, VN ch cl) = sP t g P Q L (VN wh wl) := by
  have hb := uW_bitsAt wh wl (p := t) (c := g) (by omega) (by omega)
  unfold f_P_readU sP
  rw [u_sub g 5 (by omega) (5:Int32) rfl, u_sub g 6 (by omega) (6:Int32) rfl]
  dsimp only
  generalize f_W_bitsAt (nI t) (nI g) wh wl = x at *
  rw [← hb]
  have h5 := uW_ushr x (k := g - 5) (by omega)
  have h6 := uW_ushr x (k := g - 6) (by omega)
  by_cases c1 : uW x / 2 ^ (g - 5) = 31
  · rw [if_pos ((lg_eq (b := 31) h5 rfl).mpr c1), if_pos c1]
    have h7 := uW_and1 (lushr_ x (nI (g - 6)))
    rw [h6] at h7
    have hr := readBodyP (a := 0) (t := t) (by omega) (by omega) hM hQ wh wl
    rw [Nat.zero_mul, Nat.add_zero] at hr
    by_cases c2 : uW x / 2 ^ (g - 6) % 2 = 1
    · rw [if_pos ((lg_eq (b := 1) h7 rfl).mpr c2), if_pos c2]
      exact ⟨_, _, _, _, rfl, congrArg (fun n => ((3:Int32), (0:Int32), n)) hr⟩
    · rw [if_neg (fun q => c2 ((lg_eq (b := 1) h7 rfl).mp q)), if_neg c2]
      exact ⟨_, _, _, _, rfl, congrArg (fun n => ((2:Int32), (0:Int32), n)) hr⟩
  · rw [if_neg (fun q => c1 ((lg_eq (b := 31) h5 rfl).mp q)), if_neg c1]
    by_cases c2 : uW x / 2 ^ (g - 5) = 30
    · rw [if_pos ((lg_eq (b := 30) h5 rfl).mpr c2), if_pos c2]
      exact ⟨_, _, _, _, rfl, congrArg (fun n => ((1:Int32), (0:Int32), n)) VN_00⟩
    · rw [if_neg (fun q => c2 ((lg_eq (b := 30) h5 rfl).mp q)), if_neg c2]
      unfold f_P_leadOf f_P_fieldOf
      rw [beginsP (by omega) (by omega), u_sub g 3 (by omega) (3:Int32) rfl]
      dsimp only
      by_cases c3 : uW x / 2 ^ (g - 2) = 3
      · rw [if_neg (fun q => bI_d.mp q c3), if_neg (fun q => bI_d.mp q c3), if_pos c3]
        have e1 : (8:Int32) + Int64.toInt32 (x &&& (1:Int64)) = nI (8 + uW x % 2) := by rw [toI_uW (uW_and1 x)]; exact nI_add 8 _
        have e2 : Int64.toInt32 (lushr_ x (1:Int32) &&& f_W_ones (nI (g - 3))) = nI (uW x / 2 % 2 ^ (g - 3)) := toI_uW (by rw [uW_ones' _ (by omega), uW_sh1])
        rw [e1, e2]
        have hr := readBodyP (a := 8 + uW x % 2) (t := t) (by omega) (by omega) hN hP wh wl
        exact ⟨_, _, _, _, rfl, congrArg (fun n => ((0:Int32), nI (uW x / 2 % 2 ^ (g - 3)) + L, n)) hr⟩
      · rw [if_pos (bI_d.mpr c3), if_pos (bI_d.mpr c3), if_neg c3]
        have e1 : Int64.toInt32 (x &&& (7:Int64)) = nI (uW x % 8) := toI_uW (uW_and7 x)
        have e2 : Int64.toInt32 (lushr_ x (3:Int32)) = nI (uW x / 8) := toI_uW (uW_sh3 x)
        rw [e1, e2]
        have hr := readBodyP (a := uW x % 8) (t := t) (by omega) (by omega) hN hP wh wl
        exact ⟨_, _, _, _, rfl, congrArg (fun n => ((0:Int32), nI (uW x / 8) + L, n)) hr⟩
/-- whether a decimal format has a datum -/
def hP (P Q : Nat) (L G : Int32) (kd ex : Int32) (B : Nat) : Bool :=
  if kd = 0 then decide (¬ ex < L ∧ ¬ G < ex ∧ B < P)
  else if kd = 1 then true else decide (B < Q)
theorem hasP {P Q : Nat} (hP0 : 0 < P) (hQ : 0 < Q) {mnh mnl mph mpl : Int64} (hN : VN mnh mnl = P - 1) (hM : VN mph mpl = Q - 1) (L G kd ex : Int32) (bh bl : Int64) : f_P_has L G mnh mnl mph mpl kd ex bh bl = hP P Q L G kd ex (VN bh bl) := by
  unfold f_P_has f_P_hasNumber f_P_hasNan hP
  rw [aboveM hN hP0, aboveM hM hQ]
  dsimp only
  have i1 : ∀ M, (if bI (decide (¬ VN bh bl < M)) = (0:Int32) then true else false) = decide (VN bh bl < M) := by
    intro M
    by_cases c : VN bh bl < M
    · rw [if_pos (bI_d.mpr (fun q => q c)), decide_eq_true c]
    · rw [if_neg (fun q => bI_d.mp q c), decide_eq_false c]
  rw [i1, i1]
  by_cases k0 : kd = 0
  · rw [if_pos k0, if_pos k0]
    by_cases c1 : ex < L
    · rw [if_pos c1]; exact (decide_eq_false (fun q => q.1 c1)).symm
    · rw [if_neg c1]
      by_cases c2 : G < ex
      · rw [if_pos c2]; exact (decide_eq_false (fun q => q.2.1 c2)).symm
      · rw [if_neg c2]
        by_cases c3 : VN bh bl < P
        · rw [if_neg (fun q => bI_d.mp q c3)]; exact (decide_eq_true ⟨c1, c2, c3⟩).symm
        · rw [if_pos (bI_d.mpr c3)]; exact (decide_eq_false (fun q => c3 q.2.2)).symm
  · rw [if_neg k0, if_neg k0]
theorem hasT {P Q : Nat} (hP0 : 0 < P) (hQ : 0 < Q) {mnh mnl mph mpl : Int64} (hN : VN mnh mnl = P - 1) (hM : VN mph mpl = Q - 1) (L G kd ex : Int32) (bh bl : Int64) : f_T_has L G mnh mnl mph mpl kd ex bh bl = hP P Q L G kd ex (VN bh bl) := hasP hP0 hQ hN hM L G kd ex bh bl

