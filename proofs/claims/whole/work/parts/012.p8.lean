/-! the binary formats: what a pattern is, as numbers; the class -/
theorem bI0 (b : Bool) : bI b = (0:Int32) ↔ b = false := by cases b <;> decide
theorem bI_d {P : Prop} [Decidable P] : bI (decide P) = (0:Int32) ↔ ¬ P := by rw [bI0]; exact decide_eq_false_iff_not
theorem lg_eq {x y : Int64} {a b : Nat} (hx : uW x = a) (hy : uW y = b) : lg_cmp x y = (0:Int32) ↔ a = b := by
  rw [lg0, ← hx, ← hy]; exact ⟨fun h => by rw [h], uW_inj⟩
def sB (t s : Nat) (L : Int32) (V : Nat) : Int32 × Int32 × Nat :=
  if V / 2 ^ t % 2 ^ s = 2 ^ s - 1 then
    if V % 2 ^ t = 0 then (1, 0, 0) else (if V / 2 ^ (t - 1) % 2 = 1 then 2 else 3, 0, V % 2 ^ (t - 1))
  else if V / 2 ^ t % 2 ^ s = 0 then (0, L, V % 2 ^ t)
  else (0, nI (V / 2 ^ t % 2 ^ s) - 1 + L, V % 2 ^ t + 2 ^ t)
theorem bit_below {V t k : Nat} (h : k < t) : V % 2 ^ t / 2 ^ k % 2 = V / 2 ^ k % 2 := by
  have e : 2 ^ t = 2 ^ k * 2 ^ (t - k) := pow_split (by omega)
  have e2 : 2 ^ (t - k) = 2 * 2 ^ (t - k - 1) := by rw [← Nat.pow_succ']; congr 1; omega
  rw [e, Nat.mod_mul_right_div_self, e2, Nat.mod_mul_right_mod]
theorem mod_below {V t k : Nat} (h : k ≤ t) : V % 2 ^ t % 2 ^ k = V % 2 ^ k := by
  rw [pow_split h, Nat.mod_mul_right_mod]
theorem div_lt_pow {V t : Nat} (h : V < 2 ^ t) : V / 2 ^ t = 0 := Nat.div_eq_of_lt h
theorem uW_0 : uW (0:Int64) = 0 := rfl
theorem VN_00 : VN 0 0 = 0 := by unfold VN; rw [uW_0, Nat.zero_mul]
theorem uW_bit1 (h l : Int64) {p : Nat} (hp : p < 128) : uW (f_W_bitsAt (nI p) (1:Int32) h l) = VN h l / 2 ^ p % 2 := by
  have := uW_bitsAt h l (p := p) (c := 1) hp (by omega)
  rw [Nat.pow_one] at this
  exact this
theorem toI_uW {x : Int64} {n : Nat} (h : uW x = n) : Int64.toInt32 x = nI n := (congrArg Int64.toInt32 (lN_uW x)).symm.trans ((l2i_lN _).trans (congrArg nI h))
theorem specialB {t : Nat} (ht : 2 ≤ t) (hw : t ≤ 127) (bh bl : Int64) (hlt : VN bh bl < 2 ^ t) :
    ∃ kd ex ch cl, f_B_special (nI t) bh bl = (kd, ex, ch, cl) ∧ (kd, ex, VN ch cl) = if VN bh bl = 0 then ((1:Int32), (0:Int32), 0) else (if VN bh bl / 2 ^ (t - 1) % 2 = 1 then (2:Int32) else 3, (0:Int32), VN bh bl % 2 ^ (t - 1)) := by
  unfold f_B_special
  rw [isZero_iff, show nI t - (1:Int32) = nI (t - 1) from nI_sub (a := t) (b := 1) (by omega)]
  dsimp only
  by_cases c2 : VN bh bl = 0
  · rw [if_neg (fun q => bI_d.mp q c2), if_pos c2]
    exact ⟨_, _, _, _, rfl, congrArg (fun n => ((1:Int32), (0:Int32), n)) VN_00⟩
  · rw [if_pos (bI_d.mpr c2), if_neg c2]
    have hb2 := uW_bit1 bh bl (p := t - 1) (by omega)
    have hk2 := VN_keep bh bl (k := t - 1) (by omega)
    by_cases c3 : VN bh bl / 2 ^ (t - 1) % 2 = 1
    · rw [if_pos ((lg_eq (b := 1) hb2 rfl).mpr c3), if_pos c3]
      exact ⟨_, _, _, _, rfl, congrArg (fun n => ((2:Int32), (0:Int32), n)) hk2⟩
    · rw [if_neg (fun q => c3 ((lg_eq (b := 1) hb2 rfl).mp q)), if_neg c3]
      exact ⟨_, _, _, _, rfl, congrArg (fun n => ((3:Int32), (0:Int32), n)) hk2⟩
theorem readB {t s : Nat} (ht : 2 ≤ t) (hs : 1 ≤ s) (hs2 : s ≤ 30) (hw : t + s ≤ 127) {L : Int32} {fu : Int64} (hfu : uW fu = 2 ^ s - 1) (wh wl : Int64) :
    ∃ kd ex bh bl, f_B_readU L (nI t) (nI s) fu wh wl = (kd, ex, bh, bl) ∧ (kd, ex, VN bh bl) = sB t s L (VN wh wl) := by
  have hb := uW_bitsAt wh wl (p := t) (c := s) (by omega) (by omega)
  have hk := VN_keep wh wl (k := t) (by omega)
  have hz : uW (0:Int64) = 0 := rfl
  unfold f_B_readU f_W_copy f_W_set sB
  dsimp only
  by_cases c1 : VN wh wl / 2 ^ t % 2 ^ s = 2 ^ s - 1
  · rw [if_pos ((lg_eq hb hfu).mpr c1), if_pos c1]
    obtain ⟨kd, ex, ch, cl, e1, e2⟩ := specialB ht (by omega) (f_W_keep (nI t) wh wl).1 (f_W_keep (nI t) wh wl).2 (by rw [hk]; exact Nat.mod_lt _ (Nat.two_pow_pos t))
    rw [hk, bit_below (by omega), mod_below (by omega)] at e2
    rw [e1]
    exact ⟨_, _, _, _, rfl, e2⟩
  · rw [if_neg (fun q => c1 ((lg_eq hb hfu).mp q)), if_neg c1]
    by_cases c2 : VN wh wl / 2 ^ t % 2 ^ s = 0
    · rw [if_pos ((lg_eq hb hz).mpr c2), if_pos c2]
      exact ⟨_, _, _, _, rfl, congrArg (fun n => ((0:Int32), L, n)) hk⟩
    · rw [if_neg (fun q => c2 ((lg_eq hb hz).mp q)), if_neg c2]
      refine ⟨_, _, _, _, rfl, ?_⟩
      have ha := VN_add (f_W_keep (nI t) wh wl).1 (f_W_keep (nI t) wh wl).2 (1:Int64) (p := t) (m := 1) (by omega) (by omega) (by rw [uW_one]; decide) (by rw [hk, div_lt_pow (Nat.mod_lt _ (Nat.two_pow_pos t)), Nat.zero_mod])
      rw [hk, uW_one, Nat.one_mul] at ha
      have he : Int64.toInt32 (f_W_bitsAt (nI t) (nI s) wh wl) = nI (VN wh wl / 2 ^ t % 2 ^ s) := toI_uW hb
      rw [← he, ← ha]
      rfl
def hB (t : Nat) (L G : Int32) (kd ex : Int32) (B : Nat) : Bool :=
  if kd = 0 then decide (¬ ex < L ∧ ¬ G < ex ∧ (B < 2 ^ t → ex = L) ∧ B < 2 ^ (t + 1))
  else if kd = 1 then true else decide (B < 2 ^ (t - 1) ∧ ¬ (kd = 3 ∧ B = 0))
theorem hasB {t : Nat} (ht : 2 ≤ t) (hw : t ≤ 120) (L G kd ex : Int32) (bh bl : Int64) : f_B_has (nI (t + 1)) L G (nI t) kd ex bh bl = hB t L G kd ex (VN bh bl) := by
  have pw : 2 ^ t < 2 ^ (t + 1) := Nat.pow_lt_pow_right (by decide) (by omega)
  unfold f_B_has hB f_B_hasNumber f_B_hasNan
  rw [show nI t - (1:Int32) = nI (t - 1) from nI_sub (a := t) (b := 1) (by omega)]
  rw [fits_iff bh bl (k := t) (by omega), fits_iff bh bl (k := t + 1) (by omega), fits_iff bh bl (k := t - 1) (by omega), isZero_iff]
  dsimp only
  by_cases k0 : kd = 0
  · rw [if_pos k0, if_pos k0]
    by_cases c1 : ex < L
    · rw [if_pos c1]; exact (decide_eq_false (fun q => q.1 c1)).symm
    · rw [if_neg c1]
      by_cases c2 : G < ex
      · rw [if_pos c2]; exact (decide_eq_false (fun q => q.2.1 c2)).symm
      · rw [if_neg c2]
        by_cases c3 : VN bh bl < 2 ^ t
        · rw [if_neg (fun q : bI (decide (VN bh bl < 2 ^ t)) = 0 => bI_d.mp q c3)]
          by_cases c4 : ex = L
          · rw [if_pos c4, if_neg (by decide)]
            exact (decide_eq_true ⟨c1, c2, fun _ => c4, Nat.lt_trans c3 pw⟩).symm
          · rw [if_neg c4, if_pos (by decide)]
            exact (decide_eq_false (fun q => c4 (q.2.2.1 c3))).symm
        · rw [if_pos (bI_d.mpr c3)]
          by_cases c4 : VN bh bl < 2 ^ (t + 1)
          · rw [if_neg (fun q => bI_d.mp q c4)]
            exact (decide_eq_true ⟨c1, c2, fun q => absurd q c3, c4⟩).symm
          · rw [if_pos (bI_d.mpr c4)]
            exact (decide_eq_false (fun q => c4 q.2.2.2)).symm
  · rw [if_neg k0, if_neg k0]
    by_cases k1 : kd = 1
    · rw [if_pos k1, if_pos k1]
    · rw [if_neg k1, if_neg k1]
      by_cases k3 : kd = 3
      · rw [if_pos k3]
        by_cases c1 : VN bh bl = 0
        · rw [if_neg (fun q => bI_d.mp q c1)]
          split <;> exact (decide_eq_false (fun q => q.2 ⟨k3, c1⟩)).symm
        · rw [if_pos (bI_d.mpr c1)]
          by_cases c2 : VN bh bl < 2 ^ (t - 1)
          · rw [if_neg (fun q => bI_d.mp q c2)]
            exact (decide_eq_true ⟨c2, fun q => c1 q.2⟩).symm
          · rw [if_pos (bI_d.mpr c2)]
            exact (decide_eq_false (fun q => c2 q.1)).symm
      · rw [if_neg k3]
        by_cases c2 : VN bh bl < 2 ^ (t - 1)
        · rw [if_neg (fun q => bI_d.mp q c2)]
          exact (decide_eq_true ⟨c2, fun q => k3 q.1⟩).symm
        · rw [if_pos (bI_d.mpr c2)]
          exact (decide_eq_false (fun q => c2 q.1)).symm
/-- the pattern of a datum that the format has, its sign aside -/
def wB (t s : Nat) (kd : Int32) (d B : Nat) : Nat :=
  if kd = 0 then (if B < 2 ^ t then B else B % 2 ^ t + (d + 1) * 2 ^ t)
  else if kd = 1 then (2 ^ s - 1) * 2 ^ t
  else (if kd = 2 then B + 2 ^ (t - 1) else B) + (2 ^ s - 1) * 2 ^ t
theorem writeB {t s : Nat} (ht : 2 ≤ t) (hs : 1 ≤ s) (hs2 : s ≤ 30) (hw : t + s ≤ 127) {L : Int32} {fu : Int64} (hfu : uW fu = 2 ^ s - 1) {kd ex : Int32} {bh bl : Int64} {d : Nat} (hd : kd = 0 → ex = nI d + L ∧ d + 1 < 2 ^ s) (h1 : kd = 1 → VN bh bl = 0) (h2 : kd ≠ 0 → VN bh bl < 2 ^ (t - 1)) :
    VN (f_B_writeU L (nI t) fu kd ex bh bl).1 (f_B_writeU L (nI t) fu kd ex bh bl).2 = wB t s kd d (VN bh bl) ∧ wB t s kd d (VN bh bl) < 2 ^ (t + s) := by
  have hk := VN_keep bh bl (k := t) (by omega)
  have pt : 2 ^ t = 2 ^ (t - 1) * 2 := by rw [← Nat.pow_succ]; congr 1; omega
  have pts : 2 ^ (t + s) = 2 ^ t * 2 ^ s := Nat.pow_add 2 t s
  have p0 : 0 < 2 ^ t := Nat.two_pow_pos t
  have ps : 0 < 2 ^ s := Nat.two_pow_pos s
  have ps2 : 2 ^ s ≤ 2 ^ 30 := Nat.pow_le_pow_right (by decide) hs2
  have hmul : ∀ a, a < 2 ^ s → ∀ b, b < 2 ^ t → b + a * 2 ^ t < 2 ^ (t + s) := by
    intro a ha b hb
    have : (a + 1) * 2 ^ t ≤ 2 ^ s * 2 ^ t := Nat.mul_le_mul_right _ ha
    rw [Nat.add_mul, Nat.one_mul] at this
    rw [pts, Nat.mul_comm (2 ^ t)]
    omega
  -- the field
  have hadd : ∀ (b : Int64), uW b < 2 ^ s → VN (f_W_addBits (nI t) b (f_W_keep (nI t) bh bl).1 (f_W_keep (nI t) bh bl).2).1 (f_W_addBits (nI t) b (f_W_keep (nI t) bh bl).1 (f_W_keep (nI t) bh bl).2).2 = VN bh bl % 2 ^ t + uW b * 2 ^ t := by
    intro b hb
    rw [VN_add _ _ b (p := t) (m := s) (by omega) (by omega) hb (by rw [hk, div_lt_pow (Nat.mod_lt _ p0), Nat.zero_mod]), hk]
  unfold f_B_writeU f_W_copy f_W_set wB
  rw [show nI t - (1:Int32) = nI (t - 1) from nI_sub (a := t) (b := 1) (by omega)]
  dsimp only
  by_cases k0 : kd = 0
  · subst k0
    rw [if_neg (by decide), if_pos rfl]
    have hf : f_B_fieldOf L (nI t) fu 0 ex bh bl = if VN bh bl < 2 ^ t then 0 else Int32.toInt64 (nI (d + 1)) := by
      unfold f_B_fieldOf
      rw [if_pos rfl, fits_iff bh bl (k := t) (by omega), (hd rfl).1, Int32.add_sub_cancel, nI_1]
      dsimp only
      by_cases c : VN bh bl < 2 ^ t
      · rw [if_neg (fun q => bI_d.mp q c), if_pos c]
      · rw [if_pos (bI_d.mpr c), if_neg c]
    dsimp only
    rw [hf]
    by_cases c : VN bh bl < 2 ^ t
    · rw [if_pos c, if_pos c, hadd _ (by rw [show uW (0:Int64) = 0 from rfl]; exact ps), show uW (0:Int64) = 0 from rfl, Nat.zero_mul, Nat.add_zero, Nat.mod_eq_of_lt c]
      refine ⟨rfl, Nat.lt_of_lt_of_le c (Nat.pow_le_pow_right (by decide) (by omega))⟩
    · have hd2 := (hd rfl).2
      have hu : uW (Int32.toInt64 (nI (d + 1))) = d + 1 := uW_i2l (by omega)
      rw [if_neg c, if_neg c, hadd _ (by rw [hu]; exact hd2), hu]
      exact ⟨rfl, hmul _ hd2 _ (Nat.mod_lt _ p0)⟩
  · rw [if_neg k0]
    have hf : f_B_fieldOf L (nI t) fu kd ex bh bl = fu := by unfold f_B_fieldOf; rw [if_neg k0]
    have hB := h2 k0
    have hm : VN bh bl % 2 ^ t = VN bh bl := Nat.mod_eq_of_lt (by omega)
    have ha := hadd fu (by omega)
    rw [hm, hfu] at ha
    rw [hf]
    by_cases k2 : kd = 2
    · subst k2
      rw [if_pos rfl, if_neg (by decide), if_pos rfl]
      dsimp only
      rw [VN_add _ _ (1:Int64) (p := t - 1) (m := 1) (by omega) (by omega) (by rw [uW_one]; decide) (by
        rw [ha, pt, ← Nat.mul_assoc, Nat.mul_right_comm, Nat.add_mul_div_right _ _ (Nat.two_pow_pos _), div_lt_pow hB, Nat.zero_add, Nat.pow_one, Nat.mul_mod_left]), ha, uW_one, Nat.one_mul]
      refine ⟨Nat.add_right_comm _ _ _, hmul _ (by omega) _ (by omega)⟩
    · rw [if_neg k2]
      by_cases k1 : kd = 1
      · rw [if_pos k1]
        rw [h1 k1, Nat.zero_add] at ha
        exact ⟨ha, by have := hmul (2 ^ s - 1) (by omega) 0 p0; omega⟩
      · rw [if_neg k1, if_neg k2]
        exact ⟨ha, hmul _ (by omega) _ (by omega)⟩

