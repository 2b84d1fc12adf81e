/-! the class: the decimal formats -/
theorem Wr_of {F : FS} {kd ex : Int32} {ng : Bool} {B : Nat} {h l h0 l0 : Int64} (c : F.h kd ex B = true) (hv : VN h l = top F.q ng + F.w kd ex B) : Wr F kd ex ng B true h l h0 l0 :=
  ⟨c.symm, fun _ => hv, fun q => by rw [c] at q; exact absurd q (by decide)⟩
theorem Wr_no {F : FS} {kd ex : Int32} {ng : Bool} {B : Nat} {h0 l0 : Int64} (c : F.h kd ex B = false) : Wr F kd ex ng B false h0 l0 h0 l0 :=
  ⟨c.symm, fun q => by rw [c] at q; exact absurd q (by decide), fun _ => ⟨rfl, rfl⟩⟩
theorem KP_read {t g p : Nat} {L : Int32} {mnh mnl mph mpl : Int64} (hg : 7 ≤ g) (hg2 : g ≤ 30) (hw : t + g ≤ 127) (hN : VN mnh mnl = 10 ^ p - 1) (hM : VN mph mpl = 10 ^ (p - 1) - 1) (wh wl bh0 bl0 : Int64) : ∃ kd ex bh bl, f_P_read (nI (t + g + 1)) L (nI t) (nI g) mnh mnl mph mpl wh wl bh0 bl0 = (kd, sg2 (t + g) (VN wh wl), ex, bh, bl) ∧ (kd, ex, VN bh bl) = sP t g (10 ^ p) (10 ^ (p - 1)) L (VN wh wl) := by
  obtain ⟨kd, ex, bh, bl, e1, e2⟩ := readP hg hg2 hw (Nat.pow_pos (by decide)) (Nat.pow_pos (by decide)) hN hM wh wl bh0 bl0 (L := L)
  unfold f_P_read
  dsimp only
  rw [sgB (q := t + g) hw, e1]
  by_cases c : sg2 (t + g) (VN wh wl) = true
  · rw [if_pos c, c]; exact ⟨_, _, _, _, rfl, e2⟩
  · rw [if_neg c, Bool.eq_false_iff.mpr c]; exact ⟨_, _, _, _, rfl, e2⟩
theorem KP_write {t g p : Nat} {L : Int32} {mnh mnl mph mpl : Int64} (hg : 7 ≤ g) (hg2 : g ≤ 30) (hw : t + g ≤ 127) (hp2 : 2 ≤ p) (hp : 10 ^ p ≤ 10 * 2 ^ t) (hq : 10 ^ (p - 1) ≤ 2 ^ t) (hov : L.toInt + (3 * 2 ^ (g - 5) - 1 : Nat) < 2 ^ 31) (hN : VN mnh mnl = 10 ^ p - 1) (hM : VN mph mpl = 10 ^ (p - 1) - 1) (kd ex : Int32) (ng : Bool) (bh bl h0 l0 : Int64) (hk : okD kd (VN bh bl)) : ∃ b h l, f_P_write (nI (t + g + 1)) L (nI (3 * 2 ^ (g - 5) - 1) + L) (nI t) (nI g) mnh mnl mph mpl kd ng ex bh bl h0 l0 = (b, h, l) ∧ Wr (fP t g p L (nI (3 * 2 ^ (g - 5) - 1) + L)) kd ex ng (VN bh bl) b h l h0 l0 := by
  have pg : 2 ^ g ≤ 2 ^ 30 := Nat.pow_le_pow_right (by decide) hg2
  have e5 : 2 ^ g = 32 * 2 ^ (g - 5) := by rw [pw2 (g := g) (k := 5) (by omega)]
  have p0 : 0 < 2 ^ (g - 5) := Nat.two_pow_pos _
  have q0 : 0 < 10 ^ (p - 1) := Nat.pow_pos (by decide)
  have qp : 10 ^ (p - 1) ≤ 10 ^ p := Nat.pow_le_pow_right (by decide) (by omega)
  unfold f_P_write
  dsimp only
  rw [hasP (Nat.pow_pos (by decide)) q0 hN hM]
  by_cases c : hP (10 ^ p) (10 ^ (p - 1)) L (nI (3 * 2 ^ (g - 5) - 1) + L) kd ex (VN bh bl) = true
  · rw [c, if_neg (by decide)]
    obtain ⟨a1, a2, a3⟩ := hP_use (by omega) hov qp q0 hk c
    obtain ⟨w1, w2⟩ := writeP (t := t) (g := g) hg hg2 hw (L := L) (kd := kd) (ex := ex) (bh := bh) (bl := bl) (d := (ex - L).toNatClampNeg) (fun k => ⟨(a1 k).1, by have := (a1 k).2; omega⟩) (by omega)
    cases ng
    · rw [if_pos (by decide)]
      exact ⟨_, _, _, rfl, Wr_of c (by rw [w1]; exact (Nat.zero_add _).symm)⟩
    · rw [if_neg (by decide)]
      exact ⟨_, _, _, rfl, Wr_of c (by rw [addTop hw (by rw [w1]; exact w2), w1]; rfl)⟩
  · have c' := Bool.eq_false_iff.mpr c
    rw [c', if_pos (by decide)]
    exact ⟨_, _, _, rfl, Wr_no c'⟩
theorem KP_unpack {t g p : Nat} {L : Int32} {mnh mnl mph mpl : Int64} (hg : 7 ≤ g) (hg2 : g ≤ 30) (hw : t + g ≤ 127) (hN : VN mnh mnl = 10 ^ p - 1) (hM : VN mph mpl = 10 ^ (p - 1) - 1) (x y bh0 bl0 : Int64) : ∃ kd ex bh bl gh gl, f_K_P_unpack x y (nI (t + g + 1)) L (nI t) (nI g) mnh mnl mph mpl bh0 bl0 = (kd, gh, gl, kd, sg2 (t + g) (VN x y % 2 ^ (t + g + 1)), ex, bh, bl) ∧ (kd, ex, VN bh bl) = sP t g (10 ^ p) (10 ^ (p - 1)) L (VN x y % 2 ^ (t + g + 1)) := by
  have hc : VN (f_P_cut x y (nI (t + g + 1))).1 (f_P_cut x y (nI (t + g + 1))).2 = VN x y % 2 ^ (t + g + 1) := cutV x y (q := t + g) hw
  obtain ⟨kd, ex, bh, bl, e1, e2⟩ := KP_read (L := L) hg hg2 hw hN hM (f_P_cut x y (nI (t + g + 1))).1 (f_P_cut x y (nI (t + g + 1))).2 bh0 bl0
  rw [hc] at e1 e2
  unfold f_K_P_unpack
  dsimp only
  rw [e1]
  exact ⟨_, _, _, _, _, _, rfl, e2⟩
theorem KP_canonical {t g p : Nat} {L : Int32} {mnh mnl mph mpl : Int64} (hg : 7 ≤ g) (hg2 : g ≤ 30) (hw : t + g ≤ 127) (hp2 : 2 ≤ p) (hp : 10 ^ p ≤ 10 * 2 ^ t) (hq : 10 ^ (p - 1) ≤ 2 ^ t) (hov : L.toInt + (3 * 2 ^ (g - 5) - 1 : Nat) < 2 ^ 31) (hN : VN mnh mnl = 10 ^ p - 1) (hM : VN mph mpl = 10 ^ (p - 1) - 1) (x y bh0 bl0 h0 l0 : Int64) : ∃ gh gl kd ng ex bh bl ph pl, f_K_P_canonical x y (nI (t + g + 1)) L (nI (3 * 2 ^ (g - 5) - 1) + L) (nI t) (nI g) mnh mnl mph mpl bh0 bl0 h0 l0 = (cn (fP t g p L (nI (3 * 2 ^ (g - 5) - 1) + L)) (VN x y % 2 ^ (t + g + 1)), gh, gl, kd, ng, ex, bh, bl, ph, pl) := by
  have hc : VN (f_P_cut x y (nI (t + g + 1))).1 (f_P_cut x y (nI (t + g + 1))).2 = VN x y % 2 ^ (t + g + 1) := cutV x y (q := t + g) hw
  have gd := fP_good hg hg2 hw hp hq hov
  obtain ⟨kd, ex, bh, bl, e1, e2⟩ := KP_read (L := L) hg hg2 hw hN hM (f_P_cut x y (nI (t + g + 1))).1 (f_P_cut x y (nI (t + g + 1))).2 bh0 bl0
  rw [hc] at e1 e2
  have hok := gd.ok (VN x y % 2 ^ (t + g + 1))
  rw [show (fP t g p L (nI (3 * 2 ^ (g - 5) - 1) + L)).r (VN x y % 2 ^ (t + g + 1)) = sP t g (10 ^ p) (10 ^ (p - 1)) L (VN x y % 2 ^ (t + g + 1)) from rfl, ← e2] at hok
  obtain ⟨b, h, l, f1, f2⟩ := KP_write (L := L) hg hg2 hw hp2 hp hq hov hN hM kd ex (sg2 (t + g) (VN x y % 2 ^ (t + g + 1))) bh bl h0 l0 hok
  obtain ⟨c1, c2⟩ := canon gd e2 f2 hc
  unfold f_K_P_canonical
  dsimp only
  rw [e1]
  dsimp only
  rw [f1]
  dsimp only
  rw [c1, if_neg (by decide), c2]
  generalize cn (fP t g p L (nI (3 * 2 ^ (g - 5) - 1) + L)) (VN x y % 2 ^ (t + g + 1)) = z
  cases z
  · rw [if_pos (by decide)]
    exact ⟨_, _, _, _, _, _, _, _, _, rfl⟩
  · rw [if_neg (by decide)]
    exact ⟨_, _, _, _, _, _, _, _, _, rfl⟩
theorem KT_read {n g : Nat} {L : Int32} (hg : 7 ≤ g) (hg2 : g ≤ 30) (hn : n ≤ 11) (hw : 10 * n + g ≤ 127) (wh wl bh0 bl0 : Int64) : ∃ kd ex bh bl, f_T_read (nI (10 * n + g + 1)) L (nI n) (nI (10 * n)) (nI g) (nI (g - 5)) wh wl bh0 bl0 = (kd, sg2 (10 * n + g) (VN wh wl), ex, bh, bl) ∧ (kd, ex, VN bh bl) = sT n g L (VN wh wl) := by
  obtain ⟨kd, ex, bh, bl, e1, e2⟩ := readT hg hg2 hn hw wh wl bh0 bl0 (L := L)
  unfold f_T_read
  dsimp only
  rw [sgB (q := 10 * n + g) hw, e1]
  by_cases c : sg2 (10 * n + g) (VN wh wl) = true
  · rw [if_pos c, c]; exact ⟨_, _, _, _, rfl, e2⟩
  · rw [if_neg c, Bool.eq_false_iff.mpr c]; exact ⟨_, _, _, _, rfl, e2⟩
theorem KT_write {n g : Nat} {L : Int32} {mnh mnl mph mpl : Int64} (hg : 7 ≤ g) (hg2 : g ≤ 30) (hn : n ≤ 11) (hw : 10 * n + g ≤ 127) (hov : L.toInt + (3 * 2 ^ (g - 5) - 1 : Nat) < 2 ^ 31) (hN : VN mnh mnl = 10 ^ (3 * n + 1) - 1) (hM : VN mph mpl = 10 ^ (3 * n) - 1) (kd ex : Int32) (ng : Bool) (bh bl h0 l0 lh0 ll0 : Int64) (hk : okD kd (VN bh bl)) : ∃ b lh ll h l, f_T_write (nI (10 * n + g + 1)) L (nI (3 * 2 ^ (g - 5) - 1) + L) (nI n) (nI (10 * n)) (nI g) (nI (g - 5)) mnh mnl mph mpl lh0 ll0 kd ng ex bh bl h0 l0 = (b, lh, ll, h, l) ∧ Wr (fT n g L (nI (3 * 2 ^ (g - 5) - 1) + L)) kd ex ng (VN bh bl) b h l h0 l0 := by
  have pg : 2 ^ g ≤ 2 ^ 30 := Nat.pow_le_pow_right (by decide) hg2
  have e5 : 2 ^ g = 32 * 2 ^ (g - 5) := by rw [pw2 (g := g) (k := 5) (by omega)]
  have p0 : 0 < 2 ^ (g - 5) := Nat.two_pow_pos _
  have q0 : 0 < 10 ^ (3 * n) := Nat.pow_pos (by decide)
  have qp : 10 ^ (3 * n) ≤ 10 ^ (3 * n + 1) := Nat.pow_le_pow_right (by decide) (by omega)
  have h3 : 10 ^ (3 * n + 1) = 10 * 1000 ^ n := by rw [Nat.pow_succ, Nat.pow_mul, Nat.mul_comm]
  unfold f_T_write f_W_set
  dsimp only
  rw [hasT (Nat.pow_pos (by decide)) q0 hN hM]
  by_cases c : hP (10 ^ (3 * n + 1)) (10 ^ (3 * n)) L (nI (3 * 2 ^ (g - 5) - 1) + L) kd ex (VN bh bl) = true
  · rw [c, if_neg (by decide)]
    obtain ⟨a1, a2, a3⟩ := hP_use (by omega) hov qp q0 hk c
    obtain ⟨ah, al, ch, cl, w0, w1, w2⟩ := writeT (n := n) (g := g) hg hg2 hn hw (L := L) (kd := kd) (ex := ex) (bh := bh) (bl := bl) (d := (ex - L).toNatClampNeg) (fun k => ⟨(a1 k).1, by have := (a1 k).2; omega⟩) ((Nat.div_lt_iff_lt_mul (Nat.pow_pos (by decide))).mpr (by omega))
    rw [w0]
    dsimp only
    cases ng
    · rw [if_pos (by decide)]
      exact ⟨_, _, _, _, _, rfl, Wr_of c (by rw [w1]; exact (Nat.zero_add _).symm)⟩
    · rw [if_neg (by decide)]
      exact ⟨_, _, _, _, _, rfl, Wr_of c (by rw [addTop hw (by rw [w1]; exact w2), w1]; rfl)⟩
  · have c' := Bool.eq_false_iff.mpr c
    rw [c', if_pos (by decide)]
    exact ⟨_, _, _, _, _, rfl, Wr_no c'⟩
theorem KT_unpack {n g : Nat} {L : Int32} (hg : 7 ≤ g) (hg2 : g ≤ 30) (hn : n ≤ 11) (hw : 10 * n + g ≤ 127) (x y bh0 bl0 : Int64) : ∃ kd ex bh bl gh gl, f_K_T_unpack x y (nI (10 * n + g + 1)) L (nI n) (nI (10 * n)) (nI g) (nI (g - 5)) bh0 bl0 = (kd, gh, gl, kd, sg2 (10 * n + g) (VN x y % 2 ^ (10 * n + g + 1)), ex, bh, bl) ∧ (kd, ex, VN bh bl) = sT n g L (VN x y % 2 ^ (10 * n + g + 1)) := by
  have hc : VN (f_T_cut x y (nI (10 * n + g + 1))).1 (f_T_cut x y (nI (10 * n + g + 1))).2 = VN x y % 2 ^ (10 * n + g + 1) := cutV x y (q := 10 * n + g) hw
  obtain ⟨kd, ex, bh, bl, e1, e2⟩ := KT_read (L := L) hg hg2 hn hw (f_T_cut x y (nI (10 * n + g + 1))).1 (f_T_cut x y (nI (10 * n + g + 1))).2 bh0 bl0
  rw [hc] at e1 e2
  unfold f_K_T_unpack
  dsimp only
  rw [e1]
  exact ⟨_, _, _, _, _, _, rfl, e2⟩
theorem KT_canonical {n g : Nat} {L : Int32} {mnh mnl mph mpl : Int64} (hg : 7 ≤ g) (hg2 : g ≤ 30) (hn : n ≤ 11) (hw : 10 * n + g ≤ 127) (hov : L.toInt + (3 * 2 ^ (g - 5) - 1 : Nat) < 2 ^ 31) (hN : VN mnh mnl = 10 ^ (3 * n + 1) - 1) (hM : VN mph mpl = 10 ^ (3 * n) - 1) (x y lh0 ll0 bh0 bl0 h0 l0 : Int64) : ∃ lh ll gh gl kd ng ex bh bl ph pl, f_K_T_canonical x y (nI (10 * n + g + 1)) L (nI (3 * 2 ^ (g - 5) - 1) + L) (nI n) (nI (10 * n)) (nI g) (nI (g - 5)) mnh mnl mph mpl lh0 ll0 bh0 bl0 h0 l0 = (cn (fT n g L (nI (3 * 2 ^ (g - 5) - 1) + L)) (VN x y % 2 ^ (10 * n + g + 1)), lh, ll, gh, gl, kd, ng, ex, bh, bl, ph, pl) := by
  have hc : VN (f_T_cut x y (nI (10 * n + g + 1))).1 (f_T_cut x y (nI (10 * n + g + 1))).2 = VN x y % 2 ^ (10 * n + g + 1) := cutV x y (q := 10 * n + g) hw
  have gd := fT_good hg hg2 hn hw hov
  obtain ⟨kd, ex, bh, bl, e1, e2⟩ := KT_read (L := L) hg hg2 hn hw (f_T_cut x y (nI (10 * n + g + 1))).1 (f_T_cut x y (nI (10 * n + g + 1))).2 bh0 bl0
  rw [hc] at e1 e2
  have hok := gd.ok (VN x y % 2 ^ (10 * n + g + 1))
  rw [show (fT n g L (nI (3 * 2 ^ (g - 5) - 1) + L)).r (VN x y % 2 ^ (10 * n + g + 1)) = sT n g L (VN x y % 2 ^ (10 * n + g + 1)) from rfl, ← e2] at hok
  obtain ⟨b, lh, ll, h, l, f1, f2⟩ := KT_write (L := L) hg hg2 hn hw hov hN hM kd ex (sg2 (10 * n + g) (VN x y % 2 ^ (10 * n + g + 1))) bh bl h0 l0 lh0 ll0 hok
  obtain ⟨c1, c2⟩ := canon gd e2 f2 hc
  unfold f_K_T_canonical
  dsimp only
  rw [e1]
  dsimp only
  rw [f1]
  dsimp only
  rw [c1, if_neg (by decide), c2]
  generalize cn (fT n g L (nI (3 * 2 ^ (g - 5) - 1) + L)) (VN x y % 2 ^ (10 * n + g + 1)) = z
  cases z
  · rw [if_pos (by decide)]
    exact ⟨_, _, _, _, _, _, _, _, _, _, _, rfl⟩
  · rw [if_neg (by decide)]
    exact ⟨_, _, _, _, _, _, _, _, _, _, _, rfl⟩
theorem ok_KT {n : Nat} (hn : n ≤ 11) : ok_K_T_unpack (nI n) ∧ ok_K_T_pack (nI n) ∧ ok_K_T_canonical (nI n) := by
  have a : ok_T_readBody (nI n) := ok_rbT (by omega)
  have b : ok_T_writeTail (nI n) := ok_wtT (by omega)
  exact ⟨a, b, a, b⟩

