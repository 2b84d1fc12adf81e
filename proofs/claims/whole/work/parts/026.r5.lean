/-! the class: unpack, pack, canonical of a format of each kind -/
theorem cutV (x y : Int64) {q : Nat} (hq : q ≤ 127) : VN (f_B_cut x y (nI (q + 1))).1 (f_B_cut x y (nI (q + 1))).2 = VN x y % 2 ^ (q + 1) := VN_keep x y (k := q + 1) (by omega)
theorem sgB {wh wl : Int64} {q : Nat} (hq : q ≤ 127) {α : Type} (a b : α) : (if lg_cmp (f_W_bitsAt (nI (q + 1) - (1:Int32)) (1:Int32) wh wl) (1:Int64) = (0:Int32) then a else b) = if sg2 q (VN wh wl) = true then a else b := by
  rw [u_sub (q + 1) 1 (by omega) (1:Int32) rfl, show q + 1 - 1 = q from by omega]
  have hb := uW_bit1 wh wl (p := q) (by omega)
  unfold sg2
  by_cases c : VN wh wl / 2 ^ q % 2 = 1
  · rw [if_pos ((lg_eq (b := 1) hb rfl).mpr c), decide_eq_true c, if_pos rfl]
  · rw [if_neg (fun z => c ((lg_eq (b := 1) hb rfl).mp z)), decide_eq_false c, if_neg (by decide)]
theorem addTop {h l : Int64} {q : Nat} (hq : q ≤ 127) (hlt : VN h l < 2 ^ q) : VN (f_W_addBits (nI (q + 1) - (1:Int32)) (1:Int64) h l).1 (f_W_addBits (nI (q + 1) - (1:Int32)) (1:Int64) h l).2 = 2 ^ q + VN h l := by
  rw [u_sub (q + 1) 1 (by omega) (1:Int32) rfl, show q + 1 - 1 = q from by omega]
  rw [VN_add h l (1:Int64) (p := q) (m := 1) (by omega) (by omega) (by rw [uW_one]; decide) (by rw [div_lt_pow hlt, Nat.zero_mod]), uW_one, Nat.one_mul, Nat.add_comm]
/-- what the class's side of a format says: of its has, its unsigned write and read -/
def Wr (F : FS) (kd ex : Int32) (ng : Bool) (B : Nat) (b : Bool) (h l h0 l0 : Int64) : Prop := (b = F.h kd ex B) ∧ (F.h kd ex B = true → VN h l = top F.q ng + F.w kd ex B) ∧ (F.h kd ex B = false → h = h0 ∧ l = l0)
theorem Wr.e {F : FS} {kd ex : Int32} {ng : Bool} {B : Nat} {b : Bool} {h l h0 l0 : Int64} (W : Wr F kd ex ng B b h l h0 l0) : b = F.h kd ex B := W.1
theorem Wr.y {F : FS} {kd ex : Int32} {ng : Bool} {B : Nat} {b : Bool} {h l h0 l0 : Int64} (W : Wr F kd ex ng B b h l h0 l0) : F.h kd ex B = true → VN h l = top F.q ng + F.w kd ex B := W.2.1
theorem Wr.n {F : FS} {kd ex : Int32} {ng : Bool} {B : Nat} {b : Bool} {h l h0 l0 : Int64} (W : Wr F kd ex ng B b h l h0 l0) : F.h kd ex B = false → h = h0 ∧ l = l0 := W.2.2
theorem canon {F : FS} {kd ex : Int32} {V B : Nat} {b : Bool} {h l h0 l0 gh gl : Int64} (g : F.good) (hr : (kd, ex, B) = F.r V) (W : Wr F kd ex (sg2 F.q V) B b h l h0 l0) (hg : VN gh gl = V) : b = true ∧ f_W_isSame h l gh gl = cn F V := by
  unfold cn
  have hh := g.has V
  rw [← hr] at hh ⊢
  dsimp only at hh ⊢
  refine ⟨by rw [W.e, hh], ?_⟩
  rw [isSame_iff, W.y hh, hg]
theorem KB_read {t s : Nat} {L : Int32} {fu : Int64} (ht : 2 ≤ t) (hs : 2 ≤ s) (hs2 : s ≤ 30) (hw : t + s ≤ 127) (hfu : uW fu = 2 ^ s - 1) (wh wl : Int64) : ∃ kd ex bh bl, f_B_read (nI (t + s + 1)) L (nI t) (nI s) fu wh wl = (kd, sg2 (t + s) (VN wh wl), ex, bh, bl) ∧ (kd, ex, VN bh bl) = sB t s L (VN wh wl) := by
  obtain ⟨kd, ex, bh, bl, e1, e2⟩ := readB ht (by omega) hs2 hw hfu wh wl (L := L)
  unfold f_B_read
  dsimp only
  rw [sgB (q := t + s) hw, e1]
  by_cases c : sg2 (t + s) (VN wh wl) = true
  · rw [if_pos c, c]; exact ⟨_, _, _, _, rfl, e2⟩
  · rw [if_neg c, Bool.eq_false_iff.mpr c]; exact ⟨_, _, _, _, rfl, e2⟩
theorem KB_write {t s : Nat} {L : Int32} {fu : Int64} (ht : 2 ≤ t) (hs : 2 ≤ s) (hs2 : s ≤ 30) (hw : t + s ≤ 127) (htm : t ≤ 120) (hov : L.toInt + (2 ^ s - 3 : Nat) < 2 ^ 31) (hfu : uW fu = 2 ^ s - 1) (kd ex : Int32) (ng : Bool) (bh bl h0 l0 : Int64) (hk : okD kd (VN bh bl)) : ∃ b h l, f_B_write (nI (t + s + 1)) (nI (t + 1)) L (nI (2 ^ s - 3) + L) (nI t) fu kd ng ex bh bl h0 l0 = (b, h, l) ∧ Wr (fB t s L (nI (2 ^ s - 3) + L)) kd ex ng (VN bh bl) b h l h0 l0 := by
  have ps : 2 ^ s ≤ 2 ^ 30 := Nat.pow_le_pow_right (by decide) hs2
  have ps4 : 2 ^ 2 ≤ 2 ^ s := Nat.pow_le_pow_right (by decide) hs
  unfold f_B_write
  dsimp only
  rw [hasB ht htm]
  by_cases c : hB t L (nI (2 ^ s - 3) + L) kd ex (VN bh bl) = true
  · rw [c, if_neg (by decide)]
    have hh2 := c
    unfold hB at hh2
    obtain ⟨w1, w2⟩ := writeB ht (by omega) hs2 hw hfu (L := L) (kd := kd) (ex := ex) (bh := bh) (bl := bl) (d := (ex - L).toNatClampNeg) (by
      intro k0
      rw [if_pos k0] at hh2
      obtain ⟨a1, a2, a3, a4⟩ := of_decide_eq_true hh2
      obtain ⟨b1, b2⟩ := rng (by omega) hov a1 a2
      exact ⟨b1, by omega⟩) hk.2 (by
      intro k0
      rw [if_neg k0] at hh2
      by_cases k1 : kd = 1
      · rw [hk.2 k1]; exact Nat.two_pow_pos _
      · rw [if_neg k1] at hh2
        exact (of_decide_eq_true hh2).1)
    cases ng
    · rw [if_pos (by decide)]
      exact ⟨_, _, _, rfl, c.symm, fun _ => by rw [w1]; exact (Nat.zero_add _).symm, fun q => by rw [show (fB t s L (nI (2 ^ s - 3) + L)).h kd ex (VN bh bl) = true from c] at q; exact absurd q (by decide)⟩
    · rw [if_neg (by decide)]
      exact ⟨_, _, _, rfl, c.symm, fun _ => by rw [addTop hw (by rw [w1]; exact w2), w1]; rfl, fun q => by rw [show (fB t s L (nI (2 ^ s - 3) + L)).h kd ex (VN bh bl) = true from c] at q; exact absurd q (by decide)⟩
  · have c' := Bool.eq_false_iff.mpr c
    rw [c', if_pos (by decide)]
    exact ⟨_, _, _, rfl, c'.symm, fun q => absurd q c, fun _ => ⟨rfl, rfl⟩⟩
theorem KB_unpack {t s : Nat} {L : Int32} {fu : Int64} (ht : 2 ≤ t) (hs : 2 ≤ s) (hs2 : s ≤ 30) (hw : t + s ≤ 127) (hfu : uW fu = 2 ^ s - 1) (x y : Int64) : ∃ kd ex bh bl gh gl, f_K_B_unpack x y (nI (t + s + 1)) L (nI t) (nI s) fu = (kd, gh, gl, kd, sg2 (t + s) (VN x y % 2 ^ (t + s + 1)), ex, bh, bl) ∧ (kd, ex, VN bh bl) = sB t s L (VN x y % 2 ^ (t + s + 1)) := by
  have hc := cutV x y (q := t + s) hw
  obtain ⟨kd, ex, bh, bl, e1, e2⟩ := KB_read (L := L) ht hs hs2 hw hfu (f_B_cut x y (nI (t + s + 1))).1 (f_B_cut x y (nI (t + s + 1))).2
  rw [hc] at e1 e2
  unfold f_K_B_unpack
  dsimp only
  rw [e1]
  exact ⟨_, _, _, _, _, _, rfl, e2⟩
theorem KB_canonical {t s : Nat} {L : Int32} {fu : Int64} (ht : 2 ≤ t) (hs : 2 ≤ s) (hs2 : s ≤ 30) (hw : t + s ≤ 127) (htm : t ≤ 120) (hov : L.toInt + (2 ^ s - 3 : Nat) < 2 ^ 31) (hfu : uW fu = 2 ^ s - 1) (x y h0 l0 : Int64) : ∃ gh gl kd ng ex bh bl ph pl, f_K_B_canonical x y (nI (t + s + 1)) (nI (t + 1)) L (nI (2 ^ s - 3) + L) (nI t) (nI s) fu h0 l0 = (cn (fB t s L (nI (2 ^ s - 3) + L)) (VN x y % 2 ^ (t + s + 1)), gh, gl, kd, ng, ex, bh, bl, ph, pl) := by
  have hc := cutV x y (q := t + s) hw
  have g := fB_good ht hs hs2 hw hov
  obtain ⟨kd, ex, bh, bl, e1, e2⟩ := KB_read (L := L) ht hs hs2 hw hfu (f_B_cut x y (nI (t + s + 1))).1 (f_B_cut x y (nI (t + s + 1))).2
  rw [hc] at e1 e2
  have hok := g.ok (VN x y % 2 ^ (t + s + 1))
  rw [show (fB t s L (nI (2 ^ s - 3) + L)).r (VN x y % 2 ^ (t + s + 1)) = sB t s L (VN x y % 2 ^ (t + s + 1)) from rfl, ← e2] at hok
  obtain ⟨b, h, l, f1, f2⟩ := KB_write (L := L) ht hs hs2 hw htm hov hfu kd ex (sg2 (t + s) (VN x y % 2 ^ (t + s + 1))) bh bl h0 l0 hok
  obtain ⟨c1, c2⟩ := canon g e2 f2 hc
  unfold f_K_B_canonical
  dsimp only
  rw [e1]
  dsimp only
  rw [f1]
  dsimp only
  rw [c1, if_neg (by decide), c2]
  generalize cn (fB t s L (nI (2 ^ s - 3) + L)) (VN x y % 2 ^ (t + s + 1)) = z
  cases z
  · rw [if_pos (by decide)]
    exact ⟨_, _, _, _, _, _, _, _, _, rfl⟩
  · rw [if_neg (by decide)]
    exact ⟨_, _, _, _, _, _, _, _, _, rfl⟩

