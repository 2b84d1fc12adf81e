/-! the densely packed decimal formats: writing -/
theorem sh0 : lshl_ (0:Int64) (32:Int32) = 0 := by decide +kernel
set_option maxRecDepth 20000 in
theorem over_eq {w : Nat → Int64} (hw : Wok w 8) : (f_M_over2 w).1 = nI (WN w 8 % 1000) ∧ WN (f_M_over2 w).2 8 = WN w 8 / 1000 ∧ Wok (f_M_over2 w).2 8 ∧ ∀ j, j < 8 → (f_M_over2 w).2 j = w j := by
  obtain ⟨h8, h9, h10, h11⟩ := hw
  unfold f_M_over2
  rw [sh0, show (0:Int64) ||| w 11 = w 11 from Int64.zero_or]
  have hv : WN w 8 = ((uW (w 11) * 4294967296 + uW (w 10)) * 4294967296 + uW (w 9)) * 4294967296 + uW (w 8) := by unfold WN; simp only [Nat.reduceAdd]; omega
  rw [hv]
  have hk : ∀ (a b c d : Int64) (j : Nat), j < 8 → vp_updL (vp_updL (vp_updL (vp_updL w 11 a) 10 b) 9 c) 8 d j = w j := by
    intro a b c d j hj
    simp only [updL_eq]
    rw [if_neg (by omega), if_neg (by omega), if_neg (by omega), if_neg (by omega)]
  have hW : ∀ (a b c d : Int64), WN (vp_updL (vp_updL (vp_updL (vp_updL w 11 a) 10 b) 9 c) 8 d) 8 = uW d + uW c * 2 ^ 32 + uW b * 2 ^ 64 + uW a * 2 ^ 96 := fun a b c d => rfl
  have hO : ∀ (a b c d : Int64), uW d < 2 ^ 32 ∧ uW c < 2 ^ 32 ∧ uW b < 2 ^ 32 ∧ uW a < 2 ^ 32 → Wok (vp_updL (vp_updL (vp_updL (vp_updL w 11 a) 10 b) 9 c) 8 d) 8 := fun a b c d h => h
  simp only [Nat.reduceAdd] at h8 h9 h10 h11
  dsimp only
  generalize w 8 = A at *
  generalize w 9 = B at *
  generalize w 10 = C at *
  generalize w 11 = E at *
  have q4 := uW_div1000 (x := E) (by omega)
  have r4 := uW_rem1000 (x := E) (by omega)
  generalize E - E / (1000:Int64) * (1000:Int64) = R3 at *
  generalize E / (1000:Int64) = Q4 at *
  obtain ⟨c3, q3, r3⟩ := div_step (r := R3) (y := C) (by omega) (by omega)
  generalize lshl_ R3 (32:Int32) ||| C = z1 at *
  generalize z1 - z1 / (1000:Int64) * (1000:Int64) = R2 at *
  generalize z1 / (1000:Int64) = Q3 at *
  obtain ⟨c2, q2, r2⟩ := div_step (r := R2) (y := B) (by omega) (by omega)
  generalize lshl_ R2 (32:Int32) ||| B = z2 at *
  generalize z2 - z2 / (1000:Int64) * (1000:Int64) = R1 at *
  generalize z2 / (1000:Int64) = Q2 at *
  obtain ⟨c1, q1, r1⟩ := div_step (r := R1) (y := A) (by omega) (by omega)
  generalize lshl_ R1 (32:Int32) ||| A = z3 at *
  generalize z3 - z3 / (1000:Int64) * (1000:Int64) = R0 at *
  generalize z3 / (1000:Int64) = Q1 at *
  obtain ⟨k1, k2⟩ := long_div q4 r4 q3 r3 q2 r2 q1
  have b3 : uW Q3 < 2 ^ 32 := by rw [q3]; omega
  have b1 : uW Q1 < 2 ^ 32 := by rw [q1]; omega
  have b2 : uW Q2 < 2 ^ 32 := by rw [q2]; omega
  have b4 : uW Q4 < 2 ^ 32 := by rw [q4]; omega
  refine ⟨?_, ?_, hO _ _ _ _ ⟨b1, b2, b3, b4⟩, hk _ _ _ _⟩
  · rw [← k2, ← r1]; exact toI_uW rfl
  · rw [hW, ← k1]
    clear k1 k2 q1 q2 q3 q4 r1 r2 r3 r4 c1 c2 c3 hv hW hO hk
    omega
theorem b1000 (B j : Nat) : B / 1000 ^ j / 1000 = B / 1000 ^ (j + 1) := by rw [Nat.div_div_eq_div_mul, ← Nat.pow_succ]
theorem en_room {V0 X n j B : Nat} (hV : V0 = X * 2 ^ (10 * n)) (hj : j < n) : (V0 + en j B) / 2 ^ (10 * j) % 2 ^ 10 = 0 :=
  rmz (X := X) (q := 10 * n) (Y := en j B) (by rw [hV]) (en_lt j B) (by omega)
/-- the class writes a tail -/
theorem wtT_loop {n : Nat} (hn : n ≤ 11) (B X : Nat) {V0 : Nat} (hV : V0 = X * 2 ^ (10 * n)) : ∀ (fuel j : Nat) (ph pl lh ll : Int64), j ≤ n → n - j < fuel → VN ph pl = V0 + en j B → VN lh ll = B / 1000 ^ j →
    ∃ ah al bh bl, lf_T_writeTail fuel (nI n) (nI j) ph pl lh ll = (Int64.toInt32 al, ah, al, bh, bl) ∧ VN ah al = B / 1000 ^ n ∧ VN bh bl = V0 + en n B := by
  intro fuel
  induction fuel with
  | zero => intro j _ _ _ _ _ q; omega
  | succ f ih =>
    intro j ph pl lh ll hj hf e1 e2
    unfold lf_T_writeTail
    by_cases c : n = j
    · subst c
      rw [if_pos ((nI_leI (by omega) (by omega)).mpr (Nat.le_refl _))]
      exact ⟨lh, ll, ph, pl, rfl, e2, e1⟩
    · rw [if_neg (fun q => c (Nat.le_antisymm ((nI_leI (by omega) (by omega)).mp q) hj)), nI_1, ten_at]
      obtain ⟨t1, t2⟩ := VN_take lh ll
      have hm : B / 1000 ^ j % 1000 < 1000 := Nat.mod_lt _ (by decide)
      obtain ⟨w1, w2⟩ := wr_eq _ hm
      dsimp only
      rw [t1, e2, w1]
      have hu : uW (Int32.toInt64 (nI (wr (B / 1000 ^ j % 1000)))) = wr (B / 1000 ^ j % 1000) := uW_i2l (by omega)
      have ha := VN_add ph pl (Int32.toInt64 (nI (wr (B / 1000 ^ j % 1000)))) (p := 10 * j) (m := 10) (by omega) (by omega) (by rw [hu]; omega) (by rw [e1]; exact en_room hV (by omega))
      rw [hu, e1, Nat.add_assoc] at ha
      exact ih (j + 1) _ _ _ _ (by omega) (by omega) ha (by rw [t2, e2, b1000])
theorem writeTailT {n : Nat} (hn : n ≤ 11) {bh bl : Int64} (ha : VN bh bl / 1000 ^ n < 10) :
    ∃ ah al ch cl, f_T_writeTail (nI n) bh bl 0 0 = (nI (VN bh bl / 1000 ^ n), ah, al, ch, cl) ∧ VN ch cl = en n (VN bh bl) := by
  have h0 : VN (0:Int64) (0:Int64) = 0 + en 0 (VN bh bl) := VN_00
  obtain ⟨ah, al, ch, cl, q1, q2, q3⟩ := wtT_loop hn (VN bh bl) 0 (V0 := 0) (by rw [Nat.zero_mul]) 40 0 0 0 bh bl (by omega) (by omega) h0 (by rw [Nat.pow_zero, Nat.div_one])
  refine ⟨ah, al, ch, cl, ?_, by rw [q3, Nat.zero_add]⟩
  have hl : uW al = VN bh bl / 1000 ^ n := by rw [← q2] at ha ⊢; unfold VN at ha ⊢; have := uW_lt al; omega
  rw [← toI_uW hl]
  exact q1
def hdT (g : Nat) (kd : Int32) (d a : Nat) : Nat :=
  if kd = 0 then (if a < 8 then d / 2 ^ (g - 5) * 8 + a else 24 + d / 2 ^ (g - 5) * 2 + a % 2) * 2 ^ (g - 5) + d % 2 ^ (g - 5)
  else if kd = 1 then 30 * 2 ^ (g - 5) else if kd = 2 then 31 * 2 ^ (g - 5) else 63 * 2 ^ (g - 6)
theorem mk_lt {g d a : Nat} (ha : a < 10) (hd : d < 3 * 2 ^ (g - 5)) : d / 2 ^ (g - 5) < 3 ∧ (if a < 8 then d / 2 ^ (g - 5) * 8 + a else 24 + d / 2 ^ (g - 5) * 2 + a % 2) < 32 := by
  have h1 : d / 2 ^ (g - 5) < 3 := (Nat.div_lt_iff_lt_mul (Nat.two_pow_pos _)).mpr hd
  generalize d / 2 ^ (g - 5) = q at *
  exact ⟨h1, by split <;> omega⟩
theorem hdT_lt {g d a : Nat} (hg : 7 ≤ g) (kd : Int32) (ha : a < 10) (hd : kd = 0 → d < 3 * 2 ^ (g - 5)) : hdT g kd d a < 2 ^ g := by
  unfold hdT
  have e5 : 2 ^ g = 32 * 2 ^ (g - 5) := by rw [pw2 (g := g) (k := 5) (by omega)]
  have e6 : 2 ^ (g - 5) = 2 * 2 ^ (g - 6) := by rw [← Nat.pow_succ']; congr 1; omega
  have p6 : 0 < 2 ^ (g - 6) := Nat.two_pow_pos _
  by_cases k0 : kd = 0
  · rw [if_pos k0]
    have hm := (mk_lt ha (hd k0)).2
    generalize (if a < 8 then d / 2 ^ (g - 5) * 8 + a else 24 + d / 2 ^ (g - 5) * 2 + a % 2) = m at *
    have hl : d % 2 ^ (g - 5) < 2 ^ (g - 5) := Nat.mod_lt _ (Nat.two_pow_pos _)
    have : (m + 1) * 2 ^ (g - 5) ≤ 32 * 2 ^ (g - 5) := Nat.mul_le_mul_right _ hm
    rw [Nat.add_mul, Nat.one_mul] at this
    omega
  · rw [if_neg k0]; split
    · omega
    · split <;> omega
theorem headForT {g d a : Nat} (hg : 7 ≤ g) (hg2 : g ≤ 30) {kd ex L : Int32} (ha : a < 10) (hd : kd = 0 → ex = nI d + L ∧ d < 3 * 2 ^ (g - 5)) : uW (f_T_headFor (nI a) L (nI g) (nI (g - 5)) kd ex) = hdT g kd d a := by
  have hlt := hdT_lt (d := d) (a := a) hg kd ha (fun k => (hd k).2)
  have pg : 2 ^ g ≤ 2 ^ 30 := Nat.pow_le_pow_right (by decide) hg2
  unfold f_T_headFor hdT
  unfold hdT at hlt
  rw [u_sub g 5 (by omega) (5:Int32) rfl, u_sub g 6 (by omega) (6:Int32) rfl]
  by_cases k0 : kd = 0
  · obtain ⟨d1, d2⟩ := hd k0
    rw [if_pos k0] at hlt ⊢
    rw [if_pos k0, d1, Int32.add_sub_cancel]
    unfold f_T_headOf
    rw [i_and1 (by omega)]
    have e5 : 2 ^ g = 32 * 2 ^ (g - 5) := by rw [pw2 (g := g) (k := 5) (by omega)]
    have hd31 : d < 2 ^ 31 := by omega
    have hud : uW (Int32.toInt64 (nI d)) = d := uW_i2l hd31
    obtain ⟨q3, hm⟩ := mk_lt ha d2
    have hsh : uW (lushr_ (Int32.toInt64 (nI d)) (nI (g - 5))) = d / 2 ^ (g - 5) := by rw [uW_ushr _ (by omega), hud]
    have hlow : uW (Int32.toInt64 (nI d) &&& f_W_ones (nI (g - 5))) = d % 2 ^ (g - 5) := by rw [uW_ones' _ (by omega), hud]
    have hml : d % 2 ^ (g - 5) < 2 ^ (g - 5) := Nat.mod_lt _ (Nat.two_pow_pos _)
    have hbig : ∀ m, m < 32 → m * 2 ^ (g - 5) < 2 ^ 64 := by
      intro m hm
      have : m * 2 ^ (g - 5) ≤ 32 * 2 ^ (g - 5) := Nat.mul_le_mul_right _ (by omega)
      omega
    dsimp only
    by_cases c : a < 8
    · rw [if_pos c] at hm ⊢
      rw [if_neg (fun q => absurd ((lit_le (a := a) (8:Int32) 8 rfl (by omega) (by omega)).mp q) (by omega))]
      have s1 : uW (lshl_ (lushr_ (Int32.toInt64 (nI d)) (nI (g - 5))) (3:Int32)) = d / 2 ^ (g - 5) * 2 ^ 3 := uW_shlv (k := 3) hsh (by decide) (by omega)
      have s2 := uW_orP s1 (uW_i2l (n := a) (by omega)) (by omega)
      have s3 := uW_shlv (k := g - 5) s2 (by omega) (hbig _ hm)
      exact uW_orP s3 hlow hml
    · rw [if_neg c] at hm ⊢
      rw [if_pos ((lit_le (a := a) (8:Int32) 8 rfl (by omega) (by omega)).mpr (by omega))]
      have s1 : uW (lshl_ (lushr_ (Int32.toInt64 (nI d)) (nI (g - 5))) (1:Int32)) = d / 2 ^ (g - 5) * 2 ^ 1 := uW_shlv (k := 1) hsh (by decide) (by omega)
      have s0 : uW (24:Int64) = 3 * 2 ^ 3 := rfl
      have s2 := uW_orP s0 s1 (by omega)
      have s3 : 3 * 2 ^ 3 + d / 2 ^ (g - 5) * 2 ^ 1 = (12 + d / 2 ^ (g - 5)) * 2 ^ 1 := by omega
      rw [s3] at s2
      have s4 := uW_orP s2 (uW_i2l (n := a % 2) (by omega)) (by omega)
      have s5 : (12 + d / 2 ^ (g - 5)) * 2 ^ 1 + a % 2 = 24 + d / 2 ^ (g - 5) * 2 + a % 2 := by omega
      rw [s5] at s4
      have s6 := uW_shlv (k := g - 5) s4 (by omega) (hbig _ hm)
      exact uW_orP s6 hlow hml
  · rw [if_neg k0] at hlt ⊢
    rw [if_neg k0]
    by_cases k1 : kd = 1
    · rw [if_pos k1] at hlt ⊢
      rw [if_pos k1]; exact uW_shlv (n := 30) rfl (by omega) (by omega)
    · rw [if_neg k1] at hlt ⊢
      rw [if_neg k1]
      by_cases k2 : kd = 2
      · rw [if_pos k2] at hlt ⊢
        rw [if_pos k2]; exact uW_shlv (n := 31) rfl (by omega) (by omega)
      · rw [if_neg k2] at hlt ⊢
        rw [if_neg k2]; exact uW_shlv (n := 63) rfl (by omega) (by omega)
/-- the pattern of a datum that a densely packed format has, its sign aside -/
def wT (n g : Nat) (kd : Int32) (d B : Nat) : Nat := en n B + hdT g kd d (B / 1000 ^ n) * 2 ^ (10 * n)
theorem writeT {n g d : Nat} (hg : 7 ≤ g) (hg2 : g ≤ 30) (hn : n ≤ 11) (hw : 10 * n + g ≤ 127) {L kd ex : Int32} {bh bl : Int64} (hd : kd = 0 → ex = nI d + L ∧ d < 3 * 2 ^ (g - 5)) (ha : VN bh bl / 1000 ^ n < 10) :
    ∃ ah al ch cl, f_T_writeU L (nI n) (nI (10 * n)) (nI g) (nI (g - 5)) kd ex bh bl 0 0 = (ah, al, ch, cl) ∧ VN ch cl = wT n g kd d (VN bh bl) ∧ wT n g kd d (VN bh bl) < 2 ^ (10 * n + g) := by
  obtain ⟨ah, al, ch, cl, q1, q2⟩ := writeTailT hn ha
  have hh := headForT (g := g) (d := d) (a := VN bh bl / 1000 ^ n) hg hg2 (kd := kd) (ex := ex) (L := L) ha hd
  have hlt := hdT_lt (d := d) (a := VN bh bl / 1000 ^ n) hg kd ha (fun k => (hd k).2)
  unfold f_T_writeU wT
  rw [q1]
  refine ⟨_, _, _, _, rfl, ?_, lt_top hlt (en_lt _ _)⟩
  dsimp only
  rw [VN_add _ _ _ (p := 10 * n) (m := g) (by omega) (by omega) (by rw [hh]; exact hlt) (by rw [q2, div_lt_pow (en_lt _ _), Nat.zero_mod]), q2, hh]
theorem lk_wtT {n : Nat} (hn : n < 2 ^ 31) : ∀ (fuel j : Nat), j ≤ n → n - j < fuel → lk_T_writeTail fuel (nI n) (nI j)
  | 0, j, _, h => by omega
  | f + 1, j, hj, hf => by
    unfold lk_T_writeTail
    refine ⟨fun _ => trivial, fun c => ?_⟩
    rw [nI_1]
    have : j ≠ n := fun e => c ((nI_leI (by omega) (by omega)).mpr (by omega))
    exact lk_wtT hn f (j + 1) (by omega) (by omega)
theorem ok_wtT {n : Nat} (hn : n < 40) : ok_T_writeTail (nI n) := lk_wtT (by omega) 40 0 (by omega) (by omega)

