/-! the reference: unpack, pack, canonical of a format -/
def Mod (F : FS) (f : Int32) (sp md : Nat → Int32) : Prop := (F.good) ∧ (f_M_asks f = (true, (0:Int32))) ∧ (f_M_width f = nI (F.q + 1)) ∧ (F.q + 1 = 128 ∨ F.q + 1 = 64 ∨ F.q + 1 < 64) ∧ (∀ h l w, ∃ kd ex W, (if (4:Int32) ≤ f then f_M_openDecimal f 0 0 h l w sp else f_M_openBinary f 0 0 h l w) = (kd, ex, W) ∧ (kd, ex, WN W 0) = F.r (VN h l) ∧ Wok W 0) ∧ (∀ kd ex w, Wok w 0 → ∃ b W, f_M_fits f kd ex w = (b, W) ∧ b = F.h kd ex (WN w 0) ∧ Wok W 0 ∧ WN W 0 = WN w 0) ∧ (∀ kd ex w h l S, Wok w 0 → okD kd (WN w 0) → F.h kd ex (WN w 0) = true → VN h l = S * 2 ^ F.q → ∃ ch cl W, (if (4:Int32) ≤ f then f_M_closeDecimal f kd ex h l w md else ((f_M_closeBinary f kd ex h l w).1, (f_M_closeBinary f kd ex h l w).2, w)) = (ch, cl, W) ∧ VN ch cl = S * 2 ^ F.q + F.w kd ex (WN w 0) ∧ ∀ q, q < 4 → W q = w q) ∧ (∀ h l, ok_M_open f h l) ∧ (ok_M_fits f) ∧ (∀ w, Wok w 0 → ok_M_close f w)
theorem Mod.good {F : FS} {f : Int32} {sp md : Nat → Int32} (M : Mod F f sp md) : F.good := M.1
theorem Mod.asks {F : FS} {f : Int32} {sp md : Nat → Int32} (M : Mod F f sp md) : f_M_asks f = (true, (0:Int32)) := M.2.1
theorem Mod.wid {F : FS} {f : Int32} {sp md : Nat → Int32} (M : Mod F f sp md) : f_M_width f = nI (F.q + 1) := M.2.2.1
theorem Mod.siz {F : FS} {f : Int32} {sp md : Nat → Int32} (M : Mod F f sp md) : F.q + 1 = 128 ∨ F.q + 1 = 64 ∨ F.q + 1 < 64 := M.2.2.2.1
theorem Mod.open_ {F : FS} {f : Int32} {sp md : Nat → Int32} (M : Mod F f sp md) : ∀ h l w, ∃ kd ex W, (if (4:Int32) ≤ f then f_M_openDecimal f 0 0 h l w sp else f_M_openBinary f 0 0 h l w) = (kd, ex, W) ∧ (kd, ex, WN W 0) = F.r (VN h l) ∧ Wok W 0 := M.2.2.2.2.1
theorem Mod.fits_ {F : FS} {f : Int32} {sp md : Nat → Int32} (M : Mod F f sp md) : ∀ kd ex w, Wok w 0 → ∃ b W, f_M_fits f kd ex w = (b, W) ∧ b = F.h kd ex (WN w 0) ∧ Wok W 0 ∧ WN W 0 = WN w 0 := M.2.2.2.2.2.1
theorem Mod.close_ {F : FS} {f : Int32} {sp md : Nat → Int32} (M : Mod F f sp md) : ∀ kd ex w h l S, Wok w 0 → okD kd (WN w 0) → F.h kd ex (WN w 0) = true → VN h l = S * 2 ^ F.q → ∃ ch cl W, (if (4:Int32) ≤ f then f_M_closeDecimal f kd ex h l w md else ((f_M_closeBinary f kd ex h l w).1, (f_M_closeBinary f kd ex h l w).2, w)) = (ch, cl, W) ∧ VN ch cl = S * 2 ^ F.q + F.w kd ex (WN w 0) ∧ ∀ q, q < 4 → W q = w q := M.2.2.2.2.2.2.1
theorem Mod.okO {F : FS} {f : Int32} {sp md : Nat → Int32} (M : Mod F f sp md) : ∀ h l, ok_M_open f h l := M.2.2.2.2.2.2.2.1
theorem Mod.okF {F : FS} {f : Int32} {sp md : Nat → Int32} (M : Mod F f sp md) : ok_M_fits f := M.2.2.2.2.2.2.2.2.1
theorem Mod.okC {F : FS} {f : Int32} {sp md : Nat → Int32} (M : Mod F f sp md) : ∀ w, Wok w 0 → ok_M_close f w := M.2.2.2.2.2.2.2.2.2
def sg2 (q V : Nat) : Bool := decide (V / 2 ^ q % 2 = 1)
def top (q : Nat) (ng : Bool) : Nat := bif ng then 2 ^ q else 0
/-- whether a pattern is made so -/
def cn (F : FS) (V : Nat) : Bool := decide (top F.q (sg2 F.q V) + F.w (F.r V).1 (F.r V).2.1 (F.r V).2.2 = V)
theorem bI_sg (q V : Nat) : nI (V / 2 ^ q % 2) = bI (sg2 q V) := by
  unfold sg2
  have h : V / 2 ^ q % 2 < 2 := Nat.mod_lt _ (by decide)
  by_cases c : V / 2 ^ q % 2 = 1
  · rw [decide_eq_true c, c]; rfl
  · rw [decide_eq_false c, show V / 2 ^ q % 2 = 0 from by omega]; rfl
theorem Wsame {W w : Nat → Int64} (h : ∀ q, q < 4 → W q = w q) : WN W 0 = WN w 0 ∧ (Wok w 0 → Wok W 0) := by
  unfold WN Wok
  rw [h 0 (by decide), h (0 + 1) (by decide), h (0 + 2) (by decide), h (0 + 3) (by decide)]
  exact ⟨rfl, id⟩
theorem cp0_W (w : Nat → Int64) (a b c d : Int64) : WN (vp_updL (vp_updL (vp_updL (vp_updL w 0 a) 1 b) 2 c) 3 d) 0 = uW a + uW b * 2 ^ 32 + uW c * 2 ^ 64 + uW d * 2 ^ 96 := rfl
theorem cp0_O (w : Nat → Int64) (a b c d : Int64) (h : uW a < 2 ^ 32 ∧ uW b < 2 ^ 32 ∧ uW c < 2 ^ 32 ∧ uW d < 2 ^ 32) : Wok (vp_updL (vp_updL (vp_updL (vp_updL w 0 a) 1 b) 2 c) 3 d) 0 := h
theorem maskV {f : Int32} {q : Nat} (hw : f_M_width f = nI (q + 1)) (hs : q + 1 = 128 ∨ q + 1 = 64 ∨ q + 1 < 64) (h l : Int64) : VN (f_M_mask f h l).1 (f_M_mask f h l).2 = VN h l % 2 ^ (q + 1) := by
  unfold f_M_mask
  rw [hw]
  dsimp only
  have hlt := VN_lt h l
  have hl := uW_lt l
  rcases hs with e | e | e
  · rw [e, if_pos (by decide +kernel), if_pos (by decide +kernel)]
    exact (Nat.mod_eq_of_lt hlt).symm
  · rw [e, if_neg (by decide +kernel), if_pos (by decide +kernel)]
    dsimp only
    unfold VN
    rw [uW_0, Nat.zero_mul, Nat.zero_add, Nat.add_comm, Nat.add_mul_mod_self_right, Nat.mod_eq_of_lt hl]
  · rw [if_neg (fun c => absurd ((lit_le (128:Int32) 128 rfl (by decide) (by omega)).mp c) (by omega)), if_neg (fun c => absurd ((lit_le (64:Int32) 64 rfl (by decide) (by omega)).mp c) (by omega))]
    dsimp only
    have hm : uW (l &&& (lshl_ (1:Int64) (nI (q + 1)) - (1:Int64))) = uW l % 2 ^ (q + 1) := uW_ones' l (k := q + 1) e
    unfold VN
    rw [uW_0, Nat.zero_mul, Nat.zero_add, hm, md_low (by omega)]
theorem Mod.opn {F : FS} {f : Int32} {sp md : Nat → Int32} (M : Mod F f sp md) (h l : Int64) (w : Nat → Int64) : ∃ kd ex lh ll W, f_M_open f h l w sp = (kd, bI (sg2 F.q (VN h l % 2 ^ (F.q + 1))), ex, lh, ll, W) ∧ VN lh ll = VN h l % 2 ^ (F.q + 1) ∧ (kd, ex, WN W 0) = F.r (VN h l % 2 ^ (F.q + 1)) ∧ Wok W 0 := by
  have hq := M.good.q7
  have hm := maskV M.wid M.siz h l
  obtain ⟨kd, ex, W, e1, e2, e3⟩ := M.open_ (f_M_mask f h l).1 (f_M_mask f h l).2 w
  rw [hm] at e2
  have hb := bit_eq (f_M_mask f h l).1 (f_M_mask f h l).2 (k := F.q) (by omega)
  rw [hm, bI_sg] at hb
  unfold f_M_open
  dsimp only
  rw [M.wid, u_sub (F.q + 1) 1 (by omega) (1:Int32) rfl, show F.q + 1 - 1 = F.q from by omega, hb]
  by_cases c : (4:Int32) ≤ f
  · rw [if_pos c] at e1 ⊢
    rw [e1]
    exact ⟨_, _, _, _, _, rfl, hm, e2, e3⟩
  · rw [if_neg c] at e1 ⊢
    rw [e1]
    exact ⟨_, _, _, _, _, rfl, hm, e2, e3⟩
theorem Mod.unpack {F : FS} {f : Int32} {sp md : Nat → Int32} (M : Mod F f sp md) (x y : Int64) (kd0 sg0 ex0 : Int32) (lh0 ll0 : Int64) (w : Nat → Int64) : ∃ kd ex lh ll W, f_M_unpack f x y kd0 sg0 ex0 lh0 ll0 w sp = (kd, 0, kd, bI (sg2 F.q (VN x y % 2 ^ (F.q + 1))), ex, lh, ll, W) ∧ (kd, ex, WN W 0) = F.r (VN x y % 2 ^ (F.q + 1)) ∧ Wok W 0 := by
  obtain ⟨kd, ex, lh, ll, W, e1, e2, e3, e4⟩ := M.opn x y w
  unfold f_M_unpack
  rw [M.asks]
  dsimp only
  rw [if_neg (by decide), e1]
  exact ⟨_, _, _, _, _, rfl, e3, e4⟩
theorem Mod.ok_unpack {F : FS} {f : Int32} {sp md : Nat → Int32} (M : Mod F f sp md) (x y : Int64) : ok_M_unpack f x y := by
  unfold ok_M_unpack
  intro u e
  rw [M.asks] at e
  subst e
  exact ⟨fun _ => trivial, fun _ => M.okO x y⟩
theorem Mod.cls {F : FS} {f : Int32} {sp md : Nat → Int32} (M : Mod F f sp md) (kd ex : Int32) (ng : Bool) {w : Nat → Int64} (hw : Wok w 0) (hk : okD kd (WN w 0)) (hh : F.h kd ex (WN w 0) = true) : ∃ ch cl W, f_M_close f kd (bI ng) ex w md = (ch, cl, W) ∧ VN ch cl = top F.q ng + F.w kd ex (WN w 0) ∧ ∀ q, q < 4 → W q = w q := by
  have hq := M.good.q7
  have hb : ∃ b, b < 2 ∧ bI ng = nI b ∧ top F.q ng = b * 2 ^ F.q := by
    cases ng
    · exact ⟨0, by decide, rfl, (Nat.zero_mul _).symm⟩
    · exact ⟨1, by decide, rfl, (Nat.one_mul _).symm⟩
  obtain ⟨b, b1, b2, b3⟩ := hb
  have hs := VN_set (0:Int64) (0:Int64) (k := F.q) (b := b) (by omega) b1 (by rw [VN_00, Nat.zero_div])
  rw [VN_00, Nat.zero_add] at hs
  obtain ⟨ch, cl, W, e1, e2, e3⟩ := M.close_ kd ex w (f_M_set (nI F.q) (nI b) 0 0).1 (f_M_set (nI F.q) (nI b) 0 0).2 b hw hk hh hs
  unfold f_M_close
  dsimp only
  rw [M.wid, u_sub (F.q + 1) 1 (by omega) (1:Int32) rfl, show F.q + 1 - 1 = F.q from by omega, b2, b3]
  by_cases c : (4:Int32) ≤ f
  · rw [if_pos c] at e1 ⊢
    rw [e1]
    exact ⟨_, _, _, rfl, e2, e3⟩
  · rw [if_neg c] at e1 ⊢
    rw [e1]
    exact ⟨_, _, _, rfl, e2, e3⟩
theorem Mod.pack {F : FS} {f : Int32} {sp md : Nat → Int32} (M : Mod F f sp md) (kd ex : Int32) (ng : Bool) (hi lo lh0 ll0 : Int64) {w : Nat → Int64} (hw : Wok w 0) (hk : okD kd (WN w 0)) : ∃ hi' lo' lh ll W, f_M_pack f kd (bI ng) ex hi lo lh0 ll0 w md = (F.h kd ex (WN w 0), 0, hi', lo', lh, ll, W) ∧ Wok W 0 ∧ WN W 0 = WN w 0 ∧ (F.h kd ex (WN w 0) = true → VN hi' lo' = top F.q ng + F.w kd ex (WN w 0)) ∧ (F.h kd ex (WN w 0) = false → hi' = hi ∧ lo' = lo) := by
  obtain ⟨b, W, e1, e2, e3, e4⟩ := M.fits_ kd ex w hw
  unfold f_M_pack
  rw [M.asks]
  dsimp only
  rw [if_neg (by decide), e1]
  dsimp only
  rw [e2]
  by_cases c : F.h kd ex (WN w 0) = true
  · rw [c, if_neg (by decide)]
    obtain ⟨ch, cl, W2, a1, a2, a3⟩ := M.cls kd ex ng e3 (by rw [e4]; exact hk) (by rw [e4]; exact c)
    obtain ⟨k1, k2⟩ := Wsame a3
    rw [a1]
    exact ⟨_, _, _, _, _, rfl, k2 e3, by rw [k1, e4], fun _ => by rw [a2, e4], fun q => absurd q (by decide)⟩
  · have c' : F.h kd ex (WN w 0) = false := by cases h : F.h kd ex (WN w 0) <;> simp_all
    rw [c', if_pos (by decide)]
    exact ⟨_, _, _, _, _, rfl, e3, e4, fun q => absurd q (by decide), fun _ => ⟨rfl, rfl⟩⟩
theorem Mod.ok_pack {F : FS} {f : Int32} {sp md : Nat → Int32} (M : Mod F f sp md) (kd ex : Int32) {w : Nat → Int64} (hw : Wok w 0) : ok_M_pack f kd ex w := by
  unfold ok_M_pack
  intro u e
  rw [M.asks] at e
  subst e
  refine ⟨fun _ => trivial, fun _ => ⟨M.okF, fun u3 e3 => ⟨fun _ => trivial, fun _ => ?_⟩⟩⟩
  obtain ⟨b, W, a1, a2, a3, a4⟩ := M.fits_ kd ex w hw
  rw [a1] at e3
  subst e3
  exact M.okC W a3
theorem Mod.canonical {F : FS} {f : Int32} {sp md : Nat → Int32} (M : Mod F f sp md) (x y lh0 ll0 : Int64) {w : Nat → Int64} (hw : Wok w 0) : ∃ lh ll W, f_M_canonical f x y lh0 ll0 w sp md = (cn F (VN x y % 2 ^ (F.q + 1)), 0, lh, ll, W) ∧ Wok W 0 ∧ WN W 0 = WN w 0 := by
  unfold cn
  have hm := maskV M.wid M.siz x y
  obtain ⟨kd, ex, lh, ll, W, e1, e2, e3, e4⟩ := M.opn (f_M_mask f x y).1 (f_M_mask f x y).2 w
  rw [hm, Nat.mod_mod] at e1 e2 e3
  have g1 := M.good.ok (VN x y % 2 ^ (F.q + 1))
  have g2 := M.good.has (VN x y % 2 ^ (F.q + 1))
  rw [← e3] at g1 g2
  dsimp only at g1 g2
  obtain ⟨ch, cl, W2, a1, a2, a3⟩ := M.cls kd ex (sg2 F.q (VN x y % 2 ^ (F.q + 1))) e4 g1 g2
  unfold f_M_canonical
  rw [M.asks]
  dsimp only
  rw [if_neg (by decide), e1]
  dsimp only
  rw [a1]
  dsimp only
  rw [← e3]
  dsimp only
  rw [← a2, ← hm]
  have hval : ∀ U : Nat → Int64, WN (vp_updL (vp_updL (vp_updL (vp_updL U 0 (w 0)) 1 (w 1)) 2 (w 2)) 3 (w 3)) 0 = WN w 0 := fun U => cp0_W U _ _ _ _
  have hok : ∀ U : Nat → Int64, Wok (vp_updL (vp_updL (vp_updL (vp_updL U 0 (w 0)) 1 (w 1)) 2 (w 2)) 3 (w 3)) 0 := fun U => cp0_O U _ _ _ _ hw
  by_cases c : VN ch cl = VN (f_M_mask f x y).1 (f_M_mask f x y).2
  · obtain ⟨i1, i2⟩ := VN_inj c
    rw [decide_eq_true c, if_pos ((lg0 _ _).mpr i1), if_pos ((lg0 _ _).mpr i2)]
    exact ⟨_, _, _, rfl, hok _, hval _⟩
  · rw [decide_eq_false c]
    by_cases c1 : lg_cmp ch (f_M_mask f x y).1 = (0:Int32)
    · rw [if_pos c1, if_neg (fun c2 => c (by rw [(lg0 _ _).mp c1, (lg0 _ _).mp c2]))]
      exact ⟨_, _, _, rfl, hok _, hval _⟩
    · rw [if_neg c1]
      exact ⟨_, _, _, rfl, hok _, hval _⟩
theorem Mod.ok_canonical {F : FS} {f : Int32} {sp md : Nat → Int32} (M : Mod F f sp md) (x y : Int64) {w : Nat → Int64} : ok_M_canonical f x y w sp := by
  unfold ok_M_canonical
  intro u e
  rw [M.asks] at e
  subst e
  refine ⟨fun _ => trivial, fun _ u3 e3 => ⟨M.okO _ _, fun u4 e4 => ?_⟩⟩
  obtain ⟨kd, ex, lh, ll, W, a1, a2, a3, a4⟩ := M.opn u3.1 u3.2 w
  rw [a1] at e4
  subst e4
  exact M.okC W a4


