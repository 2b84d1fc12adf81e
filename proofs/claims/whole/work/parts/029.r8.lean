/-! the class and the reference side by side -/
def Rel (kd : Int32) (ng : Bool) (ex : Int32) (bh bl : Int64) (sg : Int32) (w : Nat → Int64) : Prop := (sg = bI ng) ∧ (Wok w 0) ∧ (WN w 0 = VN bh bl) ∧ (okD kd (VN bh bl))
theorem Rel.sg {kd : Int32} {ng : Bool} {ex : Int32} {bh bl : Int64} {sg : Int32} {w : Nat → Int64} (R : Rel kd ng ex bh bl sg w) : sg = bI ng := R.1
theorem Rel.ok {kd : Int32} {ng : Bool} {ex : Int32} {bh bl : Int64} {sg : Int32} {w : Nat → Int64} (R : Rel kd ng ex bh bl sg w) : Wok w 0 := R.2.1
theorem Rel.eq {kd : Int32} {ng : Bool} {ex : Int32} {bh bl : Int64} {sg : Int32} {w : Nat → Int64} (R : Rel kd ng ex bh bl sg w) : WN w 0 = VN bh bl := R.2.2.1
theorem Rel.od {kd : Int32} {ng : Bool} {ex : Int32} {bh bl : Int64} {sg : Int32} {w : Nat → Int64} (R : Rel kd ng ex bh bl sg w) : okD kd (VN bh bl) := R.2.2.2
theorem Rel.init : Rel 0 false 0 0 0 0 (fun _ => 0) := by
  refine ⟨rfl, ?_, ?_, Or.inl rfl, fun q => absurd q (by decide)⟩
  · have : uW (0:Int64) < 2 ^ 32 := by rw [uW_0]; decide
    exact ⟨this, this, this, this⟩
  · rw [VN_00]
    unfold WN
    dsimp only
    rw [uW_0]
theorem put_W (t v : Int64) (w : Nat → Int64) : WN (vp_updL (vp_updL (f_M_be0 t w) 2 (v &&& (4294967295:Int64))) 3 (lushr_ v (32:Int32))) 0 = VN v t ∧ Wok (vp_updL (vp_updL (f_M_be0 t w) 2 (v &&& (4294967295:Int64))) 3 (lushr_ v (32:Int32))) 0 := by
  have h1 := uW_low t
  have h2 := uW_hi t
  have h3 := uW_low v
  have h4 := uW_hi v
  have l1 := uW_lt t
  have l2 := uW_lt v
  constructor
  · show uW (t &&& (4294967295:Int64)) + uW (lushr_ t (32:Int32)) * 2 ^ 32 + uW (v &&& (4294967295:Int64)) * 2 ^ 64 + uW (lushr_ v (32:Int32)) * 2 ^ 96 = _
    unfold VN
    rw [h1, h2, h3, h4]
    omega
  · show uW (t &&& (4294967295:Int64)) < 2 ^ 32 ∧ uW (lushr_ t (32:Int32)) < 2 ^ 32 ∧ uW (v &&& (4294967295:Int64)) < 2 ^ 32 ∧ uW (lushr_ v (32:Int32)) < 2 ^ 32
    rw [h1, h2, h3, h4]
    omega
theorem put_0 (w : Nat → Int64) : WN (vp_updL (vp_updL (f_M_be0 (0:Int64) w) 2 (0:Int64)) 3 (0:Int64)) 0 = 0 ∧ Wok (vp_updL (vp_updL (f_M_be0 (0:Int64) w) 2 (0:Int64)) 3 (0:Int64)) 0 := by
  have h1 := uW_low (0:Int64)
  have h2 := uW_hi (0:Int64)
  rw [uW_0] at h1 h2
  constructor
  · show uW ((0:Int64) &&& (4294967295:Int64)) + uW (lushr_ (0:Int64) (32:Int32)) * 2 ^ 32 + uW (0:Int64) * 2 ^ 64 + uW (0:Int64) * 2 ^ 96 = _
    rw [h1, h2, uW_0]
  · show uW ((0:Int64) &&& (4294967295:Int64)) < 2 ^ 32 ∧ uW (lushr_ (0:Int64) (32:Int32)) < 2 ^ 32 ∧ uW (0:Int64) < 2 ^ 32 ∧ uW (0:Int64) < 2 ^ 32
    rw [h1, h2, uW_0]
    decide
theorem put_eq {kd : Int32} {ng : Bool} {ex : Int32} {bh bl : Int64} {sg : Int32} {w : Nat → Int64} (R : Rel kd ng ex bh bl sg w) (x : Int32) (y : Bool) (z : Int32) (v t : Int64) :
    ∃ b kd' ng' ex' bh' bl' sg' w', f_K_put x y z v t kd ng ex bh bl = (b, kd', ng', ex', bh', bl') ∧ f_M_put x y z v t kd sg ex w = (b, 0, kd', sg', ex', w') ∧ Rel kd' ng' ex' bh' bl' sg' w' := by
  by_cases c1 : x < 0
  · refine ⟨false, kd, ng, ex, bh, bl, sg, w, ?_, ?_, R⟩
    · unfold f_K_put; rw [if_pos c1]
    · unfold f_M_put; rw [if_pos c1]
  · by_cases c2 : x ≤ 3
    · obtain ⟨j, hj, e⟩ := nI_of2 (M := 3) (n := 3) (by decide +kernel) c1 c2
      obtain ⟨p1, p2⟩ := put_W t v w
      obtain ⟨q1, q2⟩ := put_0 w
      have hy : bI y = if y = true then 1 else 0 := by cases y <;> rfl
      match j, hj, e with
      | 0, _, e =>
        rw [e]
        exact ⟨true, 0, y, z, v, t, bI y, _, rfl, by cases y <;> rfl, rfl, p2, p1, Or.inl rfl, fun q => absurd q (by decide)⟩
      | 1, _, e =>
        rw [e]
        exact ⟨true, 1, y, 0, 0, 0, bI y, _, rfl, by cases y <;> rfl, rfl, q2, by rw [q1, VN_00], Or.inr (Or.inl rfl), fun _ => VN_00⟩
      | 2, _, e =>
        rw [e]
        exact ⟨true, 2, y, 0, v, t, bI y, _, rfl, by cases y <;> rfl, rfl, p2, p1, Or.inr (Or.inr (Or.inl rfl)), fun q => absurd q (by decide)⟩
      | 3, _, e =>
        rw [e]
        exact ⟨true, 3, y, 0, v, t, bI y, _, rfl, by cases y <;> rfl, rfl, p2, p1, Or.inr (Or.inr (Or.inr rfl)), fun q => absurd q (by decide)⟩
    · refine ⟨false, kd, ng, ex, bh, bl, sg, w, ?_, ?_, R⟩
      · unfold f_K_put; rw [if_neg c1, if_neg c2]
      · unfold f_M_put; rw [if_neg c1, if_neg c2]
theorem pattern_eq (x : Bool) (h l : Int64) : f_M_pattern x h l = (f_K_pattern x h l, 0) := by cases x <;> rfl
theorem look_eq (x kd : Int32) (ng : Bool) (ex : Int32) : f_M_look x kd (bI ng) ex = (f_K_look x kd ng ex, 0) := by
  unfold f_M_look f_K_look
  split
  · rfl
  · split
    · cases ng <;> rfl
    · split <;> rfl
theorem part_eq {w : Nat → Int64} {bh bl : Int64} (ho : Wok w 0) (he : WN w 0 = VN bh bl) (x : Bool) : f_M_part x w = (f_K_part x bh bl, 0) := by
  obtain ⟨a0, a1, a2, a3⟩ := ho
  simp only [Nat.zero_add] at a0 a1 a2 a3
  have h1 := uW_cat32 (x := w 1) (y := w 0) a0
  have h3 := uW_cat32 (x := w 3) (y := w 2) a2
  rw [Nat.mod_eq_of_lt a1] at h1
  rw [Nat.mod_eq_of_lt a3] at h3
  have l1 := uW_lt bl
  have l2 := uW_lt bh
  unfold WN VN at he
  simp only [Nat.zero_add] at he
  have e1 : (lshl_ (w 1) (32:Int32)) ||| (w 0) = bl := uW_inj (by rw [h1]; omega)
  have e3 : (lshl_ (w 3) (32:Int32)) ||| (w 2) = bh := uW_inj (by rw [h3]; omega)
  unfold f_M_part
  rw [e1, e3]
  cases x <;> rfl
theorem nI_cl {x : Int32} (h : ¬ x < 0) : x = nI x.toNatClampNeg := by
  obtain ⟨j, hj, e⟩ := nI_of h
  rw [e, nI_clamp hj]
theorem digits_eq {sp : Nat → Int32} (hsp : ∀ d, d < 1024 → sp d = f_E_read (nI d)) (x : Int32) : f_M_digits x sp = (f_K_digits x, 0) ∧ ok_M_digits x := by
  unfold f_M_digits f_K_digits ok_M_digits
  by_cases c1 : x < 0
  · rw [if_pos c1, if_pos c1]; exact ⟨rfl, fun _ => trivial, fun q => absurd c1 q⟩
  · rw [if_neg c1, if_neg c1]
    by_cases c2 : x ≤ 1023
    · obtain ⟨j, hj, e⟩ := nI_of2 (M := 1023) (n := 1023) (by decide +kernel) c1 c2
      rw [if_pos c2, if_pos c2, e, nI_clamp (by omega), hsp j (by omega)]
      exact ⟨rfl, fun _ => trivial, fun _ => ⟨fun _ => nI_in (by omega) (by decide), fun _ => trivial⟩⟩
    · rw [if_neg c2, if_neg c2]
      exact ⟨rfl, fun q => absurd q c1, fun _ => ⟨fun q => absurd q c2, fun _ => trivial⟩⟩
theorem declet_eq {md : Nat → Int32} (hmd : ∀ m, m < 1000 → md m = f_E_write (nI m)) (x : Int32) : f_M_declet x md = (f_K_declet x, 0) ∧ ok_M_declet x := by
  unfold f_M_declet f_K_declet ok_M_declet
  by_cases c1 : x < 0
  · rw [if_pos c1, if_pos c1]; exact ⟨rfl, fun _ => trivial, fun q => absurd c1 q⟩
  · rw [if_neg c1, if_neg c1]
    by_cases c2 : x ≤ 999
    · obtain ⟨j, hj, e⟩ := nI_of2 (M := 999) (n := 999) (by decide +kernel) c1 c2
      rw [if_pos c2, if_pos c2, e, nI_clamp (by omega), hmd j (by omega)]
      exact ⟨rfl, fun _ => trivial, fun _ => ⟨fun _ => nI_in (by omega) (by decide), fun _ => trivial⟩⟩
    · rw [if_neg c2, if_neg c2]
      exact ⟨rfl, fun q => absurd q c1, fun _ => ⟨fun q => absurd q c2, fun _ => trivial⟩⟩
/-- a format that there isn't -/
theorem asks_no {x : Int32} (h : x < 0 ∨ (10:Int32) ≤ x) : f_M_asks x = (false, 1) := by
  unfold f_M_asks f_M_isFormat
  by_cases c : x < 0
  · rw [if_pos c]; rfl
  · rw [if_neg c, if_pos (h.resolve_left c)]; rfl
theorem fmt_cases (x : Int32) : (x < 0 ∨ (10:Int32) ≤ x) ∨ ∃ k, k < 10 ∧ x = nI k := by
  by_cases c1 : x < 0
  · exact Or.inl (Or.inl c1)
  · by_cases c2 : (10:Int32) ≤ x
    · exact Or.inl (Or.inr c2)
    · obtain ⟨j, hj, e⟩ := nI_of c1
      refine Or.inr ⟨j, ?_, e⟩
      rw [e] at c2
      have : ¬ 10 ≤ j := fun q => c2 ((lit_le (10:Int32) 10 rfl (by decide) hj).mpr q)
      omega

