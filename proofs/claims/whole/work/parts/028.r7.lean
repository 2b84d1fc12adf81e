/-! the constructors: the formats' fields; the reference's tables -/
theorem b16 : f_C_B_init 16 11 15 = (nI (10 + 5 + 1), nI (10 + 1), -24, nI (2 ^ 5 - 3) + (-24), nI 10, nI 5, 31) := by decide +kernel
theorem b32 : f_C_B_init 32 24 127 = (nI (23 + 8 + 1), nI (23 + 1), -149, nI (2 ^ 8 - 3) + (-149), nI 23, nI 8, 255) := by decide +kernel
theorem b64 : f_C_B_init 64 53 1023 = (nI (52 + 11 + 1), nI (52 + 1), -1074, nI (2 ^ 11 - 3) + (-1074), nI 52, nI 11, 2047) := by decide +kernel
theorem b128 : f_C_B_init 128 113 16383 = (nI (112 + 15 + 1), nI (112 + 1), -16494, nI (2 ^ 15 - 3) + (-16494), nI 112, nI 15, 32767) := by decide +kernel
theorem p32 : f_C_P_init 32 7 96 = (nI (20 + 11 + 1), 7, -101, nI (3 * 2 ^ (11 - 5) - 1) + (-101), nI 2, nI 20, nI 11, 0, 9999999, 0, 999999) := Prod.ext (by decide +kernel) (Prod.ext (by decide +kernel) (Prod.ext (by decide +kernel) (Prod.ext (by decide +kernel) (Prod.ext (by decide +kernel) (Prod.ext (by decide +kernel) (Prod.ext (by decide +kernel) (Prod.ext (by decide +kernel) (Prod.ext (by decide +kernel) (Prod.ext (by decide +kernel) (by decide +kernel))))))))))
theorem p64 : f_C_P_init 64 16 384 = (nI (50 + 13 + 1), 16, -398, nI (3 * 2 ^ (13 - 5) - 1) + (-398), nI 5, nI 50, nI 13, 0, 9999999999999999, 0, 999999999999999) := Prod.ext (by decide +kernel) (Prod.ext (by decide +kernel) (Prod.ext (by decide +kernel) (Prod.ext (by decide +kernel) (Prod.ext (by decide +kernel) (Prod.ext (by decide +kernel) (Prod.ext (by decide +kernel) (Prod.ext (by decide +kernel) (Prod.ext (by decide +kernel) (Prod.ext (by decide +kernel) (by decide +kernel))))))))))
theorem p128 : f_C_P_init 128 34 6144 = (nI (110 + 17 + 1), 34, -6176, nI (3 * 2 ^ (17 - 5) - 1) + (-6176), nI 11, nI 110, nI 17, 542101086242752, 4003012203950112767, 54210108624275, 4089650035136921599) := Prod.ext (by decide +kernel) (Prod.ext (by decide +kernel) (Prod.ext (by decide +kernel) (Prod.ext (by decide +kernel) (Prod.ext (by decide +kernel) (Prod.ext (by decide +kernel) (Prod.ext (by decide +kernel) (Prod.ext (by decide +kernel) (Prod.ext (by decide +kernel) (Prod.ext (by decide +kernel) (by decide +kernel))))))))))
theorem t32 : f_C_T_init 32 7 96 = (nI (10 * 2 + 11 + 1), 7, -101, nI (3 * 2 ^ (11 - 5) - 1) + (-101), nI 2, nI (10 * 2), nI 11, nI (11 - 5), 0, 9999999, 0, 999999, 0, 0) := by
  unfold f_C_T_init
  rw [show f_C_T_decimal 32 7 96 = f_C_P_init 32 7 96 from rfl, p32]
  rfl
theorem t64 : f_C_T_init 64 16 384 = (nI (10 * 5 + 13 + 1), 16, -398, nI (3 * 2 ^ (13 - 5) - 1) + (-398), nI 5, nI (10 * 5), nI 13, nI (13 - 5), 0, 9999999999999999, 0, 999999999999999, 0, 0) := by
  unfold f_C_T_init
  rw [show f_C_T_decimal 64 16 384 = f_C_P_init 64 16 384 from rfl, p64]
  rfl
theorem t128 : f_C_T_init 128 34 6144 = (nI (10 * 11 + 17 + 1), 34, -6176, nI (3 * 2 ^ (17 - 5) - 1) + (-6176), nI 11, nI (10 * 11), nI 17, nI (17 - 5), 542101086242752, 4003012203950112767, 54210108624275, 4089650035136921599, 0, 0) := by
  unfold f_C_T_init
  rw [show f_C_T_decimal 128 34 6144 = f_C_P_init 128 34 6144 from rfl, p128]
  rfl
def ninesB : Nat → Int32 → Int32 → Bool
  | 0, _, _ => false
  | n + 1, x, y => decide (x ≤ y) || ninesB n x (y + 1)
theorem nines_ok : ∀ n x y, ninesB n x y = true → lk_C_nines n x y
  | 0, x, y, h => by cases h
  | n + 1, x, y, h => by
    unfold ninesB at h
    unfold lk_C_nines
    refine ⟨fun _ => trivial, fun c => nines_ok n x _ ?_⟩
    rw [decide_eq_false c, Bool.false_or] at h
    exact h
theorem ok_Kinit : ok_C_K_init :=
  ⟨⟨nines_ok _ _ _ (by decide +kernel), nines_ok _ _ _ (by decide +kernel)⟩, ⟨nines_ok _ _ _ (by decide +kernel), nines_ok _ _ _ (by decide +kernel)⟩, ⟨nines_ok _ _ _ (by decide +kernel), nines_ok _ _ _ (by decide +kernel)⟩,
   ⟨nines_ok _ _ _ (by decide +kernel), nines_ok _ _ _ (by decide +kernel)⟩, ⟨nines_ok _ _ _ (by decide +kernel), nines_ok _ _ _ (by decide +kernel)⟩, ⟨nines_ok _ _ _ (by decide +kernel), nines_ok _ _ _ (by decide +kernel)⟩⟩
/-! the tables -/
theorem spell_eq : ∀ d, d < 1024 → f_C_M_spell (nI d) = nI (rd d) := by decide +kernel
theorem rd_wr : ∀ m, m < 1000 → rd (wr m) = m := by decide +kernel
theorem wr_rd : ∀ d, d < 1024 → wr (rd d) ≤ d := by decide +kernel
theorem upd_eq (f : Nat → Int32) (k : Nat) (x : Int32) (j : Nat) : upd f k x j = if j = k then x else f j := rfl
theorem m1_nI {m : Nat} (h : m < 2 ^ 31) : nI m ≠ (-1:Int32) := by
  intro e
  have := congrArg Int32.toInt e
  rw [nI_toInt h, show (-1:Int32).toInt = -1 from by decide +kernel] at this
  omega
/-- behind the first d declets -/
def Tab (D : Nat) (sp md : Nat → Int32) : Prop := (∀ j, j < D → sp j = nI (rd j)) ∧ ∀ m, m < 1000 → md m = if wr m < D then nI (wr m) else -1
theorem init2 (w : Nat → Int64) : ∀ (fuel D : Nat) (sp md : Nat → Int32), D ≤ 1024 → 1024 - D < fuel → Tab D sp md → ∃ sp' md', lf_C_M_init2 fuel (nI D) w sp md = (w, sp', md') ∧ Tab 1024 sp' md' := by
  intro fuel
  induction fuel with
  | zero => intro D _ _ _ h; omega
  | succ f ih =>
    intro D sp md hD hf hT
    unfold lf_C_M_init2
    by_cases c : D = 1024
    · subst c
      rw [if_pos ((lit_le (1024:Int32) 1024 rfl (by decide) (by decide)).mpr (Nat.le_refl _))]
      exact ⟨sp, md, rfl, hT⟩
    · have hlt : D < 1024 := by omega
      rw [if_neg (fun q => absurd ((lit_le (1024:Int32) 1024 rfl (by decide) (by omega)).mp q) (by omega))]
      have hr := (rd_eq D hlt).2
      dsimp only
      rw [spell_eq D hlt, nI_clamp (show D < 2 ^ 31 by omega), nI_1, upd_eq, if_pos rfl, nI_clamp (show rd D < 2 ^ 31 by omega), hT.2 (rd D) hr]
      have hle := wr_rd D hlt
      have hsp : ∀ j, j < D + 1 → upd sp D (nI (rd D)) j = nI (rd j) := by
        intro j hj
        rw [upd_eq]
        by_cases q : j = D
        · rw [if_pos q, q]
        · rw [if_neg q]; exact hT.1 j (by omega)
      by_cases c1 : wr (rd D) < D
      · rw [if_pos c1, if_neg (m1_nI (by omega))]
        refine ih (D + 1) _ _ (by omega) (by omega) ⟨hsp, fun m hm => ?_⟩
        rw [hT.2 m hm]
        by_cases c2 : wr m < D
        · rw [if_pos c2, if_pos (by omega)]
        · have c3 : wr m ≠ D := by
            intro e
            have := rd_wr m hm
            rw [e] at this
            rw [this] at c1
            omega
          rw [if_neg c2, if_neg (by omega)]
      · have he : wr (rd D) = D := by omega
        rw [if_neg c1, if_pos rfl]
        refine ih (D + 1) _ _ (by omega) (by omega) ⟨hsp, fun m hm => ?_⟩
        rw [upd_eq]
        by_cases c2 : m = rd D
        · rw [if_pos c2, c2, he, if_pos (by omega)]
        · rw [if_neg c2, hT.2 m hm]
          have c3 : wr m ≠ D := by
            intro e
            have := rd_wr m hm
            rw [e] at this
            exact c2 this.symm
          by_cases c4 : wr m < D
          · rw [if_pos c4, if_pos (by omega)]
          · rw [if_neg c4, if_neg (by omega)]
theorem init1 (w : Nat → Int64) (sp : Nat → Int32) : ∀ (fuel n : Nat) (md : Nat → Int32), n ≤ 1000 → 1000 - n < fuel → (∀ m, m < n → md m = -1) → ∃ sp' md', lf_C_M_init1 fuel (nI n) w sp md = (w, sp', md') ∧ Tab 1024 sp' md' := by
  intro fuel
  induction fuel with
  | zero => intro n _ _ h; omega
  | succ f ih =>
    intro n md hn hf hT
    unfold lf_C_M_init1
    by_cases c : n = 1000
    · subst c
      rw [if_pos ((lit_le (1000:Int32) 1000 rfl (by decide) (by decide)).mpr (Nat.le_refl _))]
      exact init2 w 1025 0 sp md (by omega) (by omega) ⟨fun j hj => absurd hj (by omega), fun m hm => by rw [hT m hm, if_neg (by omega)]⟩
    · rw [if_neg (fun q => absurd ((lit_le (1000:Int32) 1000 rfl (by decide) (by omega)).mp q) (by omega)), nI_1, nI_clamp (by omega)]
      refine ih (n + 1) _ (by omega) (by omega) (fun m hm => ?_)
      rw [upd_eq]
      by_cases q : m = n
      · rw [if_pos q]
      · rw [if_neg q]; exact hT m (by omega)
theorem Minit : ∃ sp md, f_C_M_init = (fun _ => 0, sp, md) ∧ (∀ d, d < 1024 → sp d = f_E_read (nI d)) ∧ ∀ m, m < 1000 → md m = f_E_write (nI m) := by
  obtain ⟨sp, md, e, h1, h2⟩ := init1 (fun _ => 0) (fun _ => 0) 1001 0 (fun _ => 0) (by omega) (by omega) (fun m hm => absurd hm (by omega))
  refine ⟨sp, md, e, fun d hd => by rw [h1 d hd, (rd_eq d hd).1], fun m hm => by rw [h2 m hm, (wr_eq m hm).1, if_pos (wr_eq m hm).2]⟩
theorem lk_init2 : ∀ (fuel D : Nat) (sp : Nat → Int32), D ≤ 1024 → 1024 - D < fuel → lk_C_M_init2 fuel (nI D) sp
  | 0, D, _, _, h => by omega
  | f + 1, D, sp, hD, hf => by
    unfold lk_C_M_init2
    refine ⟨fun _ => trivial, fun c u e => ?_⟩
    have hlt : D < 1024 := by
      have : ¬ 1024 ≤ D := fun q => c ((lit_le (1024:Int32) 1024 rfl (by decide) (by omega)).mpr q)
      omega
    rw [spell_eq D hlt] at e
    have hv : vp_in (nI D) 1024 := nI_in hlt (by decide)
    have hr := (rd_eq D hlt).2
    have hw : vp_in (upd sp (nI D).toNatClampNeg u (nI D).toNatClampNeg) 1000 := by
      rw [upd_eq, if_pos rfl, e]; exact nI_in hr (by decide)
    rw [nI_1]
    have ih := lk_init2 f (D + 1) (upd sp (nI D).toNatClampNeg u) (by omega) (by omega)
    exact ⟨hv, hv, hw, ⟨hv, hw, ih⟩, ih⟩
theorem lk_init1 (sp : Nat → Int32) : ∀ (fuel n : Nat), n ≤ 1000 → 1000 - n < fuel → lk_C_M_init1 fuel (nI n) sp
  | 0, n, _, h => by omega
  | f + 1, n, hn, hf => by
    unfold lk_C_M_init1
    refine ⟨fun _ => lk_init2 1025 0 sp (by omega) (by omega), fun c => ?_⟩
    have hlt : n < 1000 := by
      have : ¬ 1000 ≤ n := fun q => c ((lit_le (1000:Int32) 1000 rfl (by decide) (by omega)).mpr q)
      omega
    rw [nI_1]
    exact ⟨nI_in hlt (by decide), lk_init1 sp f (n + 1) (by omega) (by omega)⟩
theorem ok_Minit : ok_C_M_init := lk_init1 _ 1001 0 (by omega) (by omega)

