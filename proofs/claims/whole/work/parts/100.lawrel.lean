def RelL (σ : SB) (μ : SM) : Prop := (σ.kd = μ.kd) ∧ (σ.ex = μ.ex) ∧ Rel σ.kd σ.ng σ.ex σ.bh σ.bl μ.sg μ.w ∧ (σ.mkh = μ.hi) ∧ (σ.mkl = μ.lo) ∧ (∀ d, d < 1024 → μ.sp d = f_E_read (nI d)) ∧ (∀ m, m < 1000 → μ.md m = f_E_write (nI m))
theorem unpack_no {f : Int32} (h : f < 0 ∨ (10:Int32) ≤ f) (x y : Int64) (kd sg ex : Int32) (lh ll : Int64) (w : Nat → Int64) (sp : Nat → Int32) : ∃ z, f_M_unpack f x y kd sg ex lh ll w sp = (z, 1, kd, sg, ex, lh, ll, w) := by
  unfold f_M_unpack
  rw [asks_no h]
  dsimp only
  rw [if_pos (by decide)]
  exact ⟨_, rfl⟩
theorem ok_unpack_no {f : Int32} (h : f < 0 ∨ (10:Int32) ≤ f) (x y : Int64) : ok_M_unpack f x y := by
  unfold ok_M_unpack
  intro u e
  rw [asks_no h] at e
  subst e
  exact ⟨fun _ => trivial, fun q => (q rfl).elim⟩
theorem canonical_no {f : Int32} (h : f < 0 ∨ (10:Int32) ≤ f) (x y lh ll : Int64) (w : Nat → Int64) (sp md : Nat → Int32) : ∃ z, f_M_canonical f x y lh ll w sp md = (z, 1, lh, ll, w) := by
  unfold f_M_canonical
  rw [asks_no h]
  dsimp only
  rw [if_pos (by decide)]
  exact ⟨_, rfl⟩
theorem ok_canonical_no {f : Int32} (h : f < 0 ∨ (10:Int32) ≤ f) (x y : Int64) (w : Nat → Int64) (sp : Nat → Int32) : ok_M_canonical f x y w sp := by
  unfold ok_M_canonical
  intro u e
  rw [asks_no h] at e
  subst e
  exact ⟨fun _ => trivial, fun q => (q rfl).elim⟩
theorem pack_no {f : Int32} (h : f < 0 ∨ (10:Int32) ≤ f) (kd sg ex : Int32) (hi lo lh ll : Int64) (w : Nat → Int64) (md : Nat → Int32) : ∃ z, f_M_pack f kd sg ex hi lo lh ll w md = (z, 1, hi, lo, lh, ll, w) := by
  unfold f_M_pack
  rw [asks_no h]
  dsimp only
  rw [if_pos (by decide)]
  exact ⟨_, rfl⟩
theorem ok_pack_no {f : Int32} (h : f < 0 ∨ (10:Int32) ≤ f) (kd ex : Int32) (w : Nat → Int64) : ok_M_pack f kd ex w := by
  unfold ok_M_pack
  intro u e
  rw [asks_no h] at e
  subst e
  exact ⟨fun _ => trivial, fun q => (q rfl).elim⟩

