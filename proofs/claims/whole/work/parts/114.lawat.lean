theorem start_N {s : State} {A : Array Value} (hts : ∀ w ∈ xtbl, w.before A s = true) : uN s := by
  intro w hw
  have h1 := hts w (List.mem_filter.mp hw).1
  have hk := (List.mem_filter.mp hw).2
  match w, hk, h1 with
  | .fieldLinkNest a i b n d hh, _, h1 => exact va_Nw.of rfl h1
  | .methodLinkNest a i x hh, _, h1 => exact va_Nw.of rfl h1
  | .declares x, _, h1 => exact va_Nw.of rfl h1
  | .arrayOver (.object C), _, h1 => exact va_AO.of h1
  | .castable a b, _, h1 => exact va_Nw.of rfl h1
theorem zW_in : ∀ w ∈ zW, w ∈ lw_tbl ∨ w ∈ flatC (Jvm.Cond.and given_1 narrow_1) := by decide +kernel
theorem start_Z {s : State} {b : Nat} (hts : ∀ w ∈ lw_tbl, w.before #[Value.ref b] s = true) (hgv : (Jvm.Cond.and given_1 narrow_1).before #[Value.ref b] s = true) : uZ s := by
  have hg := flat_of_before _ hgv
  refine ⟨z_move (State.WarmedH.refl s) (fun _ _ hy _ => hy) (show ∀ w ∈ zW, w.before #[Value.ref b] s = true from fun w hw => (zW_in w hw).elim (hts w) (hg w)), ?_⟩
  obtain ⟨q, hq⟩ : ∃ q, (Term.string "PatternBook" 104).eval #[Value.ref b] s none [] s = some (.ref q) := by
    obtain ⟨q, c, cell, k, h1, h2⟩ := Cond.exactly_spec (hg (.exactly (.string "PatternBook" 104) "java/lang/String") (by decide +kernel))
    exact ⟨q, h1⟩
  exact ⟨q, vk_R.of (hts (.stringRef "PatternBook" 104 "no such format") (by decide +kernel)) hq⟩
def lw_At (p : Program) (s : State) (m : MethodId) (meth : Method) (c : Code) (b L : Nat) (xs : Nat → Int32) : Prop :=
  p.tables.exec = Jvm.exec ∧ c.code = code ∧ meth.sig.returnType = ret ∧ c.maxLocals = 7 ∧ s.vm.findClass R_law = some m.cls ∧ (∀ w ∈ lw_tbl, w.before #[Value.ref b] s = true) ∧ va_X b L xs s s.heap ∧ b < s.heap.size ∧ meth.locks = false ∧ (Jvm.Cond.and given_1 narrow_1).before #[Value.ref b] s = true
theorem start_C {p : Program} {s : State} {m : MethodId} {meth : Method} {c : Code} {l : Launch} {b L : Nat} {xs : Nat → Int32} (hlT : l.stackTraces = false) (hL : L ≤ 4096) (C0 : lw_At p s m meth c b L xs) : LawAt p l s m meth c b L xs := by
  obtain ⟨hx, hb, hr, hml, hown, hts, hX, hbl, hlocks, hgv⟩ := C0
  have hxt := xtbl_ok hts
  exact ⟨hx, hb, hr, hml, hown, fun w h => hxt w (List.mem_filter.mp h).1, start_N hxt, start_Z hts hgv, hX, hbl, hlocks, hL, hlT⟩
theorem start_D {s : State} {args : Array Value} (hts : ∀ w ∈ wt, w.before args s = true) : ∃ D : va_G, va_K D classes [] s := by
  obtain ⟨c0, iS0, hKn0⟩ := u_known (C := R_PatternBook_Wide) (T := F_PatternBook_Wide) (N := 2) (n := 2) hts i_PatternBook_Wide (hts _ k_29)
  obtain ⟨c1, iS1, hKn1⟩ := u_known (C := R_PatternBook_Datum) (T := F_PatternBook_Datum) (N := 4) (n := 4) hts i_PatternBook_Datum (hts _ k_465)
  obtain ⟨c2, iS2, hKn2⟩ := u_known (C := R_PatternBook_Binary) (T := F_PatternBook_Binary) (N := 7) (n := 7) hts i_PatternBook_Binary (hts _ k_450)
  obtain ⟨c3, iS3, hKn3⟩ := u_known (C := R_PatternBook_PlainDecimal) (T := F_PatternBook_PlainDecimal) (N := 9) (n := 9) hts i_PatternBook_PlainDecimal (hts _ k_455)
  obtain ⟨c4, iS4, hKn4⟩ := u_known (C := R_PatternBook_DecletDecimal) (T := F_PatternBook_DecletDecimal) (N := 11) (n := 11) hts i_PatternBook_DecletDecimal (hts _ k_460)
  obtain ⟨c5, iS5, hKn5⟩ := u_known (C := R_PatternBook) (T := F_PatternBook) (N := 6) (n := 6) hts i_PatternBook (hts _ k_570)
  obtain ⟨c6, iS6, hKn6⟩ := u_known (C := R_PatternBookModel) (T := F_PatternBookModel) (N := 11) (n := 11) hts i_PatternBookModel (hts _ k_575)
  refine ⟨(fun k => if k = 0 then c0 else if k = 1 then c1 else if k = 2 then c2 else if k = 3 then c3 else if k = 4 then c4 else if k = 5 then c5 else c6, fun k => if k = 0 then iS0 else if k = 1 then iS1 else if k = 2 then iS2 else if k = 3 then iS3 else if k = 4 then iS4 else if k = 5 then iS5 else iS6), ?_, fun k q h => by simp at h⟩
  intro k q hq
  match k, hq with
  | 0, hq => cases hq; exact hKn0
  | 1, hq => cases hq; exact hKn1
  | 2, hq => cases hq; exact hKn2
  | 3, hq => cases hq; exact hKn3
  | 4, hq => cases hq; exact hKn4
  | 5, hq => cases hq; exact hKn5
  | 6, hq => cases hq; exact hKn6
  | k + 7, hq => simp [classes] at hq

