/-- behind unpack, where the format is one of the ten -/
def PU (σ σ' : SB) (k : Nat) (x y : Int64) : Prop := (σ'.kd, σ'.ex, VN σ'.bh σ'.bl) = (FF k).r (VN x y % 2 ^ ((FF k).q + 1)) ∧ σ'.ng = sg2 (FF k).q (VN x y % 2 ^ ((FF k).q + 1)) ∧ σ'.ot 0 = Int32.toInt64 σ'.kd ∧ σ'.mkh = σ.mkh ∧ σ'.mkl = σ.mkl
def SameD (σ σ' : SB) : Prop := σ'.kd = σ.kd ∧ σ'.ng = σ.ng ∧ σ'.ex = σ.ex ∧ σ'.bh = σ.bh ∧ σ'.bl = σ.bl
def b2l (b : Bool) : Int64 := bif b then 1 else 0
def PC (σ σ' : SB) (k : Nat) (x y : Int64) : Prop := SameD σ σ' ∧ σ'.mkh = σ.mkh ∧ σ'.mkl = σ.mkl ∧ σ'.ot 0 = b2l (cn (FF k) (VN x y % 2 ^ ((FF k).q + 1)))
def PP (σ σ' : SB) (k : Nat) : Prop := SameD σ σ' ∧ σ'.ot 0 = b2l ((FF k).h σ.kd σ.ex (VN σ.bh σ.bl)) ∧ ((FF k).h σ.kd σ.ex (VN σ.bh σ.bl) = true → VN σ'.mkh σ'.mkl = top (FF k).q σ.ng + (FF k).w σ.kd σ.ex (VN σ.bh σ.bl)) ∧ ((FF k).h σ.kd σ.ex (VN σ.bh σ.bl) = false → σ'.mkh = σ.mkh ∧ σ'.mkl = σ.mkl)
theorem updL_at (f : Nat → Int64) (k : Nat) (x : Int64) : vp_updL f k x k = x := if_pos rfl

set_option maxHeartbeats 4000000 in
theorem hu_unpack {p : Program} {l : Launch} {e : Env} {s : State} {m : MethodId} {below : List Frame} {meth : Method} {c : Code} {b L : Nat} {xs : Nat → Int32} {D : va_G} {a : AD} {σ : SB} {μ : SM} (C : LawAt p l s m meth c b L xs) (hK : va_K D classes (TYL a) s) (ha : AOK a) {H : Heap} {locs : List Loc} {cells slots pc : Nat} {ls : Array Slot} (hl : ls.size = 7) (hI : Inv s D a σ μ H locs) (f : Int32) (x y : Int64) (hc : cells + 1 ≤ 601024) (hs : slots + 6 ≤ 7293034) (hdg : decode code pc = .ok (.invokestatic 29, 3))
    (kk : ∀ (σ' : SB) (r : Int32) (H : Heap) (locs : List Loc), Inv s D a σ' μ H locs → ((f < 0 ∨ (10:Int32) ≤ f) ∧ r = 1 ∧ σ' = σ) ∨ (∃ k, k < 10 ∧ f = nI k ∧ r = 0 ∧ PU σ σ' k x y) → W p l e room_1 s m #[Value.ref b] below meth c H locs (cells + 1) (slots + 6) (lw_Z below #[Value.ref b] s) (F0 m (pc + 3) ls [.int r])) : W p l e room_1 s m #[Value.ref b] below meth c H locs cells slots (lw_Z below #[Value.ref b] s) (F0 m pc ls [.ref a.oa, .long y, .long x, .int f, .ref a.bk]) := by
  rcases fmt_cases f with hbad | ⟨k, hk, e⟩
  · exact lo_T_unpack C hK hl hI f x y hbad hc hs hdg (fun H locs hI => kk σ 1 H locs hI (Or.inl ⟨hbad, rfl, rfl⟩))
  · subst e
    match k, hk with
    | 0, _ =>
      refine lo_L0_unpack C hK ha.g0 hl hI x y (by omega) (by omega) hdg (fun u H locs hu hI => ?_)
      obtain ⟨kd, ex, bh, bl, gh, gl, e1, e2⟩ := KB_unpack (t := 10) (s := 5) (L := -24) (fu := 31) (by decide) (by decide) (by decide) (by decide) (by decide +kernel) x y
      unfold f_L_B_unpack at hu
      rw [e1] at hu
      subst hu
      refine W.widen (k := cells + 1) (n := slots + 6) (by omega) (by omega) ?_
      exact kk _ 0 H locs hI (Or.inr ⟨0, by decide, rfl, rfl, e2, rfl, rfl, rfl, rfl⟩)
    | 1, _ =>
      refine lo_L1_unpack C hK ha.g1 hl hI x y (by omega) (by omega) hdg (fun u H locs hu hI => ?_)
      obtain ⟨kd, ex, bh, bl, gh, gl, e1, e2⟩ := KB_unpack (t := 23) (s := 8) (L := -149) (fu := 255) (by decide) (by decide) (by decide) (by decide) (by decide +kernel) x y
      unfold f_L_B_unpack at hu
      rw [e1] at hu
      subst hu
      refine W.widen (k := cells + 1) (n := slots + 6) (by omega) (by omega) ?_
      exact kk _ 0 H locs hI (Or.inr ⟨1, by decide, rfl, rfl, e2, rfl, rfl, rfl, rfl⟩)
    | 2, _ =>
      refine lo_L2_unpack C hK ha.g2 hl hI x y (by omega) (by omega) hdg (fun u H locs hu hI => ?_)
      obtain ⟨kd, ex, bh, bl, gh, gl, e1, e2⟩ := KB_unpack (t := 52) (s := 11) (L := -1074) (fu := 2047) (by decide) (by decide) (by decide) (by decide) (by decide +kernel) x y
      unfold f_L_B_unpack at hu
      rw [e1] at hu
      subst hu
      refine W.widen (k := cells + 1) (n := slots + 6) (by omega) (by omega) ?_
      exact kk _ 0 H locs hI (Or.inr ⟨2, by decide, rfl, rfl, e2, rfl, rfl, rfl, rfl⟩)
    | 3, _ =>
      refine lo_L3_unpack C hK ha.g3 hl hI x y (by omega) (by omega) hdg (fun u H locs hu hI => ?_)
      obtain ⟨kd, ex, bh, bl, gh, gl, e1, e2⟩ := KB_unpack (t := 112) (s := 15) (L := -16494) (fu := 32767) (by decide) (by decide) (by decide) (by decide) (by decide +kernel) x y
      unfold f_L_B_unpack at hu
      rw [e1] at hu
      subst hu
      refine W.widen (k := cells + 1) (n := slots + 6) (by omega) (by omega) ?_
      exact kk _ 0 H locs hI (Or.inr ⟨3, by decide, rfl, rfl, e2, rfl, rfl, rfl, rfl⟩)
    | 4, _ =>
      refine lo_L4_unpack C hK ha.g4 hl hI x y (by omega) (by omega) hdg (fun u H locs hu hI => ?_)
      obtain ⟨kd, ex, bh, bl, gh, gl, e1, e2⟩ := KP_unpack (t := 20) (g := 11) (p := 7) (L := -101) (mnh := 0) (mnl := 9999999) (mph := 0) (mpl := 999999) (by decide) (by decide) (by decide) (by decide +kernel) (by decide +kernel) x y σ.bh σ.bl
      unfold f_L_P_unpack at hu
      rw [e1] at hu
      subst hu
      refine W.widen (k := cells + 1) (n := slots + 6) (by omega) (by omega) ?_
      exact kk _ 0 H locs hI (Or.inr ⟨4, by decide, rfl, rfl, e2, rfl, rfl, rfl, rfl⟩)
    | 5, _ =>
      refine lo_L5_unpack C hK ha.g5 hl hI x y (by omega) (by omega) hdg (fun u H locs hu hI => ?_)
      obtain ⟨kd, ex, bh, bl, gh, gl, e1, e2⟩ := KP_unpack (t := 50) (g := 13) (p := 16) (L := -398) (mnh := 0) (mnl := 9999999999999999) (mph := 0) (mpl := 999999999999999) (by decide) (by decide) (by decide) (by decide +kernel) (by decide +kernel) x y σ.bh σ.bl
      unfold f_L_P_unpack at hu
      rw [e1] at hu
      subst hu
      refine W.widen (k := cells + 1) (n := slots + 6) (by omega) (by omega) ?_
      exact kk _ 0 H locs hI (Or.inr ⟨5, by decide, rfl, rfl, e2, rfl, rfl, rfl, rfl⟩)
    | 6, _ =>
      refine lo_L6_unpack C hK ha.g6 hl hI x y (by omega) (by omega) hdg (fun u H locs hu hI => ?_)
      obtain ⟨kd, ex, bh, bl, gh, gl, e1, e2⟩ := KP_unpack (t := 110) (g := 17) (p := 34) (L := -6176) (mnh := 542101086242752) (mnl := 4003012203950112767) (mph := 54210108624275) (mpl := 4089650035136921599) (by decide) (by decide) (by decide) (by decide +kernel) (by decide +kernel) x y σ.bh σ.bl
      unfold f_L_P_unpack at hu
      rw [e1] at hu
      subst hu
      refine W.widen (k := cells + 1) (n := slots + 6) (by omega) (by omega) ?_
      exact kk _ 0 H locs hI (Or.inr ⟨6, by decide, rfl, rfl, e2, rfl, rfl, rfl, rfl⟩)
    | 7, _ =>
      refine lo_L7_unpack C hK ha.g7 hl hI x y (ok_KT (n := 2) (by decide)).1 (by omega) (by omega) hdg (fun u H locs hu hI => ?_)
      obtain ⟨kd, ex, bh, bl, gh, gl, e1, e2⟩ := KT_unpack (n := 2) (g := 11) (L := -101) (by decide) (by decide) (by decide) (by decide) x y σ.bh σ.bl
      unfold f_L_T_unpack at hu
      rw [e1] at hu
      subst hu
      refine W.widen (k := cells + 1) (n := slots + 6) (by omega) (by omega) ?_
      exact kk _ 0 H locs hI (Or.inr ⟨7, by decide, rfl, rfl, e2, rfl, rfl, rfl, rfl⟩)
    | 8, _ =>
      refine lo_L8_unpack C hK ha.g8 hl hI x y (ok_KT (n := 5) (by decide)).1 (by omega) (by omega) hdg (fun u H locs hu hI => ?_)
      obtain ⟨kd, ex, bh, bl, gh, gl, e1, e2⟩ := KT_unpack (n := 5) (g := 13) (L := -398) (by decide) (by decide) (by decide) (by decide) x y σ.bh σ.bl
      unfold f_L_T_unpack at hu
      rw [e1] at hu
      subst hu
      refine W.widen (k := cells + 1) (n := slots + 6) (by omega) (by omega) ?_
      exact kk _ 0 H locs hI (Or.inr ⟨8, by decide, rfl, rfl, e2, rfl, rfl, rfl, rfl⟩)
    | 9, _ =>
      refine lo_L9_unpack C hK ha.g9 hl hI x y (ok_KT (n := 11) (by decide)).1 (by omega) (by omega) hdg (fun u H locs hu hI => ?_)
      obtain ⟨kd, ex, bh, bl, gh, gl, e1, e2⟩ := KT_unpack (n := 11) (g := 17) (L := -6176) (by decide) (by decide) (by decide) (by decide) x y σ.bh σ.bl
      unfold f_L_T_unpack at hu
      rw [e1] at hu
      subst hu
      refine W.widen (k := cells + 1) (n := slots + 6) (by omega) (by omega) ?_
      exact kk _ 0 H locs hI (Or.inr ⟨9, by decide, rfl, rfl, e2, rfl, rfl, rfl, rfl⟩)

set_option maxHeartbeats 4000000 in
theorem hu_canonical {p : Program} {l : Launch} {e : Env} {s : State} {m : MethodId} {below : List Frame} {meth : Method} {c : Code} {b L : Nat} {xs : Nat → Int32} {D : va_G} {a : AD} {σ : SB} {μ : SM} (C : LawAt p l s m meth c b L xs) (hK : va_K D classes (TYL a) s) (ha : AOK a) {H : Heap} {locs : List Loc} {cells slots pc : Nat} {ls : Array Slot} (hl : ls.size = 7) (hI : Inv s D a σ μ H locs) (f : Int32) (x y : Int64) (hc : cells + 1 ≤ 601024) (hs : slots + 6 ≤ 7293034) (hdg : decode code pc = .ok (.invokestatic 39, 3))
    (kk : ∀ (σ' : SB) (r : Int32) (H : Heap) (locs : List Loc), Inv s D a σ' μ H locs → ((f < 0 ∨ (10:Int32) ≤ f) ∧ r = 1 ∧ σ' = σ) ∨ (∃ k, k < 10 ∧ f = nI k ∧ r = 0 ∧ PC σ σ' k x y) → W p l e room_1 s m #[Value.ref b] below meth c H locs (cells + 1) (slots + 6) (lw_Z below #[Value.ref b] s) (F0 m (pc + 3) ls [.int r])) : W p l e room_1 s m #[Value.ref b] below meth c H locs cells slots (lw_Z below #[Value.ref b] s) (F0 m pc ls [.ref a.oa, .long y, .long x, .int f, .ref a.bk]) := by
  rcases fmt_cases f with hbad | ⟨k, hk, e⟩
  · exact lo_T_canonical C hK hl hI f x y hbad hc hs hdg (fun H locs hI => kk σ 1 H locs hI (Or.inl ⟨hbad, rfl, rfl⟩))
  · subst e
    match k, hk with
    | 0, _ =>
      refine lo_L0_canonical C hK ha.g0 hl hI x y (by omega) (by omega) hdg (fun u H locs hu hI => ?_)
      obtain ⟨gh, gl, kd, ng, ex, bh, bl, ph, pl, e1⟩ := KB_canonical (t := 10) (s := 5) (L := -24) (fu := 31) (by decide) (by decide) (by decide) (by decide) (by decide) (by decide +kernel) (by decide +kernel) x y σ.tph σ.tpl
      unfold f_L_B_canonical at hu
      rw [e1] at hu
      refine W.widen (k := cells + 1) (n := slots + 6) (by omega) (by omega) ?_
      cases hz : cn (FF 0) (VN x y % 2 ^ ((FF 0).q + 1)) with
      | false =>
        have hu := hu.trans (if_pos (show bI (cn (FF 0) (VN x y % 2 ^ ((FF 0).q + 1))) = 0 by rw [hz]; rfl))
        subst hu
        exact kk _ 0 H locs hI (Or.inr ⟨0, by decide, rfl, rfl, ⟨rfl, rfl, rfl, rfl, rfl⟩, rfl, rfl, by rw [hz]; rfl⟩)
      | true =>
        have hu := hu.trans (if_neg (show ¬ bI (cn (FF 0) (VN x y % 2 ^ ((FF 0).q + 1))) = 0 by rw [hz]; decide))
        subst hu
        exact kk _ 0 H locs hI (Or.inr ⟨0, by decide, rfl, rfl, ⟨rfl, rfl, rfl, rfl, rfl⟩, rfl, rfl, by rw [hz]; rfl⟩)
    | 1, _ =>
      refine lo_L1_canonical C hK ha.g1 hl hI x y (by omega) (by omega) hdg (fun u H locs hu hI => ?_)
      obtain ⟨gh, gl, kd, ng, ex, bh, bl, ph, pl, e1⟩ := KB_canonical (t := 23) (s := 8) (L := -149) (fu := 255) (by decide) (by decide) (by decide) (by decide) (by decide) (by decide +kernel) (by decide +kernel) x y σ.tph σ.tpl
      unfold f_L_B_canonical at hu
      rw [e1] at hu
      refine W.widen (k := cells + 1) (n := slots + 6) (by omega) (by omega) ?_
      cases hz : cn (FF 1) (VN x y % 2 ^ ((FF 1).q + 1)) with
      | false =>
        have hu := hu.trans (if_pos (show bI (cn (FF 1) (VN x y % 2 ^ ((FF 1).q + 1))) = 0 by rw [hz]; rfl))
        subst hu
        exact kk _ 0 H locs hI (Or.inr ⟨1, by decide, rfl, rfl, ⟨rfl, rfl, rfl, rfl, rfl⟩, rfl, rfl, by rw [hz]; rfl⟩)
      | true =>
        have hu := hu.trans (if_neg (show ¬ bI (cn (FF 1) (VN x y % 2 ^ ((FF 1).q + 1))) = 0 by rw [hz]; decide))
        subst hu
        exact kk _ 0 H locs hI (Or.inr ⟨1, by decide, rfl, rfl, ⟨rfl, rfl, rfl, rfl, rfl⟩, rfl, rfl, by rw [hz]; rfl⟩)
    | 2, _ =>
      refine lo_L2_canonical C hK ha.g2 hl hI x y (by omega) (by omega) hdg (fun u H locs hu hI => ?_)
      obtain ⟨gh, gl, kd, ng, ex, bh, bl, ph, pl, e1⟩ := KB_canonical (t := 52) (s := 11) (L := -1074) (fu := 2047) (by decide) (by decide) (by decide) (by decide) (by decide) (by decide +kernel) (by decide +kernel) x y σ.tph σ.tpl
      unfold f_L_B_canonical at hu
      rw [e1] at hu
      refine W.widen (k := cells + 1) (n := slots + 6) (by omega) (by omega) ?_
      cases hz : cn (FF 2) (VN x y % 2 ^ ((FF 2).q + 1)) with
      | false =>
        have hu := hu.trans (if_pos (show bI (cn (FF 2) (VN x y % 2 ^ ((FF 2).q + 1))) = 0 by rw [hz]; rfl))
        subst hu
        exact kk _ 0 H locs hI (Or.inr ⟨2, by decide, rfl, rfl, ⟨rfl, rfl, rfl, rfl, rfl⟩, rfl, rfl, by rw [hz]; rfl⟩)
      | true =>
        have hu := hu.trans (if_neg (show ¬ bI (cn (FF 2) (VN x y % 2 ^ ((FF 2).q + 1))) = 0 by rw [hz]; decide))
        subst hu
        exact kk _ 0 H locs hI (Or.inr ⟨2, by decide, rfl, rfl, ⟨rfl, rfl, rfl, rfl, rfl⟩, rfl, rfl, by rw [hz]; rfl⟩)
    | 3, _ =>
      refine lo_L3_canonical C hK ha.g3 hl hI x y (by omega) (by omega) hdg (fun u H locs hu hI => ?_)
      obtain ⟨gh, gl, kd, ng, ex, bh, bl, ph, pl, e1⟩ := KB_canonical (t := 112) (s := 15) (L := -16494) (fu := 32767) (by decide) (by decide) (by decide) (by decide) (by decide) (by decide +kernel) (by decide +kernel) x y σ.tph σ.tpl
      unfold f_L_B_canonical at hu
      rw [e1] at hu
      refine W.widen (k := cells + 1) (n := slots + 6) (by omega) (by omega) ?_
      cases hz : cn (FF 3) (VN x y % 2 ^ ((FF 3).q + 1)) with
      | false =>
        have hu := hu.trans (if_pos (show bI (cn (FF 3) (VN x y % 2 ^ ((FF 3).q + 1))) = 0 by rw [hz]; rfl))
        subst hu
        exact kk _ 0 H locs hI (Or.inr ⟨3, by decide, rfl, rfl, ⟨rfl, rfl, rfl, rfl, rfl⟩, rfl, rfl, by rw [hz]; rfl⟩)
      | true =>
        have hu := hu.trans (if_neg (show ¬ bI (cn (FF 3) (VN x y % 2 ^ ((FF 3).q + 1))) = 0 by rw [hz]; decide))
        subst hu
        exact kk _ 0 H locs hI (Or.inr ⟨3, by decide, rfl, rfl, ⟨rfl, rfl, rfl, rfl, rfl⟩, rfl, rfl, by rw [hz]; rfl⟩)
    | 4, _ =>
      refine lo_L4_canonical C hK ha.g4 hl hI x y (by omega) (by omega) hdg (fun u H locs hu hI => ?_)
      obtain ⟨gh, gl, kd, ng, ex, bh, bl, ph, pl, e1⟩ := KP_canonical (t := 20) (g := 11) (p := 7) (L := -101) (mnh := 0) (mnl := 9999999) (mph := 0) (mpl := 999999) (by decide) (by decide) (by decide) (by decide) (by decide +kernel) (by decide +kernel) (by decide +kernel) (by decide +kernel) (by decide +kernel) x y σ.tbh σ.tbl σ.tph σ.tpl
      unfold f_L_P_canonical at hu
      rw [e1] at hu
      refine W.widen (k := cells + 1) (n := slots + 6) (by omega) (by omega) ?_
      cases hz : cn (FF 4) (VN x y % 2 ^ ((FF 4).q + 1)) with
      | false =>
        have hu := hu.trans (if_pos (show bI (cn (FF 4) (VN x y % 2 ^ ((FF 4).q + 1))) = 0 by rw [hz]; rfl))
        subst hu
        exact kk _ 0 H locs hI (Or.inr ⟨4, by decide, rfl, rfl, ⟨rfl, rfl, rfl, rfl, rfl⟩, rfl, rfl, by rw [hz]; rfl⟩)
      | true =>
        have hu := hu.trans (if_neg (show ¬ bI (cn (FF 4) (VN x y % 2 ^ ((FF 4).q + 1))) = 0 by rw [hz]; decide))
        subst hu
        exact kk _ 0 H locs hI (Or.inr ⟨4, by decide, rfl, rfl, ⟨rfl, rfl, rfl, rfl, rfl⟩, rfl, rfl, by rw [hz]; rfl⟩)
    | 5, _ =>
      refine lo_L5_canonical C hK ha.g5 hl hI x y (by omega) (by omega) hdg (fun u H locs hu hI => ?_)
      obtain ⟨gh, gl, kd, ng, ex, bh, bl, ph, pl, e1⟩ := KP_canonical (t := 50) (g := 13) (p := 16) (L := -398) (mnh := 0) (mnl := 9999999999999999) (mph := 0) (mpl := 999999999999999) (by decide) (by decide) (by decide) (by decide) (by decide +kernel) (by decide +kernel) (by decide +kernel) (by decide +kernel) (by decide +kernel) x y σ.tbh σ.tbl σ.tph σ.tpl
      unfold f_L_P_canonical at hu
      rw [e1] at hu
      refine W.widen (k := cells + 1) (n := slots + 6) (by omega) (by omega) ?_
      cases hz : cn (FF 5) (VN x y % 2 ^ ((FF 5).q + 1)) with
      | false =>
        have hu := hu.trans (if_pos (show bI (cn (FF 5) (VN x y % 2 ^ ((FF 5).q + 1))) = 0 by rw [hz]; rfl))
        subst hu
        exact kk _ 0 H locs hI (Or.inr ⟨5, by decide, rfl, rfl, ⟨rfl, rfl, rfl, rfl, rfl⟩, rfl, rfl, by rw [hz]; rfl⟩)
      | true =>
        have hu := hu.trans (if_neg (show ¬ bI (cn (FF 5) (VN x y % 2 ^ ((FF 5).q + 1))) = 0 by rw [hz]; decide))
        subst hu
        exact kk _ 0 H locs hI (Or.inr ⟨5, by decide, rfl, rfl, ⟨rfl, rfl, rfl, rfl, rfl⟩, rfl, rfl, by rw [hz]; rfl⟩)
    | 6, _ =>
      refine lo_L6_canonical C hK ha.g6 hl hI x y (by omega) (by omega) hdg (fun u H locs hu hI => ?_)
      obtain ⟨gh, gl, kd, ng, ex, bh, bl, ph, pl, e1⟩ := KP_canonical (t := 110) (g := 17) (p := 34) (L := -6176) (mnh := 542101086242752) (mnl := 4003012203950112767) (mph := 54210108624275) (mpl := 4089650035136921599) (by decide) (by decide) (by decide) (by decide) (by decide +kernel) (by decide +kernel) (by decide +kernel) (by decide +kernel) (by decide +kernel) x y σ.tbh σ.tbl σ.tph σ.tpl
      unfold f_L_P_canonical at hu
      rw [e1] at hu
      refine W.widen (k := cells + 1) (n := slots + 6) (by omega) (by omega) ?_
      cases hz : cn (FF 6) (VN x y % 2 ^ ((FF 6).q + 1)) with
      | false =>
        have hu := hu.trans (if_pos (show bI (cn (FF 6) (VN x y % 2 ^ ((FF 6).q + 1))) = 0 by rw [hz]; rfl))
        subst hu
        exact kk _ 0 H locs hI (Or.inr ⟨6, by decide, rfl, rfl, ⟨rfl, rfl, rfl, rfl, rfl⟩, rfl, rfl, by rw [hz]; rfl⟩)
      | true =>
        have hu := hu.trans (if_neg (show ¬ bI (cn (FF 6) (VN x y % 2 ^ ((FF 6).q + 1))) = 0 by rw [hz]; decide))
        subst hu
        exact kk _ 0 H locs hI (Or.inr ⟨6, by decide, rfl, rfl, ⟨rfl, rfl, rfl, rfl, rfl⟩, rfl, rfl, by rw [hz]; rfl⟩)
    | 7, _ =>
      refine lo_L7_canonical C hK ha.g7 hl hI x y (ok_KT (n := 2) (by decide)).2.2 (by omega) (by omega) hdg (fun u H locs hu hI => ?_)
      obtain ⟨lh, ll, gh, gl, kd, ng, ex, bh, bl, ph, pl, e1⟩ := KT_canonical (n := 2) (g := 11) (L := -101) (mnh := 0) (mnl := 9999999) (mph := 0) (mpl := 999999) (by decide) (by decide) (by decide) (by decide) (by decide +kernel) (by decide +kernel) (by decide +kernel) x y σ.l7h σ.l7l σ.tbh σ.tbl σ.tph σ.tpl
      unfold f_L_T_canonical at hu
      rw [e1] at hu
      refine W.widen (k := cells + 1) (n := slots + 6) (by omega) (by omega) ?_
      cases hz : cn (FF 7) (VN x y % 2 ^ ((FF 7).q + 1)) with
      | false =>
        have hu := hu.trans (if_pos (show bI (cn (FF 7) (VN x y % 2 ^ ((FF 7).q + 1))) = 0 by rw [hz]; rfl))
        subst hu
        exact kk _ 0 H locs hI (Or.inr ⟨7, by decide, rfl, rfl, ⟨rfl, rfl, rfl, rfl, rfl⟩, rfl, rfl, by rw [hz]; rfl⟩)
      | true =>
        have hu := hu.trans (if_neg (show ¬ bI (cn (FF 7) (VN x y % 2 ^ ((FF 7).q + 1))) = 0 by rw [hz]; decide))
        subst hu
        exact kk _ 0 H locs hI (Or.inr ⟨7, by decide, rfl, rfl, ⟨rfl, rfl, rfl, rfl, rfl⟩, rfl, rfl, by rw [hz]; rfl⟩)
    | 8, _ =>
      refine lo_L8_canonical C hK ha.g8 hl hI x y (ok_KT (n := 5) (by decide)).2.2 (by omega) (by omega) hdg (fun u H locs hu hI => ?_)
      obtain ⟨lh, ll, gh, gl, kd, ng, ex, bh, bl, ph, pl, e1⟩ := KT_canonical (n := 5) (g := 13) (L := -398) (mnh := 0) (mnl := 9999999999999999) (mph := 0) (mpl := 999999999999999) (by decide) (by decide) (by decide) (by decide) (by decide +kernel) (by decide +kernel) (by decide +kernel) x y σ.l8h σ.l8l σ.tbh σ.tbl σ.tph σ.tpl
      unfold f_L_T_canonical at hu
      rw [e1] at hu
      refine W.widen (k := cells + 1) (n := slots + 6) (by omega) (by omega) ?_
      cases hz : cn (FF 8) (VN x y % 2 ^ ((FF 8).q + 1)) with
      | false =>
        have hu := hu.trans (if_pos (show bI (cn (FF 8) (VN x y % 2 ^ ((FF 8).q + 1))) = 0 by rw [hz]; rfl))
        subst hu
        exact kk _ 0 H locs hI (Or.inr ⟨8, by decide, rfl, rfl, ⟨rfl, rfl, rfl, rfl, rfl⟩, rfl, rfl, by rw [hz]; rfl⟩)
      | true =>
        have hu := hu.trans (if_neg (show ¬ bI (cn (FF 8) (VN x y % 2 ^ ((FF 8).q + 1))) = 0 by rw [hz]; decide))
        subst hu
        exact kk _ 0 H locs hI (Or.inr ⟨8, by decide, rfl, rfl, ⟨rfl, rfl, rfl, rfl, rfl⟩, rfl, rfl, by rw [hz]; rfl⟩)
    | 9, _ =>
      refine lo_L9_canonical C hK ha.g9 hl hI x y (ok_KT (n := 11) (by decide)).2.2 (by omega) (by omega) hdg (fun u H locs hu hI => ?_)
      obtain ⟨lh, ll, gh, gl, kd, ng, ex, bh, bl, ph, pl, e1⟩ := KT_canonical (n := 11) (g := 17) (L := -6176) (mnh := 542101086242752) (mnl := 4003012203950112767) (mph := 54210108624275) (mpl := 4089650035136921599) (by decide) (by decide) (by decide) (by decide) (by decide +kernel) (by decide +kernel) (by decide +kernel) x y σ.l9h σ.l9l σ.tbh σ.tbl σ.tph σ.tpl
      unfold f_L_T_canonical at hu
      rw [e1] at hu
      refine W.widen (k := cells + 1) (n := slots + 6) (by omega) (by omega) ?_
      cases hz : cn (FF 9) (VN x y % 2 ^ ((FF 9).q + 1)) with
      | false =>
        have hu := hu.trans (if_pos (show bI (cn (FF 9) (VN x y % 2 ^ ((FF 9).q + 1))) = 0 by rw [hz]; rfl))
        subst hu
        exact kk _ 0 H locs hI (Or.inr ⟨9, by decide, rfl, rfl, ⟨rfl, rfl, rfl, rfl, rfl⟩, rfl, rfl, by rw [hz]; rfl⟩)
      | true =>
        have hu := hu.trans (if_neg (show ¬ bI (cn (FF 9) (VN x y % 2 ^ ((FF 9).q + 1))) = 0 by rw [hz]; decide))
        subst hu
        exact kk _ 0 H locs hI (Or.inr ⟨9, by decide, rfl, rfl, ⟨rfl, rfl, rfl, rfl, rfl⟩, rfl, rfl, by rw [hz]; rfl⟩)

set_option maxHeartbeats 4000000 in
theorem hu_pack {p : Program} {l : Launch} {e : Env} {s : State} {m : MethodId} {below : List Frame} {meth : Method} {c : Code} {b L : Nat} {xs : Nat → Int32} {D : va_G} {a : AD} {σ : SB} {μ : SM} (C : LawAt p l s m meth c b L xs) (hK : va_K D classes (TYL a) s) (ha : AOK a) {H : Heap} {locs : List Loc} {cells slots pc : Nat} {ls : Array Slot} (hl : ls.size = 7) (hI : Inv s D a σ μ H locs) (od : okD σ.kd (VN σ.bh σ.bl)) (f : Int32) (hc : cells + 1 ≤ 601024) (hs : slots + 6 ≤ 7293034) (hdg : decode code pc = .ok (.invokestatic 47, 3))
    (kk : ∀ (σ' : SB) (r : Int32) (H : Heap) (locs : List Loc), Inv s D a σ' μ H locs → ((f < 0 ∨ (10:Int32) ≤ f) ∧ r = 1 ∧ σ' = σ) ∨ (∃ k, k < 10 ∧ f = nI k ∧ r = 0 ∧ PP σ σ' k) → W p l e room_1 s m #[Value.ref b] below meth c H locs (cells + 1) (slots + 6) (lw_Z below #[Value.ref b] s) (F0 m (pc + 3) ls [.int r])) : W p l e room_1 s m #[Value.ref b] below meth c H locs cells slots (lw_Z below #[Value.ref b] s) (F0 m pc ls [.ref a.oa, .int f, .ref a.bk]) := by
  rcases fmt_cases f with hbad | ⟨k, hk, e⟩
  · exact lo_T_pack C hK hl hI f hbad hc hs hdg (fun H locs hI => kk σ 1 H locs hI (Or.inl ⟨hbad, rfl, rfl⟩))
  · subst e
    match k, hk with
    | 0, _ =>
      refine lo_L0_pack C hK ha.g0 hl hI (by omega) (by omega) hdg (fun u H locs hu hI => ?_)
      obtain ⟨z, h, ll, e1, e2⟩ := KB_write (t := 10) (s := 5) (L := -24) (fu := 31) (by decide) (by decide) (by decide) (by decide) (by decide) (by decide +kernel) (by decide +kernel) σ.kd σ.ex σ.ng σ.bh σ.bl σ.mkh σ.mkl od
      unfold f_L_B_pack f_K_B_pack at hu
      rw [e1] at hu
      have e3 : z = (FF 0).h σ.kd σ.ex (VN σ.bh σ.bl) := e2.e
      refine W.widen (k := cells + 1) (n := slots + 6) (by omega) (by omega) ?_
      cases hz : z with
      | false =>
        have hu := hu.trans (if_pos (show bI z = 0 by rw [hz]; rfl))
        subst hu
        exact kk _ 0 H locs hI (Or.inr ⟨0, by decide, rfl, rfl, ⟨rfl, rfl, rfl, rfl, rfl⟩, by rw [← e3, hz]; rfl, e2.y, e2.n⟩)
      | true =>
        have hu := hu.trans (if_neg (show ¬ bI z = 0 by rw [hz]; decide))
        subst hu
        exact kk _ 0 H locs hI (Or.inr ⟨0, by decide, rfl, rfl, ⟨rfl, rfl, rfl, rfl, rfl⟩, by rw [← e3, hz]; rfl, e2.y, e2.n⟩)
    | 1, _ =>
      refine lo_L1_pack C hK ha.g1 hl hI (by omega) (by omega) hdg (fun u H locs hu hI => ?_)
      obtain ⟨z, h, ll, e1, e2⟩ := KB_write (t := 23) (s := 8) (L := -149) (fu := 255) (by decide) (by decide) (by decide) (by decide) (by decide) (by decide +kernel) (by decide +kernel) σ.kd σ.ex σ.ng σ.bh σ.bl σ.mkh σ.mkl od
      unfold f_L_B_pack f_K_B_pack at hu
      rw [e1] at hu
      have e3 : z = (FF 1).h σ.kd σ.ex (VN σ.bh σ.bl) := e2.e
      refine W.widen (k := cells + 1) (n := slots + 6) (by omega) (by omega) ?_
      cases hz : z with
      | false =>
        have hu := hu.trans (if_pos (show bI z = 0 by rw [hz]; rfl))
        subst hu
        exact kk _ 0 H locs hI (Or.inr ⟨1, by decide, rfl, rfl, ⟨rfl, rfl, rfl, rfl, rfl⟩, by rw [← e3, hz]; rfl, e2.y, e2.n⟩)
      | true =>
        have hu := hu.trans (if_neg (show ¬ bI z = 0 by rw [hz]; decide))
        subst hu
        exact kk _ 0 H locs hI (Or.inr ⟨1, by decide, rfl, rfl, ⟨rfl, rfl, rfl, rfl, rfl⟩, by rw [← e3, hz]; rfl, e2.y, e2.n⟩)
    | 2, _ =>
      refine lo_L2_pack C hK ha.g2 hl hI (by omega) (by omega) hdg (fun u H locs hu hI => ?_)
      obtain ⟨z, h, ll, e1, e2⟩ := KB_write (t := 52) (s := 11) (L := -1074) (fu := 2047) (by decide) (by decide) (by decide) (by decide) (by decide) (by decide +kernel) (by decide +kernel) σ.kd σ.ex σ.ng σ.bh σ.bl σ.mkh σ.mkl od
      unfold f_L_B_pack f_K_B_pack at hu
      rw [e1] at hu
      have e3 : z = (FF 2).h σ.kd σ.ex (VN σ.bh σ.bl) := e2.e
      refine W.widen (k := cells + 1) (n := slots + 6) (by omega) (by omega) ?_
      cases hz : z with
      | false =>
        have hu := hu.trans (if_pos (show bI z = 0 by rw [hz]; rfl))
        subst hu
        exact kk _ 0 H locs hI (Or.inr ⟨2, by decide, rfl, rfl, ⟨rfl, rfl, rfl, rfl, rfl⟩, by rw [← e3, hz]; rfl, e2.y, e2.n⟩)
      | true =>
        have hu := hu.trans (if_neg (show ¬ bI z = 0 by rw [hz]; decide))
        subst hu
        exact kk _ 0 H locs hI (Or.inr ⟨2, by decide, rfl, rfl, ⟨rfl, rfl, rfl, rfl, rfl⟩, by rw [← e3, hz]; rfl, e2.y, e2.n⟩)
    | 3, _ =>
      refine lo_L3_pack C hK ha.g3 hl hI (by omega) (by omega) hdg (fun u H locs hu hI => ?_)
      obtain ⟨z, h, ll, e1, e2⟩ := KB_write (t := 112) (s := 15) (L := -16494) (fu := 32767) (by decide) (by decide) (by decide) (by decide) (by decide) (by decide +kernel) (by decide +kernel) σ.kd σ.ex σ.ng σ.bh σ.bl σ.mkh σ.mkl od
      unfold f_L_B_pack f_K_B_pack at hu
      rw [e1] at hu
      have e3 : z = (FF 3).h σ.kd σ.ex (VN σ.bh σ.bl) := e2.e
      refine W.widen (k := cells + 1) (n := slots + 6) (by omega) (by omega) ?_
      cases hz : z with
      | false =>
        have hu := hu.trans (if_pos (show bI z = 0 by rw [hz]; rfl))
        subst hu
        exact kk _ 0 H locs hI (Or.inr ⟨3, by decide, rfl, rfl, ⟨rfl, rfl, rfl, rfl, rfl⟩, by rw [← e3, hz]; rfl, e2.y, e2.n⟩)
      | true =>
        have hu := hu.trans (if_neg (show ¬ bI z = 0 by rw [hz]; decide))
        subst hu
        exact kk _ 0 H locs hI (Or.inr ⟨3, by decide, rfl, rfl, ⟨rfl, rfl, rfl, rfl, rfl⟩, by rw [← e3, hz]; rfl, e2.y, e2.n⟩)
    | 4, _ =>
      refine lo_L4_pack C hK ha.g4 hl hI (by omega) (by omega) hdg (fun u H locs hu hI => ?_)
      obtain ⟨z, h, ll, e1, e2⟩ := KP_write (t := 20) (g := 11) (p := 7) (L := -101) (mnh := 0) (mnl := 9999999) (mph := 0) (mpl := 999999) (by decide) (by decide) (by decide) (by decide) (by decide +kernel) (by decide +kernel) (by decide +kernel) (by decide +kernel) (by decide +kernel) σ.kd σ.ex σ.ng σ.bh σ.bl σ.mkh σ.mkl od
      unfold f_L_P_pack f_K_P_pack at hu
      rw [e1] at hu
      have e3 : z = (FF 4).h σ.kd σ.ex (VN σ.bh σ.bl) := e2.e
      refine W.widen (k := cells + 1) (n := slots + 6) (by omega) (by omega) ?_
      cases hz : z with
      | false =>
        have hu := hu.trans (if_pos (show bI z = 0 by rw [hz]; rfl))
        subst hu
        exact kk _ 0 H locs hI (Or.inr ⟨4, by decide, rfl, rfl, ⟨rfl, rfl, rfl, rfl, rfl⟩, by rw [← e3, hz]; rfl, e2.y, e2.n⟩)
      | true =>
        have hu := hu.trans (if_neg (show ¬ bI z = 0 by rw [hz]; decide))
        subst hu
        exact kk _ 0 H locs hI (Or.inr ⟨4, by decide, rfl, rfl, ⟨rfl, rfl, rfl, rfl, rfl⟩, by rw [← e3, hz]; rfl, e2.y, e2.n⟩)
    | 5, _ =>
      refine lo_L5_pack C hK ha.g5 hl hI (by omega) (by omega) hdg (fun u H locs hu hI => ?_)
      obtain ⟨z, h, ll, e1, e2⟩ := KP_write (t := 50) (g := 13) (p := 16) (L := -398) (mnh := 0) (mnl := 9999999999999999) (mph := 0) (mpl := 999999999999999) (by decide) (by decide) (by decide) (by decide) (by decide +kernel) (by decide +kernel) (by decide +kernel) (by decide +kernel) (by decide +kernel) σ.kd σ.ex σ.ng σ.bh σ.bl σ.mkh σ.mkl od
      unfold f_L_P_pack f_K_P_pack at hu
      rw [e1] at hu
      have e3 : z = (FF 5).h σ.kd σ.ex (VN σ.bh σ.bl) := e2.e
      refine W.widen (k := cells + 1) (n := slots + 6) (by omega) (by omega) ?_
      cases hz : z with
      | false =>
        have hu := hu.trans (if_pos (show bI z = 0 by rw [hz]; rfl))
        subst hu
        exact kk _ 0 H locs hI (Or.inr ⟨5, by decide, rfl, rfl, ⟨rfl, rfl, rfl, rfl, rfl⟩, by rw [← e3, hz]; rfl, e2.y, e2.n⟩)
      | true =>
        have hu := hu.trans (if_neg (show ¬ bI z = 0 by rw [hz]; decide))
        subst hu
        exact kk _ 0 H locs hI (Or.inr ⟨5, by decide, rfl, rfl, ⟨rfl, rfl, rfl, rfl, rfl⟩, by rw [← e3, hz]; rfl, e2.y, e2.n⟩)
    | 6, _ =>
      refine lo_L6_pack C hK ha.g6 hl hI (by omega) (by omega) hdg (fun u H locs hu hI => ?_)
      obtain ⟨z, h, ll, e1, e2⟩ := KP_write (t := 110) (g := 17) (p := 34) (L := -6176) (mnh := 542101086242752) (mnl := 4003012203950112767) (mph := 54210108624275) (mpl := 4089650035136921599) (by decide) (by decide) (by decide) (by decide) (by decide +kernel) (by decide +kernel) (by decide +kernel) (by decide +kernel) (by decide +kernel) σ.kd σ.ex σ.ng σ.bh σ.bl σ.mkh σ.mkl od
      unfold f_L_P_pack f_K_P_pack at hu
      rw [e1] at hu
      have e3 : z = (FF 6).h σ.kd σ.ex (VN σ.bh σ.bl) := e2.e
      refine W.widen (k := cells + 1) (n := slots + 6) (by omega) (by omega) ?_
      cases hz : z with
      | false =>
        have hu := hu.trans (if_pos (show bI z = 0 by rw [hz]; rfl))
        subst hu
        exact kk _ 0 H locs hI (Or.inr ⟨6, by decide, rfl, rfl, ⟨rfl, rfl, rfl, rfl, rfl⟩, by rw [← e3, hz]; rfl, e2.y, e2.n⟩)
      | true =>
        have hu := hu.trans (if_neg (show ¬ bI z = 0 by rw [hz]; decide))
        subst hu
        exact kk _ 0 H locs hI (Or.inr ⟨6, by decide, rfl, rfl, ⟨rfl, rfl, rfl, rfl, rfl⟩, by rw [← e3, hz]; rfl, e2.y, e2.n⟩)
    | 7, _ =>
      refine lo_L7_pack C hK ha.g7 hl hI (ok_KT (n := 2) (by decide)).2.1 (by omega) (by omega) hdg (fun u H locs hu hI => ?_)
      obtain ⟨z, lh, lo, h, ll, e1, e2⟩ := KT_write (n := 2) (g := 11) (L := -101) (mnh := 0) (mnl := 9999999) (mph := 0) (mpl := 999999) (by decide) (by decide) (by decide) (by decide) (by decide +kernel) (by decide +kernel) (by decide +kernel) σ.kd σ.ex σ.ng σ.bh σ.bl σ.mkh σ.mkl σ.l7h σ.l7l od
      unfold f_L_T_pack f_K_T_pack at hu
      rw [e1] at hu
      have e3 : z = (FF 7).h σ.kd σ.ex (VN σ.bh σ.bl) := e2.e
      refine W.widen (k := cells + 1) (n := slots + 6) (by omega) (by omega) ?_
      cases hz : z with
      | false =>
        have hu := hu.trans (if_pos (show bI z = 0 by rw [hz]; rfl))
        subst hu
        exact kk _ 0 H locs hI (Or.inr ⟨7, by decide, rfl, rfl, ⟨rfl, rfl, rfl, rfl, rfl⟩, by rw [← e3, hz]; rfl, e2.y, e2.n⟩)
      | true =>
        have hu := hu.trans (if_neg (show ¬ bI z = 0 by rw [hz]; decide))
        subst hu
        exact kk _ 0 H locs hI (Or.inr ⟨7, by decide, rfl, rfl, ⟨rfl, rfl, rfl, rfl, rfl⟩, by rw [← e3, hz]; rfl, e2.y, e2.n⟩)
    | 8, _ =>
      refine lo_L8_pack C hK ha.g8 hl hI (ok_KT (n := 5) (by decide)).2.1 (by omega) (by omega) hdg (fun u H locs hu hI => ?_)
      obtain ⟨z, lh, lo, h, ll, e1, e2⟩ := KT_write (n := 5) (g := 13) (L := -398) (mnh := 0) (mnl := 9999999999999999) (mph := 0) (mpl := 999999999999999) (by decide) (by decide) (by decide) (by decide) (by decide +kernel) (by decide +kernel) (by decide +kernel) σ.kd σ.ex σ.ng σ.bh σ.bl σ.mkh σ.mkl σ.l8h σ.l8l od
      unfold f_L_T_pack f_K_T_pack at hu
      rw [e1] at hu
      have e3 : z = (FF 8).h σ.kd σ.ex (VN σ.bh σ.bl) := e2.e
      refine W.widen (k := cells + 1) (n := slots + 6) (by omega) (by omega) ?_
      cases hz : z with
      | false =>
        have hu := hu.trans (if_pos (show bI z = 0 by rw [hz]; rfl))
        subst hu
        exact kk _ 0 H locs hI (Or.inr ⟨8, by decide, rfl, rfl, ⟨rfl, rfl, rfl, rfl, rfl⟩, by rw [← e3, hz]; rfl, e2.y, e2.n⟩)
      | true =>
        have hu := hu.trans (if_neg (show ¬ bI z = 0 by rw [hz]; decide))
        subst hu
        exact kk _ 0 H locs hI (Or.inr ⟨8, by decide, rfl, rfl, ⟨rfl, rfl, rfl, rfl, rfl⟩, by rw [← e3, hz]; rfl, e2.y, e2.n⟩)
    | 9, _ =>
      refine lo_L9_pack C hK ha.g9 hl hI (ok_KT (n := 11) (by decide)).2.1 (by omega) (by omega) hdg (fun u H locs hu hI => ?_)
      obtain ⟨z, lh, lo, h, ll, e1, e2⟩ := KT_write (n := 11) (g := 17) (L := -6176) (mnh := 542101086242752) (mnl := 4003012203950112767) (mph := 54210108624275) (mpl := 4089650035136921599) (by decide) (by decide) (by decide) (by decide) (by decide +kernel) (by decide +kernel) (by decide +kernel) σ.kd σ.ex σ.ng σ.bh σ.bl σ.mkh σ.mkl σ.l9h σ.l9l od
      unfold f_L_T_pack f_K_T_pack at hu
      rw [e1] at hu
      have e3 : z = (FF 9).h σ.kd σ.ex (VN σ.bh σ.bl) := e2.e
      refine W.widen (k := cells + 1) (n := slots + 6) (by omega) (by omega) ?_
      cases hz : z with
      | false =>
        have hu := hu.trans (if_pos (show bI z = 0 by rw [hz]; rfl))
        subst hu
        exact kk _ 0 H locs hI (Or.inr ⟨9, by decide, rfl, rfl, ⟨rfl, rfl, rfl, rfl, rfl⟩, by rw [← e3, hz]; rfl, e2.y, e2.n⟩)
      | true =>
        have hu := hu.trans (if_neg (show ¬ bI z = 0 by rw [hz]; decide))
        subst hu
        exact kk _ 0 H locs hI (Or.inr ⟨9, by decide, rfl, rfl, ⟨rfl, rfl, rfl, rfl, rfl⟩, by rw [← e3, hz]; rfl, e2.y, e2.n⟩)

