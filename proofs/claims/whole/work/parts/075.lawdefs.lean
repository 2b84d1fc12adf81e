def R_law : String := "PatternBookLaw"
def lw_P (b : Addr) (xs : List Int32) (args : Array Value) (s : State) : Prop := args = #[.ref b] ∧ s.IntsAt b xs ∧ xs.length ≤ 4096 ∧ (Jvm.Cond.and given_1 narrow_1).before args s = true
def lw_Q (_ : Array Value) (s : State) (o : Outcome) (t : State) : Prop := o = .returned (some (.int 1)) ∧ Framed s o t [] 601024 7293034
def lw_Z (below : List Frame) (a : Array Value) (s : State) : State → Prop := fun t => ∃ o, t.status = .running ∧ Ended t below o ∧ lw_Q a s o t
/-- the law's own end, with 1 on the stack, nothing written that was there before, its room as the claim has it -/
theorem lw_ret {p : Program} {l : Launch} {e : Env} {s : State} {m : MethodId} {below : List Frame} {meth : Method} {c : Code} {b : Nat} (hx : p.tables.exec = Jvm.exec) (hb : c.code = code) (hr : meth.sig.returnType = ret) (hlocks : meth.locks = false) {pc : Nat} {H : Heap} {ls : Array Slot} (hdg : decode code pc = .ok (.ireturn, 1)) : W p l e room_1 s m #[Value.ref b] below meth c H [] 601024 7293034 (lw_Z below #[Value.ref b] s) (F0 m pc ls [.int 1]) := by
  intro T hT X
  obtain ⟨fs, hret, hrun, hended, hW, hframe⟩ := X.leave (v := some (.int 1)) (hlocks := hlocks) (fun h => by rw [hr] at h; cases h)
  have hmeth' : T.vm.method? m = some meth := X.method'
  refine ⟨T.setFrames fs, ?_, .returned (some (.int 1)), hrun, hended, rfl, ⟨_, rfl⟩, hW, hframe⟩
  jvm_step X.here [X.here.top, hx, hb, hdg, hmeth', hr, ret, narrow_b1]
  (try refine ⟨rfl, ?_⟩); (try refine ⟨rfl, ?_⟩)
  first | (intro acts; rw [hret _ acts rfl rfl rfl]) | rw [hret _ _ rfl rfl rfl]
  exact Steps.refl _
def AD : Type := (Nat → Nat) × (Nat → Option Nat) × (Nat → ClassId)
abbrev AD.bk (a : AD) : Nat := a.1 0
abbrev AD.fa (a : AD) : Nat := a.1 1
abbrev AD.d (a : AD) : Nat := a.1 2
abbrev AD.b (a : AD) : Nat := a.1 3
abbrev AD.am (a : AD) : Nat := a.1 4
abbrev AD.gv (a : AD) : Nat := a.1 5
abbrev AD.td (a : AD) : Nat := a.1 6
abbrev AD.tb (a : AD) : Nat := a.1 7
abbrev AD.tp (a : AD) : Nat := a.1 8
abbrev AD.f0 (a : AD) : Nat := a.1 9
abbrev AD.f1 (a : AD) : Nat := a.1 10
abbrev AD.f2 (a : AD) : Nat := a.1 11
abbrev AD.f3 (a : AD) : Nat := a.1 12
abbrev AD.f4 (a : AD) : Nat := a.1 13
abbrev AD.f5 (a : AD) : Nat := a.1 14
abbrev AD.f6 (a : AD) : Nat := a.1 15
abbrev AD.f7 (a : AD) : Nat := a.1 16
abbrev AD.f8 (a : AD) : Nat := a.1 17
abbrev AD.f9 (a : AD) : Nat := a.1 18
abbrev AD.n4 (a : AD) : Nat := a.1 19
abbrev AD.p4 (a : AD) : Nat := a.1 20
abbrev AD.n5 (a : AD) : Nat := a.1 21
abbrev AD.p5 (a : AD) : Nat := a.1 22
abbrev AD.n6 (a : AD) : Nat := a.1 23
abbrev AD.p6 (a : AD) : Nat := a.1 24
abbrev AD.n7 (a : AD) : Nat := a.1 25
abbrev AD.p7 (a : AD) : Nat := a.1 26
abbrev AD.l7 (a : AD) : Nat := a.1 27
abbrev AD.n8 (a : AD) : Nat := a.1 28
abbrev AD.p8 (a : AD) : Nat := a.1 29
abbrev AD.l8 (a : AD) : Nat := a.1 30
abbrev AD.n9 (a : AD) : Nat := a.1 31
abbrev AD.p9 (a : AD) : Nat := a.1 32
abbrev AD.l9 (a : AD) : Nat := a.1 33
abbrev AD.mo (a : AD) : Nat := a.1 34
abbrev AD.wa (a : AD) : Nat := a.1 35
abbrev AD.sa (a : AD) : Nat := a.1 36
abbrev AD.ma (a : AD) : Nat := a.1 37
abbrev AD.oa (a : AD) : Nat := a.1 38
abbrev AD.g (a : AD) : Nat → Option Nat := a.2.1
abbrev AD.cF (a : AD) : ClassId := a.2.2 0
abbrev AD.cW (a : AD) : ClassId := a.2.2 1
abbrev AD.cS (a : AD) : ClassId := a.2.2 2
abbrev AD.cM (a : AD) : ClassId := a.2.2 3
abbrev AD.cO (a : AD) : ClassId := a.2.2 4
abbrev AD.of (l : List Nat) (g : Nat → Option Nat) (cs : List ClassId) : AD := (fun k => l.getD k 0, g, fun k => cs.getD k 0)
def SB : Type := Int32 × Bool × Int32 × Int64 × Int64 × Int64 × Int64 × Int64 × Int64 × Int32 × Bool × Int32 × Int64 × Int64 × Int64 × Int64 × Int64 × Int64 × Int64 × Int64 × Int64 × Int64 × (Nat → Int64)
abbrev SB.kd (x : SB) : Int32 := x.1
abbrev SB.ng (x : SB) : Bool := x.2.1
abbrev SB.ex (x : SB) : Int32 := x.2.2.1
abbrev SB.bh (x : SB) : Int64 := x.2.2.2.1
abbrev SB.bl (x : SB) : Int64 := x.2.2.2.2.1
abbrev SB.mkh (x : SB) : Int64 := x.2.2.2.2.2.1
abbrev SB.mkl (x : SB) : Int64 := x.2.2.2.2.2.2.1
abbrev SB.gvh (x : SB) : Int64 := x.2.2.2.2.2.2.2.1
abbrev SB.gvl (x : SB) : Int64 := x.2.2.2.2.2.2.2.2.1
abbrev SB.tkd (x : SB) : Int32 := x.2.2.2.2.2.2.2.2.2.1
abbrev SB.tng (x : SB) : Bool := x.2.2.2.2.2.2.2.2.2.2.1
abbrev SB.tex (x : SB) : Int32 := x.2.2.2.2.2.2.2.2.2.2.2.1
abbrev SB.tbh (x : SB) : Int64 := x.2.2.2.2.2.2.2.2.2.2.2.2.1
abbrev SB.tbl (x : SB) : Int64 := x.2.2.2.2.2.2.2.2.2.2.2.2.2.1
abbrev SB.tph (x : SB) : Int64 := x.2.2.2.2.2.2.2.2.2.2.2.2.2.2.1
abbrev SB.tpl (x : SB) : Int64 := x.2.2.2.2.2.2.2.2.2.2.2.2.2.2.2.1
abbrev SB.l7h (x : SB) : Int64 := x.2.2.2.2.2.2.2.2.2.2.2.2.2.2.2.2.1
abbrev SB.l7l (x : SB) : Int64 := x.2.2.2.2.2.2.2.2.2.2.2.2.2.2.2.2.2.1
abbrev SB.l8h (x : SB) : Int64 := x.2.2.2.2.2.2.2.2.2.2.2.2.2.2.2.2.2.2.1
abbrev SB.l8l (x : SB) : Int64 := x.2.2.2.2.2.2.2.2.2.2.2.2.2.2.2.2.2.2.2.1
abbrev SB.l9h (x : SB) : Int64 := x.2.2.2.2.2.2.2.2.2.2.2.2.2.2.2.2.2.2.2.2.1
abbrev SB.l9l (x : SB) : Int64 := x.2.2.2.2.2.2.2.2.2.2.2.2.2.2.2.2.2.2.2.2.2.1
abbrev SB.ot (x : SB) : Nat → Int64 := x.2.2.2.2.2.2.2.2.2.2.2.2.2.2.2.2.2.2.2.2.2.2
abbrev SB.of (kd : Int32) (ng : Bool) (ex : Int32) (bh : Int64) (bl : Int64) (mkh : Int64) (mkl : Int64) (gvh : Int64) (gvl : Int64) (tkd : Int32) (tng : Bool) (tex : Int32) (tbh : Int64) (tbl : Int64) (tph : Int64) (tpl : Int64) (l7h : Int64) (l7l : Int64) (l8h : Int64) (l8l : Int64) (l9h : Int64) (l9l : Int64) (ot : Nat → Int64) : SB := (kd, ng, ex, bh, bl, mkh, mkl, gvh, gvl, tkd, tng, tex, tbh, tbl, tph, tpl, l7h, l7l, l8h, l8l, l9h, l9l, ot)
def SM : Type := Int32 × Int32 × Int32 × Int32 × Int64 × Int64 × Int64 × Int64 × (Nat → Int64) × (Nat → Int32) × (Nat → Int32)
abbrev SM.co (x : SM) : Int32 := x.1
abbrev SM.kd (x : SM) : Int32 := x.2.1
abbrev SM.sg (x : SM) : Int32 := x.2.2.1
abbrev SM.ex (x : SM) : Int32 := x.2.2.2.1
abbrev SM.hi (x : SM) : Int64 := x.2.2.2.2.1
abbrev SM.lo (x : SM) : Int64 := x.2.2.2.2.2.1
abbrev SM.lh (x : SM) : Int64 := x.2.2.2.2.2.2.1
abbrev SM.ll (x : SM) : Int64 := x.2.2.2.2.2.2.2.1
abbrev SM.w (x : SM) : Nat → Int64 := x.2.2.2.2.2.2.2.2.1
abbrev SM.sp (x : SM) : Nat → Int32 := x.2.2.2.2.2.2.2.2.2.1
abbrev SM.md (x : SM) : Nat → Int32 := x.2.2.2.2.2.2.2.2.2.2
abbrev SM.of (co : Int32) (kd : Int32) (sg : Int32) (ex : Int32) (hi : Int64) (lo : Int64) (lh : Int64) (ll : Int64) (w : Nat → Int64) (sp : Nat → Int32) (md : Nat → Int32) : SM := (co, kd, sg, ex, hi, lo, lh, ll, w, sp, md)
def TYL (a : AD) : List (ClassId × FieldType) := [(a.cF, .object "PatternBook$Format"), (a.cW, .long), (a.cS, .int), (a.cM, .int), (a.cO, .long)]
def WL (a : AD) (σ : SB) (μ : SM) : va_W := [(a.bk, .inr (5, [.ref a.fa, .ref a.d, .ref a.am, .ref a.gv, .ref a.td, .ref a.tp])), (a.fa, .inl (a.cF, 10, .inr (.inr (.inr (.inr a.g))))), (a.d, .inr (1, [.int σ.kd, .int (bI σ.ng), .int σ.ex, .ref a.b])), (a.b, .inr (0, [.long σ.bh, .long σ.bl])), (a.am, .inr (0, [.long σ.mkh, .long σ.mkl])), (a.gv, .inr (0, [.long σ.gvh, .long σ.gvl])), (a.td, .inr (1, [.int σ.tkd, .int (bI σ.tng), .int σ.tex, .ref a.tb])), (a.tb, .inr (0, [.long σ.tbh, .long σ.tbl])), (a.tp, .inr (0, [.long σ.tph, .long σ.tpl])), (a.f0, .inr (2, [.int (nI (10 + 5 + 1)), .int (nI (10 + 1)), .int (-24), .int (nI (2 ^ 5 - 3) + (-24)), .int (nI 10), .int (nI 5), .long 31])), (a.f1, .inr (2, [.int (nI (23 + 8 + 1)), .int (nI (23 + 1)), .int (-149), .int (nI (2 ^ 8 - 3) + (-149)), .int (nI 23), .int (nI 8), .long 255])), (a.f2, .inr (2, [.int (nI (52 + 11 + 1)), .int (nI (52 + 1)), .int (-1074), .int (nI (2 ^ 11 - 3) + (-1074)), .int (nI 52), .int (nI 11), .long 2047])), (a.f3, .inr (2, [.int (nI (112 + 15 + 1)), .int (nI (112 + 1)), .int (-16494), .int (nI (2 ^ 15 - 3) + (-16494)), .int (nI 112), .int (nI 15), .long 32767])), (a.f4, .inr (3, [.int (nI (20 + 11 + 1)), .int 7, .int (-101), .int (nI (3 * 2 ^ (11 - 5) - 1) + (-101)), .int (nI 2), .int (nI 20), .int (nI 11), .ref a.n4, .ref a.p4])), (a.n4, .inr (0, [.long 0, .long 9999999])), (a.p4, .inr (0, [.long 0, .long 999999])), (a.f5, .inr (3, [.int (nI (50 + 13 + 1)), .int 16, .int (-398), .int (nI (3 * 2 ^ (13 - 5) - 1) + (-398)), .int (nI 5), .int (nI 50), .int (nI 13), .ref a.n5, .ref a.p5])), (a.n5, .inr (0, [.long 0, .long 9999999999999999])), (a.p5, .inr (0, [.long 0, .long 999999999999999])), (a.f6, .inr (3, [.int (nI (110 + 17 + 1)), .int 34, .int (-6176), .int (nI (3 * 2 ^ (17 - 5) - 1) + (-6176)), .int (nI 11), .int (nI 110), .int (nI 17), .ref a.n6, .ref a.p6])), (a.n6, .inr (0, [.long 542101086242752, .long 4003012203950112767])), (a.p6, .inr (0, [.long 54210108624275, .long 4089650035136921599])), (a.f7, .inr (4, [.int (nI (10 * 2 + 11 + 1)), .int 7, .int (-101), .int (nI (3 * 2 ^ (11 - 5) - 1) + (-101)), .int (nI 2), .int (nI (10 * 2)), .int (nI 11), .ref a.n7, .ref a.p7, .int (nI (11 - 5)), .ref a.l7])), (a.n7, .inr (0, [.long 0, .long 9999999])), (a.p7, .inr (0, [.long 0, .long 999999])), (a.l7, .inr (0, [.long σ.l7h, .long σ.l7l])), (a.f8, .inr (4, [.int (nI (10 * 5 + 13 + 1)), .int 16, .int (-398), .int (nI (3 * 2 ^ (13 - 5) - 1) + (-398)), .int (nI 5), .int (nI (10 * 5)), .int (nI 13), .ref a.n8, .ref a.p8, .int (nI (13 - 5)), .ref a.l8])), (a.n8, .inr (0, [.long 0, .long 9999999999999999])), (a.p8, .inr (0, [.long 0, .long 999999999999999])), (a.l8, .inr (0, [.long σ.l8h, .long σ.l8l])), (a.f9, .inr (4, [.int (nI (10 * 11 + 17 + 1)), .int 34, .int (-6176), .int (nI (3 * 2 ^ (17 - 5) - 1) + (-6176)), .int (nI 11), .int (nI (10 * 11)), .int (nI 17), .ref a.n9, .ref a.p9, .int (nI (17 - 5)), .ref a.l9])), (a.n9, .inr (0, [.long 542101086242752, .long 4003012203950112767])), (a.p9, .inr (0, [.long 54210108624275, .long 4089650035136921599])), (a.l9, .inr (0, [.long σ.l9h, .long σ.l9l])), (a.mo, .inr (6, [.int μ.co, .int μ.kd, .int μ.sg, .int μ.ex, .ref a.wa, .long μ.hi, .long μ.lo, .long μ.lh, .long μ.ll, .ref a.sa, .ref a.ma])), (a.wa, .inl (a.cW, 12, .inr (.inl μ.w))), (a.sa, .inl (a.cS, 1024, .inl μ.sp)), (a.ma, .inl (a.cM, 1000, .inl μ.md)), (a.oa, .inl (a.cO, 1, .inr (.inl σ.ot)))]
def Inv (s : State) (D : va_G) (a : AD) (σ : SB) (μ : SM) (H : Heap) (locs : List Loc) : Prop := va_P D classes (WL a σ μ) H ∧ va_D (fun q : Nat => s.heap.size ≤ q) (WL a σ μ) ∧ va_S (fun q : Nat => s.heap.size ≤ q) s.heap H locs
def LawAt (p : Program) (l : Launch) (s : State) (m : MethodId) (meth : Method) (c : Code) (b L : Nat) (xs : Nat → Int32) : Prop := (p.tables.exec = Jvm.exec) ∧ (c.code = code) ∧ (meth.sig.returnType = ret) ∧ (c.maxLocals = 7) ∧ (s.vm.findClass R_PatternBookLaw = some m.cls) ∧ (∀ w ∈ wt, w.before #[Value.ref b] s = true) ∧ (uN s) ∧ (uZ s) ∧ (va_X b L xs s s.heap) ∧ (b < s.heap.size) ∧ (meth.locks = false) ∧ (L ≤ 4096) ∧ (l.stackTraces = false)
theorem LawAt.hx {p : Program} {l : Launch} {s : State} {m : MethodId} {meth : Method} {c : Code} {b L : Nat} {xs : Nat → Int32} (h : LawAt p l s m meth c b L xs) : p.tables.exec = Jvm.exec := h.1
theorem LawAt.hb {p : Program} {l : Launch} {s : State} {m : MethodId} {meth : Method} {c : Code} {b L : Nat} {xs : Nat → Int32} (h : LawAt p l s m meth c b L xs) : c.code = code := h.2.1
theorem LawAt.hr {p : Program} {l : Launch} {s : State} {m : MethodId} {meth : Method} {c : Code} {b L : Nat} {xs : Nat → Int32} (h : LawAt p l s m meth c b L xs) : meth.sig.returnType = ret := h.2.2.1
theorem LawAt.hml {p : Program} {l : Launch} {s : State} {m : MethodId} {meth : Method} {c : Code} {b L : Nat} {xs : Nat → Int32} (h : LawAt p l s m meth c b L xs) : c.maxLocals = 7 := h.2.2.2.1
theorem LawAt.hown {p : Program} {l : Launch} {s : State} {m : MethodId} {meth : Method} {c : Code} {b L : Nat} {xs : Nat → Int32} (h : LawAt p l s m meth c b L xs) : s.vm.findClass R_PatternBookLaw = some m.cls := h.2.2.2.2.1
theorem LawAt.hts {p : Program} {l : Launch} {s : State} {m : MethodId} {meth : Method} {c : Code} {b L : Nat} {xs : Nat → Int32} (h : LawAt p l s m meth c b L xs) : ∀ w ∈ wt, w.before #[Value.ref b] s = true := h.2.2.2.2.2.1
theorem LawAt.hN {p : Program} {l : Launch} {s : State} {m : MethodId} {meth : Method} {c : Code} {b L : Nat} {xs : Nat → Int32} (h : LawAt p l s m meth c b L xs) : uN s := h.2.2.2.2.2.2.1
theorem LawAt.hZ {p : Program} {l : Launch} {s : State} {m : MethodId} {meth : Method} {c : Code} {b L : Nat} {xs : Nat → Int32} (h : LawAt p l s m meth c b L xs) : uZ s := h.2.2.2.2.2.2.2.1
theorem LawAt.hX {p : Program} {l : Launch} {s : State} {m : MethodId} {meth : Method} {c : Code} {b L : Nat} {xs : Nat → Int32} (h : LawAt p l s m meth c b L xs) : va_X b L xs s s.heap := h.2.2.2.2.2.2.2.2.1
theorem LawAt.hbl {p : Program} {l : Launch} {s : State} {m : MethodId} {meth : Method} {c : Code} {b L : Nat} {xs : Nat → Int32} (h : LawAt p l s m meth c b L xs) : b < s.heap.size := h.2.2.2.2.2.2.2.2.2.1
theorem LawAt.hlocks {p : Program} {l : Launch} {s : State} {m : MethodId} {meth : Method} {c : Code} {b L : Nat} {xs : Nat → Int32} (h : LawAt p l s m meth c b L xs) : meth.locks = false := h.2.2.2.2.2.2.2.2.2.2.1
theorem LawAt.hL {p : Program} {l : Launch} {s : State} {m : MethodId} {meth : Method} {c : Code} {b L : Nat} {xs : Nat → Int32} (h : LawAt p l s m meth c b L xs) : L ≤ 4096 := h.2.2.2.2.2.2.2.2.2.2.2.1
theorem LawAt.hl {p : Program} {l : Launch} {s : State} {m : MethodId} {meth : Method} {c : Code} {b L : Nat} {xs : Nat → Int32} (h : LawAt p l s m meth c b L xs) : l.stackTraces = false := h.2.2.2.2.2.2.2.2.2.2.2.2
theorem LawAt.base {p : Program} {l : Launch} {s : State} {m : MethodId} {meth : Method} {c : Code} {b L : Nat} {xs : Nat → Int32} (C : LawAt p l s m meth c b L xs) : p.tables.exec = Jvm.exec ∧ c.code = code ∧ c.maxLocals = 7 ∧ s.vm.findClass R_PatternBookLaw = some m.cls ∧ (∀ w ∈ wt, w.before #[Value.ref b] s = true) ∧ uN s := ⟨C.hx, C.hb, C.hml, C.hown, C.hts, C.hN⟩
def AOK (a : AD) : Prop := (a.g 0 = some a.f0) ∧ (a.g 1 = some a.f1) ∧ (a.g 2 = some a.f2) ∧ (a.g 3 = some a.f3) ∧ (a.g 4 = some a.f4) ∧ (a.g 5 = some a.f5) ∧ (a.g 6 = some a.f6) ∧ (a.g 7 = some a.f7) ∧ (a.g 8 = some a.f8) ∧ (a.g 9 = some a.f9)
theorem AOK.g0 {a : AD} (h : AOK a) : a.g 0 = some a.f0 := h.1
theorem AOK.g1 {a : AD} (h : AOK a) : a.g 1 = some a.f1 := h.2.1
theorem AOK.g2 {a : AD} (h : AOK a) : a.g 2 = some a.f2 := h.2.2.1
theorem AOK.g3 {a : AD} (h : AOK a) : a.g 3 = some a.f3 := h.2.2.2.1
theorem AOK.g4 {a : AD} (h : AOK a) : a.g 4 = some a.f4 := h.2.2.2.2.1
theorem AOK.g5 {a : AD} (h : AOK a) : a.g 5 = some a.f5 := h.2.2.2.2.2.1
theorem AOK.g6 {a : AD} (h : AOK a) : a.g 6 = some a.f6 := h.2.2.2.2.2.2.1
theorem AOK.g7 {a : AD} (h : AOK a) : a.g 7 = some a.f7 := h.2.2.2.2.2.2.2.1
theorem AOK.g8 {a : AD} (h : AOK a) : a.g 8 = some a.f8 := h.2.2.2.2.2.2.2.2.1
theorem AOK.g9 {a : AD} (h : AOK a) : a.g 9 = some a.f9 := h.2.2.2.2.2.2.2.2.2

