/-! the law's helpers: they catch -/
abbrev wsOfW (y : MethodName) (b : ByteArray) (n : Nat) (r : Option FieldType) (hh : List (Nat × Nat × Nat × Nat)) : List Cond := Cond.codeWith y b n r hh :: wt
theorem lw_goodW {y' : MethodName} {b' : ByteArray} {n' : Nat} {r' : Option FieldType} {hh : List (Nat × Nat × Nat × Nat)} (h : Cond.codeWith y' b' n' r' hh ∈ wt) : GoodIn wt (wsOfW y' b' n' r' hh) := by
  intro w hw
  have hw2 : w ∈ wt := by
    rcases List.mem_cons.mp hw with rfl | hw
    · exact h
    · exact hw
  exact ⟨hw2, good_of_word (List.mem_filter.mp hw2).2⟩
/-- a contract of a method with an exception table; PP: uP or uPT -/
theorem uBeginW {l : Launch} {S : Type} {D : va_G} {cl : List vw_C} {rt : S → Option Value} {post : S → Prop} {WS : va_W} {TY : List (ClassId × FieldType)} {TY' : S → List (ClassId × FieldType)} {W' : S → va_W} {sz mc ms : Nat} {av : List Value} {y : MethodName} {cc : ByteArray} {maxL : Nat} {ret : Option FieldType} {rm : Room} {hh : List (Nat × Nat × Nat × Nat)} (Z : State → Prop) (hy : plainName y.cls = true) (hlen : (lg_sl av).length ≤ maxL)
    (body : ∀ (p : Program) (e : Env) (s : State) (m : MethodId) (below : List Frame) (meth : Method) (c : Code) (A : Nat → Prop) (ls : Array Slot) (H : Heap) (locs : List Loc), (H = s.heap ∧ locs = []) → Z s → c.exceptionTable.toList.map (fun h => (h.startPc, h.endPc, h.handlerPc, h.catchType)) = hh → p.tables.exec = Jvm.exec → c.code = cc → meth.sig.returnType = ret → (∀ w ∈ wt, w.before av.toArray s = true) → s.vm.findClass y.cls = some m.cls → meth.locks = false → c.maxLocals = maxL → meth.name = y.name → (∀ q : Nat, s.heap.size ≤ q → A q) → va_P D cl WS H → va_K D cl TY s → va_D A WS → uN s → va_S A s.heap H locs → lv_has ls maxL (lv_args 0 av) → s.heap.size = sz → va_D (fun _ => True) WS →
      W p l e (headSpec (wsOfW y cc maxL ret hh) rm).room s m av.toArray below meth c H locs 0 0 (MQ below (uQ D cl rt post A TY' W') av.toArray s mc ms A) (F0 m 0 ls [])) :
    Met l y (wsOfW y cc maxL ret hh) rm (va_Pc av (fun U => U.heap.size = sz ∧ va_P D cl WS U.heap ∧ va_K D cl TY U ∧ va_D (fun _ => True) WS ∧ uN U ∧ Z U)) (uQ D cl rt post (va_A WS sz) TY' W') mc ms (va_A WS sz) := by
  refine va_MetW (cc := cc) (maxL := maxL) (ret := ret) (hh := hh) hy rfl ?_
  intro p e s m args below meth c s₁ B hml hv
  obtain ⟨rfl, hsz, hP, hK, hD0, hN, hZ⟩ := hv
  have hts := atoms_spec (ws := wsOfW y cc maxL ret hh) B.pre
  obtain ⟨m9, meth9, c9, g1, g2, g3, -, -, g6, -⟩ := Cond.codeWith_spec (hts _ List.mem_cons_self)
  cases B.named.symm.trans g1
  cases B.method.symm.trans g2
  cases (Stand.of_body B).code.symm.trans g3
  subst hsz
  rw [lg_entry_eq]
  exact body p e s m below meth c (va_A WS s.heap.size) _ s.heap [] ⟨rfl, rfl⟩ hZ g6 B.exec B.bytes B.returns (fun w h => hts w (List.mem_cons_of_mem _ h)) (findClass_of_methodNamed B.named) B.notSynchronized hml (name_of_methodNamed B.named B.method).1 (fun q h => Or.inr h) hP hK hD0.self hN va_S.rf (lv_entry av hlen) rfl hD0
def tZ (_ : State) : Prop := True
def uPZ (Z : State → Prop) (D : va_G) (cl : List vw_C) (WS : va_W) (TY : List (ClassId × FieldType)) (sz : Nat) (av : List Value) : Array Value → State → Prop :=
  va_Pc av (fun U => U.heap.size = sz ∧ va_P D cl WS U.heap ∧ va_K D cl TY U ∧ va_D (fun _ => True) WS ∧ uN U ∧ Z U)
theorem uPreSW {s : State} {H : Heap} {D : va_G} {cl : List vw_C} {WS CW : va_W} {TY CT : List (ClassId × FieldType)} {A : Nat → Prop} {As : List Value} (hK : va_K D cl TY s) (hP : va_P D cl WS H) (hD : va_D A WS) (hN : uN s) (is : List Nat) (hC : is.map (fun i => WS[i]?) = CW.map some) (hn : va_nd is = true) (it : List Nat) (hT : it.filterMap (fun i => TY[i]?) = CT) : PreS s H (uPZ tZ D cl CW CT H.size As) As :=
  ⟨fun a U g mk q => by
    obtain ⟨q0, q1, qP, qK, qD, qN, qZ⟩ := q
    exact ⟨q0, q1, qP, va_K.moved (u := U) (U := U.calling g mk a) (Vm.Alike.refl U.vm) qK, qD, uN.vm (s := U) (U := U.calling g mk a) rfl qN, trivial⟩,
   fun U hU hW => ⟨rfl, by rw [hU], by rw [hU]; exact hP.sub is (fm_of_map is hC), va_K.moved hW.alike (hK.sub it hT), (hD.sub is hn hC).weaken (fun _ _ _ _ => trivial), uN.warm hW hN, trivial⟩⟩
theorem uPreST {s : State} {H : Heap} {D : va_G} {cl : List vw_C} {WS CW : va_W} {TY CT : List (ClassId × FieldType)} {A : Nat → Prop} {As : List Value} (hK : va_K D cl TY s) (hP : va_P D cl WS H) (hD : va_D A WS) (hN : uN s) (hZ : ∀ U : State, U.heap = H → s.WarmedH U.vm → uZ U) (is : List Nat) (hC : is.map (fun i => WS[i]?) = CW.map some) (hn : va_nd is = true) (it : List Nat) (hT : it.filterMap (fun i => TY[i]?) = CT) : PreS s H (uPT D cl CW CT H.size As) As :=
  ⟨uPT.blind, fun U hU hW => ⟨rfl, by rw [hU], by rw [hU]; exact hP.sub is (fm_of_map is hC), va_K.moved hW.alike (hK.sub it hT), (hD.sub is hn hC).weaken (fun _ _ _ _ => trivial), uN.warm hW hN, hZ U hU hW⟩⟩
theorem one_row {c : Code} {a b d n : Nat} (h : c.exceptionTable.toList.map (fun h => (h.startPc, h.endPc, h.handlerPc, h.catchType)) = [(a, b, d, n)]) : ∃ x, c.exceptionTable.toList = [] ++ x :: [] ∧ x.startPc = a ∧ x.endPc = b ∧ x.handlerPc = d ∧ x.catchType = n := by
  match hl : c.exceptionTable.toList, h with
  | [x], h =>
    injection h with h1 h2
    injection h1 with e1 h1
    injection h1 with e2 h1
    injection h1 with e3 e4
    exact ⟨x, rfl, e1, e2, e3, e4⟩
theorem z_self (vm : Vm) (i : ClassId) : vm.assignable i i = true := by
  show vm.assignableAux (255 + 1) i i = true
  rw [Vm.assignableAux, beq_self_eq_true, Bool.true_or]
/-- a table of one row, whose class is that of the thrown object, resolved or not yet -/
theorem zSearch {e : Env} {S : State} {f : JFrame} {v : Addr} {meth : Method} {c : Code} {x : ExceptionTableEntry} (hm : S.vm.method? f.method = some meth) (hc : meth.code = some c) (ht : c.exceptionTable.toList = [x]) (hx : covers x f.pc = true) (h0 : x.catchType ≠ 0)
    {ce : Cell} (hl : S.vm.ClassLinks e.platform f.method.cls x.catchType ce.cls) (hcell : S.heap[v]? = some ce) (hv : ∀ k, ce.vm ≠ .statics k) {k : Class} (hk : (S.vm.noted f.method.cls x.catchType (.cls ce.cls)).classes[ce.cls]? = some k)
    (Q : Handler → Bool → List Action → State → Prop) (E : Control → List Action → State → Prop) (d : Bool) (acts : List Action) :
    Jvm.Sem.wp (findHandler f v) Q E e d acts S ↔ Q (.found x.handlerPc) d acts (S.setVm (S.vm.noted f.method.cls x.catchType (.cls ce.cls))) := by
  obtain ⟨r1, r2⟩ := (resolveClass_links e.toSetting hl).op (op := VmOp.resolveClass f.method.cls x.catchType) rfl
  have hs := z_self (S.vm.noted f.method.cls x.catchType (.cls ce.cls)) ce.cls
  rw [Jvm.W.findHandler_eq hm hc, ht]
  simp only [covers] at hx
  simp [findHandler.go, hx, h0, r1, r2, hcell, hv, hk, hs, VmOp.dirties, VmOp.acts]
theorem zStep {e : Env} {S : State} {f : JFrame} {v : Addr} {r : List Frame} {h : Nat} {vm' : Vm} (key : ∀ (Q : Handler → Bool → List Action → State → Prop) (E : Control → List Action → State → Prop) (d : Bool) (acts : List Action), Jvm.Sem.wp (findHandler f v) Q E e d acts S ↔ Q (.found h) d acts (S.setVm vm')) :
    (stepThrowing e S v (.java f :: r)).1 = (S.setVm vm').setFrames (.java { f with pc := h, stack := [.ref v] } :: r) := by
  simp only [stepThrowing, searchFrame, vmDo]
  generalize hr : Sem.go _ e false [] S = res
  obtain ⟨as, rfl, -⟩ := Sem.eq_ok_of hr (a := Handler.found h) (s' := S.setVm vm') (acts' := []) (by simp [key])
  rfl
theorem zCaught {p : Program} {l : Launch} {e : Env} {R : Room} {s : State} {m : MethodId} {args : Array Value} {below : List Frame} {meth : Method} {c : Code} {U : State} {locs : List Loc} {cells slots : Nat} (X : Stand p l e R s m args below meth c U locs cells slots) {x : ExceptionTableEntry} (htab : c.exceptionTable.toList = [x]) {g : JFrame} (hg : g.method = m) (hx : covers x g.pc = true) (h0 : x.catchType ≠ 0)
    {own name : String} (hown : s.vm.findClass own = some m.cls) (hlink : (Cond.classLink own x.catchType name).before args s = true) {v : Addr} {ce : Cell} (hc : U.heap[v]? = some ce) (hv : ce.vm = .none) (hf : s.vm.findClass name = some ce.cls) :
    ∃ vm', Stand p l e R s m args below meth c (U.setVm vm') locs cells slots ∧ ∀ t, Steps p.tables e below ((U.setVm vm').setTop { g with pc := x.handlerPc, stack := [.ref v] }) t → Steps p.tables e below ((U.setTop g).pushFrame (.throwing v)) t := by
  subst hg
  obtain ⟨g₀, hU⟩ := X.frames_eq
  have hlt : U.cur < U.threads.size := State.cur_lt_of_frames hU
  have hpl : e.platform.magicAccessors = ({} : Platform).magicAccessors := by rw [X.admits.platform]
  obtain ⟨i, hi, hl⟩ := Cond.classLink_spec hown hlink e.platform hpl
  cases hf.symm.trans hi
  obtain ⟨dk, _, _, kt, hd, _, _, _, _, hkt, _, hres⟩ := hl.here
  obtain ⟨k, hk, -⟩ := (X.warmed.alike.noted g.method.cls x.catchType (.cls ce.cls)).2.2 _ _ hkt
  obtain ⟨hgo, hwi⟩ := At.throwing (g := g) X.here v
  refine ⟨U.vm.noted g.method.cls x.catchType (.cls ce.cls), X.noted (X.warmed.noted hd hres (State.rightAt_cls hl)), fun t ht => ?_⟩
  rw [zPush X g v] at hgo hwi ⊢
  refine Steps.head hgo hwi ?_
  rw [stepThread_throwing (State.frames_setFrames _ hlt),
    zStep (S := U.setFrames (.throwing v :: .java g :: below)) (vm' := U.vm.noted g.method.cls x.catchType (.cls ce.cls)) (zSearch (S := U.setFrames (.throwing v :: .java g :: below)) X.method' X.code htab hx h0 (X.warmed.classLinks hl) hc (fun k h => by rw [hv] at h; cases h) hk)]
  rw [State.setTop_of_frames _ (show (U.setVm (U.vm.noted g.method.cls x.catchType (.cls ce.cls))).frames = .java g₀ :: below from hU)] at ht
  have e9 := State.setFrames_setFrames (U.setVm (U.vm.noted g.method.cls x.catchType (.cls ce.cls))) (.throwing v :: .java g :: below) (.java { g with pc := x.handlerPc, stack := [.ref v] } :: below)
  exact Eq.subst (motive := fun z => Steps p.tables e below z t) e9.symm ht
/-- the throw caught: the walk goes on at the handler -/
theorem uCatch {p : Program} {l : Launch} {e : Env} {R : Room} {s : State} {m : MethodId} {args : Array Value} {below : List Frame} {meth : Method} {c : Code} {T U : State} {Q : State → Prop} {pc : Nat} {ls : Array Slot} {st0 rest : List Value} {v : Addr} {b d n : Nat} (X : Stand p l e R s m args below meth c U [] 1 6) (htab : c.exceptionTable.toList.map (fun h => (h.startPc, h.endPc, h.handlerPc, h.catchType)) = [(0, b, d, n)]) (hpc : pc < b) (hn : n ≠ 0) {own : String} (hown : s.vm.findClass own = some m.cls) (hlink : (Cond.classLink own n R_java_lang_IndexOutOfBoundsException).before args s = true) (hN : uN s) (st : Steps p.tables e below (T.setTop (F0 m pc ls st0)) ((U.setTop { F0 m pc ls st0 with stack := rest }).pushFrame (.throwing v))) {ce : Cell} (hc : U.heap[v]? = some ce) (hv : ce.vm = .none) (hf : s.vm.findClass R_java_lang_IndexOutOfBoundsException = some ce.cls)
    (kk : W p l e R s m args below meth c U.heap [] 1 6 Q (F0 m d ls [.ref v])) : ∃ t, Steps p.tables e below (T.setTop (F0 m pc ls st0)) t ∧ Q t := by
  obtain ⟨x, hsplit, x1, x2, x3, x4⟩ := one_row htab
  have hcov : covers x pc = true := by
    have w1 : x.startPc ≤ pc := by omega
    have w2 : pc < x.endPc := by omega
    show (decide (x.startPc ≤ pc) && decide (pc < x.endPc)) = true
    rw [decide_eq_true w1, decide_eq_true w2]; rfl
  obtain ⟨vm', XV, stV⟩ := zCaught X hsplit (g := { F0 m pc ls st0 with stack := rest }) rfl hcov (by rw [x4]; exact hn) hown (by rw [x4]; exact hlink) hc hv hf
  obtain ⟨t, a1, b1⟩ := kk (U.setVm vm') rfl XV
  refine ⟨t, st.trans (stV t ?_), b1⟩
  rw [x3]
  exact a1
theorem S_of_same {s U : State} {A : Nat → Prop} {k n : Nat} (h : s.sameButNew ({ U with vm := s.vm } : State) [] k n) : va_S A s.heap U.heap [] :=
  ⟨h.2.1, fun q hq _ => kept_of_same h q hq, fun q hq => by cases hq⟩
set_option maxHeartbeats 4000000 in
theorem LT_unpack (l : Launch) (hl : l.stackTraces = false) (D : va_G) (bk fa d mk gv td tp oa : Nat) (cF : ClassId) (sz : Nat) (g : Nat → Option Nat) (k : Int32) (x y : Int64) (hbad : k < 0 ∨ (10:Int32) ≤ k) : Met l y_PatternBookLaw_unpack (wsOfW y_PatternBookLaw_unpack b_PatternBookLaw_unpack 8 (some .int) [(0, 13, 16, 13)]) { frames := 8, cells := 1, slots := 6, locals := 150 } (uPT D classes [(bk, .inr (5, [.ref fa, .ref d, .ref mk, .ref gv, .ref td, .ref tp])), (fa, .inl (cF, 10, .inr (.inr (.inr (.inr g)))))] [(cF, .object "PatternBook$Format")] sz [.ref bk, .int k, .long x, .long y, .ref oa]) (uQ D classes (fun _ : Unit => some (.int 1)) (fun _ => True) (va_A [(bk, .inr (5, [.ref fa, .ref d, .ref mk, .ref gv, .ref td, .ref tp])), (fa, .inl (cF, 10, .inr (.inr (.inr (.inr g)))))] sz) (fun _ => [(cF, .object "PatternBook$Format")]) (fun _ => [(bk, .inr (5, [.ref fa, .ref d, .ref mk, .ref gv, .ref td, .ref tp])), (fa, .inl (cF, 10, .inr (.inr (.inr (.inr g)))))])) 1 6 (va_A [(bk, .inr (5, [.ref fa, .ref d, .ref mk, .ref gv, .ref td, .ref tp])), (fa, .inl (cF, 10, .inr (.inr (.inr (.inr g)))))] sz) := by
  refine uBeginW uZ (by decide +kernel) (Nat.le_of_ble_eq_true rfl) ?_
  intro p e s m below meth c A ls H locs hHl hZ htab hx hb hr hts hown hlocks hml hin hA hP hK hD hN hS hlv hsz hD0
  obtain ⟨rfl, rfl⟩ := hHl
  have hlv : lv_has ls 8 [(0, .ref bk), (1, .int k), (2, .long x), (4, .long y), (6, .ref oa)] := hlv
  refine lv_aload hx hb d_PatternBookLaw_unpack_0 (lv_at hlv 4 rfl) ?_
  refine lv_iconst (v := 0) hx hb d_PatternBookLaw_unpack_2 (by decide) ?_
  refine lv_aload_n hx hb d_PatternBookLaw_unpack_3 rfl (lv_at hlv 0 rfl) ?_
  refine lv_iload_n hx hb d_PatternBookLaw_unpack_4 rfl (lv_at hlv 1 rfl) ?_
  refine lv_lload_n hx hb d_PatternBookLaw_unpack_5 rfl (lv_at hlv 2 rfl) ?_
  refine lv_lload hx hb d_PatternBookLaw_unpack_6 (lv_at hlv 3 rfl) ?_
  intro T hT X
  obtain ⟨v, U, X', st, ce, h1, h2, h3⟩ := uThrow X hT hx hb hml hown hts (C := R_PatternBook) (T_unpack l hl D bk fa d mk gv td tp cF s.heap.size g k x y hbad) (hts _ k_484) (hts _ k_485) (hts _ k_486) k_481 k_398 (n := 3) (by decide +kernel) rfl rfl ⟨Nat.le_of_ble_eq_true rfl, Nat.le_of_ble_eq_true rfl, Nat.le_of_ble_eq_true rfl, Nat.le_of_ble_eq_true rfl⟩ hK hP hD0 hN hZ [0, 1] rfl (by decide) [0] rfl (ci := 5) rfl rfl (q0 := 0) rfl (g := F0 m 8 ls [.long y, .long x, .int k, .ref bk, .int 0, .ref oa]) rfl rfl hlv.1 (rest := [.int 0, .ref oa]) rfl (lv_room (Nat.le_of_ble_eq_true rfl)) d_PatternBookLaw_unpack_8
  refine uCatch X' htab (by decide) (by decide) hown (hts _ k_487) hN st h1 h2 h3 ?_
  have hS' : va_S A s.heap U.heap [] := S_of_same X'.same
  have hP' : va_P D classes [(bk, .inr (5, [.ref fa, .ref d, .ref mk, .ref gv, .ref td, .ref tp])), (fa, .inl (cF, 10, .inr (.inr (.inr (.inr g)))))] U.heap := hP.kept (fun k x hx => hS'.2.1 x.1 ((hP k x hx).lt) |> fun hh => kept_of_same X'.same x.1 ((hP k x hx).lt))
  refine lv_astore (lv' := [(7, .ref v), (0, .ref bk), (1, .int k), (2, .long x), (4, .long y), (6, .ref oa)]) hx hb d_PatternBookLaw_unpack_16 hlv (by decide) rfl (fun ls hl => ?_)
  refine lv_iconst (v := 1) hx hb d_PatternBookLaw_unpack_18 (by decide) ?_
  refine W.iret (v := 1) hx hb hr ?_ hS'.2.2 d_PatternBookLaw_unpack_19
  exact uEnd () hP' hK hD hS' trivial rfl
set_option maxHeartbeats 4000000 in
theorem LT_canonical (l : Launch) (hl : l.stackTraces = false) (D : va_G) (bk fa d mk gv td tp oa : Nat) (cF : ClassId) (sz : Nat) (g : Nat → Option Nat) (k : Int32) (x y : Int64) (hbad : k < 0 ∨ (10:Int32) ≤ k) : Met l y_PatternBookLaw_canonical (wsOfW y_PatternBookLaw_canonical b_PatternBookLaw_canonical 8 (some .int) [(0, 20, 23, 13)]) { frames := 8, cells := 1, slots := 6, locals := 150 } (uPT D classes [(bk, .inr (5, [.ref fa, .ref d, .ref mk, .ref gv, .ref td, .ref tp])), (fa, .inl (cF, 10, .inr (.inr (.inr (.inr g)))))] [(cF, .object "PatternBook$Format")] sz [.ref bk, .int k, .long x, .long y, .ref oa]) (uQ D classes (fun _ : Unit => some (.int 1)) (fun _ => True) (va_A [(bk, .inr (5, [.ref fa, .ref d, .ref mk, .ref gv, .ref td, .ref tp])), (fa, .inl (cF, 10, .inr (.inr (.inr (.inr g)))))] sz) (fun _ => [(cF, .object "PatternBook$Format")]) (fun _ => [(bk, .inr (5, [.ref fa, .ref d, .ref mk, .ref gv, .ref td, .ref tp])), (fa, .inl (cF, 10, .inr (.inr (.inr (.inr g)))))])) 1 6 (va_A [(bk, .inr (5, [.ref fa, .ref d, .ref mk, .ref gv, .ref td, .ref tp])), (fa, .inl (cF, 10, .inr (.inr (.inr (.inr g)))))] sz) := by
  refine uBeginW uZ (by decide +kernel) (Nat.le_of_ble_eq_true rfl) ?_
  intro p e s m below meth c A ls H locs hHl hZ htab hx hb hr hts hown hlocks hml hin hA hP hK hD hN hS hlv hsz hD0
  obtain ⟨rfl, rfl⟩ := hHl
  have hlv : lv_has ls 8 [(0, .ref bk), (1, .int k), (2, .long x), (4, .long y), (6, .ref oa)] := hlv
  refine lv_aload hx hb d_PatternBookLaw_canonical_0 (lv_at hlv 4 rfl) ?_
  refine lv_iconst (v := 0) hx hb d_PatternBookLaw_canonical_2 (by decide) ?_
  refine lv_aload_n hx hb d_PatternBookLaw_canonical_3 rfl (lv_at hlv 0 rfl) ?_
  refine lv_iload_n hx hb d_PatternBookLaw_canonical_4 rfl (lv_at hlv 1 rfl) ?_
  refine lv_lload_n hx hb d_PatternBookLaw_canonical_5 rfl (lv_at hlv 2 rfl) ?_
  refine lv_lload hx hb d_PatternBookLaw_canonical_6 (lv_at hlv 3 rfl) ?_
  intro T hT X
  obtain ⟨v, U, X', st, ce, h1, h2, h3⟩ := uThrow X hT hx hb hml hown hts (C := R_PatternBook) (T_canonical l hl D bk fa d mk gv td tp cF s.heap.size g k x y hbad) (hts _ k_488) (hts _ k_489) (hts _ k_490) k_482 k_398 (n := 3) (by decide +kernel) rfl rfl ⟨Nat.le_of_ble_eq_true rfl, Nat.le_of_ble_eq_true rfl, Nat.le_of_ble_eq_true rfl, Nat.le_of_ble_eq_true rfl⟩ hK hP hD0 hN hZ [0, 1] rfl (by decide) [0] rfl (ci := 5) rfl rfl (q0 := 0) rfl (g := F0 m 8 ls [.long y, .long x, .int k, .ref bk, .int 0, .ref oa]) rfl rfl hlv.1 (rest := [.int 0, .ref oa]) rfl (lv_room (Nat.le_of_ble_eq_true rfl)) d_PatternBookLaw_canonical_8
  refine uCatch X' htab (by decide) (by decide) hown (hts _ k_487) hN st h1 h2 h3 ?_
  have hS' : va_S A s.heap U.heap [] := S_of_same X'.same
  have hP' : va_P D classes [(bk, .inr (5, [.ref fa, .ref d, .ref mk, .ref gv, .ref td, .ref tp])), (fa, .inl (cF, 10, .inr (.inr (.inr (.inr g)))))] U.heap := hP.kept (fun k x hx => hS'.2.1 x.1 ((hP k x hx).lt) |> fun hh => kept_of_same X'.same x.1 ((hP k x hx).lt))
  refine lv_astore (lv' := [(7, .ref v), (0, .ref bk), (1, .int k), (2, .long x), (4, .long y), (6, .ref oa)]) hx hb d_PatternBookLaw_canonical_23 hlv (by decide) rfl (fun ls hl => ?_)
  refine lv_iconst (v := 1) hx hb d_PatternBookLaw_canonical_25 (by decide) ?_
  refine W.iret (v := 1) hx hb hr ?_ hS'.2.2 d_PatternBookLaw_canonical_26
  exact uEnd () hP' hK hD hS' trivial rfl
set_option maxHeartbeats 4000000 in
theorem LT_pack (l : Launch) (hl : l.stackTraces = false) (D : va_G) (bk fa d mk gv td tp oa : Nat) (cF : ClassId) (sz : Nat) (g : Nat → Option Nat) (k : Int32) (hbad : k < 0 ∨ (10:Int32) ≤ k) : Met l y_PatternBookLaw_pack (wsOfW y_PatternBookLaw_pack b_PatternBookLaw_pack 4 (some .int) [(0, 16, 19, 13)]) { frames := 8, cells := 1, slots := 6, locals := 150 } (uPT D classes [(bk, .inr (5, [.ref fa, .ref d, .ref mk, .ref gv, .ref td, .ref tp])), (fa, .inl (cF, 10, .inr (.inr (.inr (.inr g)))))] [(cF, .object "PatternBook$Format")] sz [.ref bk, .int k, .ref oa]) (uQ D classes (fun _ : Unit => some (.int 1)) (fun _ => True) (va_A [(bk, .inr (5, [.ref fa, .ref d, .ref mk, .ref gv, .ref td, .ref tp])), (fa, .inl (cF, 10, .inr (.inr (.inr (.inr g)))))] sz) (fun _ => [(cF, .object "PatternBook$Format")]) (fun _ => [(bk, .inr (5, [.ref fa, .ref d, .ref mk, .ref gv, .ref td, .ref tp])), (fa, .inl (cF, 10, .inr (.inr (.inr (.inr g)))))])) 1 6 (va_A [(bk, .inr (5, [.ref fa, .ref d, .ref mk, .ref gv, .ref td, .ref tp])), (fa, .inl (cF, 10, .inr (.inr (.inr (.inr g)))))] sz) := by
  refine uBeginW uZ (by decide +kernel) (Nat.le_of_ble_eq_true rfl) ?_
  intro p e s m below meth c A ls H locs hHl hZ htab hx hb hr hts hown hlocks hml hin hA hP hK hD hN hS hlv hsz hD0
  obtain ⟨rfl, rfl⟩ := hHl
  have hlv : lv_has ls 4 [(0, .ref bk), (1, .int k), (2, .ref oa)] := hlv
  refine lv_aload_n hx hb d_PatternBookLaw_pack_0 rfl (lv_at hlv 2 rfl) ?_
  refine lv_iconst (v := 0) hx hb d_PatternBookLaw_pack_1 (by decide) ?_
  refine lv_aload_n hx hb d_PatternBookLaw_pack_2 rfl (lv_at hlv 0 rfl) ?_
  refine lv_iload_n hx hb d_PatternBookLaw_pack_3 rfl (lv_at hlv 1 rfl) ?_
  intro T hT X
  obtain ⟨v, U, X', st, ce, h1, h2, h3⟩ := uThrow X hT hx hb hml hown hts (C := R_PatternBook) (T_pack l hl D bk fa d mk gv td tp cF s.heap.size g k hbad) (hts _ k_491) (hts _ k_492) (hts _ k_493) k_483 k_398 (n := 1) (by decide +kernel) rfl rfl ⟨Nat.le_of_ble_eq_true rfl, Nat.le_of_ble_eq_true rfl, Nat.le_of_ble_eq_true rfl, Nat.le_of_ble_eq_true rfl⟩ hK hP hD0 hN hZ [0, 1] rfl (by decide) [0] rfl (ci := 5) rfl rfl (q0 := 0) rfl (g := F0 m 4 ls [.int k, .ref bk, .int 0, .ref oa]) rfl rfl hlv.1 (rest := [.int 0, .ref oa]) rfl (lv_room (Nat.le_of_ble_eq_true rfl)) d_PatternBookLaw_pack_4
  refine uCatch X' htab (by decide) (by decide) hown (hts _ k_487) hN st h1 h2 h3 ?_
  have hS' : va_S A s.heap U.heap [] := S_of_same X'.same
  have hP' : va_P D classes [(bk, .inr (5, [.ref fa, .ref d, .ref mk, .ref gv, .ref td, .ref tp])), (fa, .inl (cF, 10, .inr (.inr (.inr (.inr g)))))] U.heap := hP.kept (fun k x hx => hS'.2.1 x.1 ((hP k x hx).lt) |> fun hh => kept_of_same X'.same x.1 ((hP k x hx).lt))
  refine lv_astore_n (lv' := [(3, .ref v), (0, .ref bk), (1, .int k), (2, .ref oa)]) hx hb d_PatternBookLaw_pack_19 rfl hlv (by decide) rfl (fun ls hl => ?_)
  refine lv_iconst (v := 1) hx hb d_PatternBookLaw_pack_20 (by decide) ?_
  refine W.iret (v := 1) hx hb hr ?_ hS'.2.2 d_PatternBookLaw_pack_21
  exact uEnd () hP' hK hD hS' trivial rfl
/-! invokestatic of a method with an exception table -/
section CSW
variable {p : Program} {l : Launch} {e : Env} {R : Room} {s : State} {m : MethodId} {args : Array Value} {below : List Frame} {meth : Method} {c : Code} {T : State} {H : Heap} {locs : List Loc} {cells slots : Nat}
theorem callSW (X : Stand p l e R s m args below meth c T locs cells slots) (hexec : p.tables.exec = Jvm.exec) {own : String} {index : Nat} {y : MethodName} {bytes : ByteArray} {maxL : Nat} {ret : Option FieldType} {hh : List (Nat × Nat × Nat × Nat)}
    (hown : s.vm.findClass own = some m.cls) (hlink : (Cond.methodLink own index y).before args s = true) (hstat : (Cond.static y).before args s = true) (hinit : (Cond.initialized y.cls).before args s = true)
    (hcode : (Cond.codeWith y bytes maxL ret hh).before args s = true) (hy : y.cls ≠ "java/lang/invoke/MethodHandle" ∧ y.cls ≠ "java/lang/invoke/VarHandle")
    {W : Nat} {Pre : Pt → Array Value → Prop} {Post : Pt → Array Value → Option Value → Pt → Prop} (hK : Back l R p e below s args y 3 W Pre Post)
    {g : JFrame} (hg : g.method = m) (hsize : g.locals.size = c.maxLocals) {argsL rest : List Value} (hlen : ∀ sig, parseMethodDescriptor y.desc = some sig → argsL.length = sig.parameters.length)
    (hstack : g.stack = argsL.reverse ++ rest) (hW : 2 * g.monitorRoom + (rest.map fun v => v.category).sum ≤ W) (hdg : decode c.code g.pc = .ok (.invokestatic index, 3))
    (hpre : ∀ vm₁, s.WarmedH vm₁ → Pre ⟨T.setVm vm₁, locs, cells, slots⟩ argsL.toArray) :
    ∃ (v : Option Value) (vm₁ : Vm) (B : Pt), s.WarmedH vm₁ ∧ Stand p l e R s m args below meth c B.U B.locs B.cells B.slots ∧ Post ⟨T.setVm vm₁, locs, cells, slots⟩ argsL.toArray v B ∧
      ∀ target, Steps p.tables e below (B.U.setTop { g with pc := g.pc + 3, stack := v.toList ++ rest }) target → Steps p.tables e below (T.setTop g) target := by
  obtain ⟨mk, methM, cM, hnamed, hmethM, -, -, -, -, -, -, hsigM⟩ := Cond.codeWith_spec hcode
  have hstatic : methM.isStatic = true := Cond.static_spec hnamed hmethM hstat
  obtain ⟨kP, hkP, -⟩ := className_of_methodNamed hnamed
  have hinitP : kP.init = .initialized := Cond.initialized_spec (findClass_of_methodNamed hnamed) hkP hinit
  obtain ⟨vm₁, X₁, hstep₁⟩ := X.invokestatic hexec hown hlink hnamed hmethM hstatic hkP hinitP hy (g := g) hg (argsL := argsL) (rest := rest) (hlen _ hsigM) hstack hdg
  obtain ⟨v, B, X', hpost, hsteps⟩ := hK m meth c ⟨T.setVm vm₁, locs, cells, slots⟩ { g with stack := rest } (.invokestatic index) mk argsL.toArray X₁ hg hsize hdg hW (X₁.named hnamed) (hpre vm₁ X₁.warmed)
  exact ⟨v, vm₁, B, X₁.warmed, X', hpost, fun target h => hstep₁ _ fun acts => by rw [doInvoke_state]; exact hsteps.trans h⟩
theorem uRunSW {Ts : List Cond} {cc : ByteArray} {nL mc ms n index : Nat} {own : String} {y : MethodName} {bytes : ByteArray} {maxL : Nat} {ret : Option FieldType} {hh : List (Nat × Nat × Nat × Nat)} {rm : Room} {Pc : Array Value → State → Prop} {Qc : Array Value → State → Outcome → State → Prop} {free : Addr → Prop} {As rest : List Value} {g : JFrame}
    (S : CallFix p m c cc nL s args Ts own) (hts : ∀ w ∈ wt, w.before args s = true) (hM : Met l y (wsOfW y bytes maxL ret hh) rm Pc Qc mc ms free) (hc : Cond.codeWith y bytes maxL ret hh ∈ wt) (hi : Cond.initialized y.cls ∈ wt) (hl : Cond.methodLink own index y ∈ wt) (hst : Cond.static y ∈ wt) (hd : y.cls ≠ "java/lang/invoke/MethodHandle" ∧ y.cls ≠ "java/lang/invoke/VarHandle" ∧ (parseMethodDescriptor y.desc).map (fun d => d.parameters.length) = some n) (hrc : rm.cells = mc) (hrs : rm.slots = ms) (hR : rm.frames + 1 ≤ R.frames ∧ 8 + (maxL + 11) + rm.locals ≤ R.locals) (hp : PreS s H Pc As)
    (hg : g.method = m) (hn : As.length = n) (hsize : g.locals.size = nL) (hstack : g.stack = As.reverse ++ rest) (hW : 2 * g.monitorRoom + (rest.map fun v => v.category).sum ≤ 8) (hdg : decode cc g.pc = .ok (.invokestatic index, 3)) (hf : cells + mc ≤ R.cells ∧ slots + ms ≤ R.slots) :
    va_Run p l e R s m args below meth c H locs cells slots mc ms g rest (Qc As.toArray) (free) := by
  have hG := lw_goodW hc
  have hK : Back l R p e below s args y 3 8 (PreOf R mc ms Pc) (PostOf Qc mc ms free) := va_backW (hh := hh) (bytes := bytes) (maxL := maxL) (ret := ret) hM hp.1 hrc hrs hR.1 hR.2 (pay_in hts hG) List.mem_cons_self (fun a' U hW => word_at hW (Or.inl (by first | rfl | simp [Cond.onTables, Cond.keeps, Cond.steady])) (hts _ hi))
  obtain ⟨hx, hb, hml, ho, -⟩ := S
  intro T hT X
  obtain ⟨v, vm₁, ⟨U', l2, c2, s2⟩, hW₁, X', ⟨g', mk, t, L, e1, e2, hq, h1, hL, h2, h3⟩, st⟩ := callSW X hx (hh := hh) (bytes := bytes) (maxL := maxL) (ret := ret) ho (hts _ hl) (hts _ hst) (hts _ hi) (hts _ hc) ⟨hd.1, hd.2.1⟩ hK hg (hsize.trans hml.symm) (argsL := As) (rest := rest) (fun sig h => by
      have h2 := hd.2.2
      rw [h] at h2
      rw [hn]; exact (Option.some.inj h2).symm) hstack hW (by rw [hb]; exact hdg)
    (fun vm₁ hW₁ => ⟨hf.1, hf.2, hp.2 (T.setVm vm₁) hT hW₁⟩)
  dsimp only [Pt.U, Pt.locs, Pt.cells, Pt.slots] at X' e1 e2 h1 h2 h3 st
  subst h1; subst h2; subst h3
  exact ⟨v, (T.setVm vm₁).calling g' mk As.toArray, t, U', L, hT, X', hL, e1, e2, hq, st⟩
end CSW

