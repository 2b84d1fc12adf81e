/-! a format that is none of the ten: what is thrown on that road -/
def zNames : List String := ["java/lang/RuntimeException", "java/lang/Exception"]
def zW : List Cond := Bundle.ownAtoms "PatternBook" 106 R_java_lang_IndexOutOfBoundsException zNames
/-- the cells of the classes' static fields stand as they stood -/
def zStay (s U : State) : Prop := ∀ (q : Addr) (ce : Cell), s.heap[q]? = some ce → ce.vm.isStatics = true → U.heap[q]? = some ce
/-- what a word that a static field is laid says of both states at once -/
theorem z_both {s U : State} (hA : s.vm.Alike U.vm) (hS : zStay s U) {o n d : String} {a : Array Value} (h : (Cond.laysStatic o n d).before a s = true) :
    ∃ (i : ClassId) (k k' : Class) (j : Nat) (f : Field) (q : Addr) (ce : Cell), s.vm.findClass o = some i ∧ s.fieldFound? o n d = some (i, k, j, f) ∧ U.fieldFound? o n d = some (i, k', j, f) ∧ f.isStatic = true ∧ k.statics = some q ∧ k'.statics = some q ∧
      s.heap[q]? = some ce ∧ U.heap[q]? = some ce ∧ ce.vm.isStatics = true ∧ ce.cls = i ∧ f.slot < ce.slots.size ∧ k'.staticTypes[f.slot]? = some f.type := by
  obtain ⟨i, k, j, f, q, ce, w1, w2, w3, w4, w5, w6, w7, w8, w9⟩ := Cond.laysStatic_spec h
  obtain ⟨k', x1, x2⟩ := State.fieldFound?_setVm hA w2
  have y1 : k'.statics = some q := by rw [x2]; exact w4
  have y2 : k'.staticTypes[f.slot]? = some f.type := by rw [x2]; exact w9
  exact ⟨i, k, k', j, f, q, ce, w1, w2, x1, w3, w4, y1, w5, hS q ce w5 w6, w6, w7, w8, y2⟩
theorem z_val {s : State} {o n d : String} {i : ClassId} {k : Class} {j : Nat} {f : Field} {q : Addr} {ce : Cell} (h1 : s.fieldFound? o n d = some (i, k, j, f)) (h2 : f.isStatic = true) (h3 : k.statics = some q) (h4 : s.heap[q]? = some ce) (h5 : ce.vm.isStatics = true) (a : Array Value) :
    (Term.static o n d).eval a s none [] s = ce.slots[f.slot]? := by
  simp [Term.eval, State.fieldNamed?, h1, h2, h3, h4, h5]
/-- a word of this list speaks of the tables, or of a static field that the list says is laid -/
def zKind : Cond → Bool
  | .laysStatic _ _ _ => true
  | .isRef (.static o n d) => decide (Cond.laysStatic o n d ∈ zW)
  | w => w.tabsOnly
theorem zW_kind : ∀ w ∈ zW, zKind w = true := by decide +kernel
theorem z_move {s U : State} (hW : s.WarmedH U.vm) (hS : zStay s U) {a a' : Array Value} (h : ∀ w ∈ zW, w.before a s = true) : ∀ w ∈ zW, w.before a' U = true := by
  intro w hw
  have hb := h w hw
  have hz := zW_kind w hw
  unfold zKind at hz
  split at hz
  · obtain ⟨i, k, k', j, f, q, ce, c1, c2, c3, c4, c5, c6, c7, c8, c9, d1, d2, d3⟩ := z_both hW.alike hS hb
    exact Cond.laysStatic_of (by rw [hW.alike.findClass]; exact c1) c3 c4 c6 c8 c9 d1 d2 d3
  · obtain ⟨i, k, k', j, f, q, ce, c1, c2, c3, c4, c5, c6, c7, c8, c9, d1, d2, d3⟩ := z_both hW.alike hS (h _ (of_decide_eq_true hz))
    have e1 := z_val c2 c4 c5 c7 c9 a
    have e2 := z_val c3 c4 c6 c8 c9 a'
    simp only [Cond.before, Cond.holds, Cond.value, e1, e2] at hb ⊢
    exact hb
  · have hu : U.setVm U.vm = U := rfl
    rw [← hu]
    exact Cond.tabsOnly_warm hW w hz hb
def uZ (U : State) : Prop := (∀ w ∈ zW, w.before #[] U = true) ∧ ∃ q, vk_R "PatternBook" 104 "no such format" q U
theorem uZ.ride {s U : State} (hW : s.WarmedH U.vm) (hk : zStay s U) (h : uZ s) : uZ U := ⟨z_move hW hk h.1, h.2.elim fun q hq => ⟨q, vk_R.warm hW hq⟩⟩
theorem uZ.any {s : State} (h : uZ s) (a : Array Value) : ∀ w ∈ zW, w.before a s = true := z_move (State.WarmedH.refl s) (fun _ _ hy _ => hy) h.1
def uPT (D : va_G) (cl : List vw_C) (WS : va_W) (TY : List (ClassId × FieldType)) (sz : Nat) (av : List Value) : Array Value → State → Prop :=
  va_Pc av (fun U => U.heap.size = sz ∧ va_P D cl WS U.heap ∧ va_K D cl TY U ∧ va_D (fun _ => True) WS ∧ uN U ∧ uZ U)
theorem uPT.blind {D : va_G} {cl : List vw_C} {WS : va_W} {TY : List (ClassId × FieldType)} {sz : Nat} {av : List Value} : FrameBlind (uPT D cl WS TY sz av) := by
  intro a U g mk q
  obtain ⟨q0, q1, qP, qK, qD, qN, qZ⟩ := q
  exact ⟨q0, q1, qP, va_K.moved (u := U) (U := U.calling g mk a) (Vm.Alike.refl U.vm) qK, qD, uN.vm (s := U) (U := U.calling g mk a) rfl qN, uZ.ride (s := U) (U := U.calling g mk a) (State.WarmedH.refl U) (fun _ _ h _ => h) qZ⟩
def QT (_ : Array Value) (st : State) (o : Outcome) (t : State) : Prop :=
  ∃ x, o = .threw x ∧ st.WarmedH t.vm ∧ st.sameButNew ({ t with vm := st.vm } : State) [] 1 6 ∧ ∃ ce, t.heap[x]? = some ce ∧ ce.vm = .none ∧ t.vm.findClass R_java_lang_IndexOutOfBoundsException = some ce.cls
def TMet (l : Launch) (y : MethodName) (ws : List Cond) (rm : Room) (Pc : Array Value → State → Prop) : Prop := MetFree l y (headSpec ws rm) Pc (fun _ _ _ _ _ => True) QT
/-- a walk's end where something is thrown -/
def TQ (below : List Frame) (a : Array Value) (s : State) : State → Prop := fun t => ∃ o, t.status = .running ∧ Ended t below o ∧ QT a s o t
theorem TMet.of {l : Launch} {y : MethodName} {ws ws' : List Cond} {rm : Room} {Pc : Array Value → State → Prop} {cc : ByteArray} {maxL : Nat} {ret : Option FieldType} (hy : plainFor y = true) (hw : ws = Cond.code y cc maxL ret :: ws')
    (body : ∀ p e s m args below meth c s₁, BodyLoose p l y (headSpec ws rm) cc maxL ret e s m args below meth c s₁ → c.maxLocals = maxL → Pc args s → c.exceptionTable.isEmpty = true →
      W p l e (headSpec ws rm).room s m args below meth c s.heap [] 0 0 (TQ below args s) (entryFrame m args maxL)) : TMet l y ws rm Pc := by
  refine MetFree.of_bodySF (code := cc) (maxLocals := maxL) (ret := ret) hy ?_ ?_
  · intro args s m h hn
    obtain ⟨meth, c, h1, h2, h3, h4, h5, h6, -, -⟩ := Cond.code_spec hn (atoms_spec (ws := ws) h _ (by rw [hw]; exact List.mem_cons_self))
    exact ⟨meth, c, h1, h2, h3, h4, h5, h6⟩
  · intro p e s m args below meth c s₁ B hml hP _
    have hh0 : s₁.heap = s.heap := by rw [B.state]; rfl
    have hex := B.noHandlers (atoms_spec (ws := ws) B.pre _ (by rw [hw]; exact List.mem_cons_self))
    obtain ⟨t, a1, o, b1, b2, b3⟩ := body p e s m args below meth c s₁ B hml hP hex s₁ hh0 (Stand.of_body B)
    exact ⟨t, o, a1, b1, b2, b3⟩
theorem no_rows {c : Code} (h : c.exceptionTable.isEmpty = true) {pc : Nat} : ∀ x ∈ c.exceptionTable.toList, covers x pc = false := by
  intro x hx
  rw [Array.isEmpty_iff.mp h] at hx
  cases hx
theorem blank_fresh (c : ClassId) (k : Class) : blank c k = freshCell c k := rfl
set_option maxHeartbeats 4000000 in
theorem throw13 {p : Program} {l : Launch} {e : Env} {R : Room} {s : State} {m : MethodId} {args : Array Value} {below : List Frame} {meth : Method} {c : Code} {ls : Array Slot} (hl : l.stackTraces = false) (hx : p.tables.exec = Jvm.exec) (hb : c.code = b_PatternBook_formatAt) (hts : ∀ w ∈ wt, w.before args s = true) (hown : s.vm.findClass R_PatternBook = some m.cls) (hlocks : meth.locks = false) (hex : c.exceptionTable.isEmpty = true) (hsize : ls.size = c.maxLocals) (hZ : uZ s) (hR : 6 ≤ R.frames ∧ 1 ≤ R.cells ∧ 6 ≤ R.slots ∧ 90 ≤ R.locals) : W p l e R s m args below meth c s.heap [] 0 0 (TQ below args s) (F0 m 13 ls []) := by
  obtain ⟨q, hq⟩ := hZ.2
  have hA := hZ.any args
  obtain ⟨cX, kX, hcX, hkX, -⟩ := Cond.instantiable_spec (hA (.instantiable R_java_lang_IndexOutOfBoundsException 6) (by decide +kernel))
  refine W.newcK hx hb hown (hts _ k_479) (hA (.instantiable R_java_lang_IndexOutOfBoundsException 6) (by decide +kernel)) (hts _ k_480) rfl d_PatternBook_formatAt_13 (by omega) (by omega) hcX rfl (fun H' kC hkC hcell hsz hold => ?_)
  refine W.eq (g2 := F0 m 16 ls [.ref s.heap.size]) rfl ?_
  refine lv_dup hx hb d_PatternBook_formatAt_16 rfl ?_
  refine va_ldcS hx hb hown hq d_PatternBook_formatAt_17 ?_
  intro T hT X
  obtain ⟨U, st, r1, r2, r3, r4, ce, h1, h2⟩ := X.ctorThrowS hx (by rw [X.admits.platform]; exact hl) (own := R_PatternBook) (cls := R_java_lang_IndexOutOfBoundsException) (names := zNames) (ic := 106) hown (by decide +kernel) (by decide +kernel) hA (fun x hx => by cases hx) hcX hkC (a := s.heap.size) (by rw [hT, hcell, blank_fresh]) (Nat.le_refl _) (msg := .ref q) rfl (g := F0 m 19 ls [.ref q, .ref s.heap.size, .ref s.heap.size]) rfl hsize rfl rfl (rest := []) rfl (by rw [hb]; exact d_PatternBook_formatAt_19) (by rw [hb]; exact d_PatternBook_formatAt_22) (no_rows hex) (by show 2 + 3 < _; omega) (by show 2 * 0 + 1 + (13 * 3 + 42) ≤ _; omega) hlocks
  exact ⟨U, st, .threw s.heap.size, r1, r2, s.heap.size, rfl, r3, r4, ce, h1, h2.vm, by rw [r3.alike.findClass]; exact h2.cls⟩
/-! the call of one that throws -/
/-- the caller's state with the callee's heap, book and tables -/
def zAfter (U t : State) : State := ({ U with heap := t.heap, slotsUsed := t.slotsUsed } : State).setVm t.vm
theorem zPush {p : Program} {l : Launch} {e : Env} {R : Room} {s : State} {m : MethodId} {args : Array Value} {below : List Frame} {meth : Method} {c : Code} {U : State} {locs : List Loc} {cells slots : Nat} (X : Stand p l e R s m args below meth c U locs cells slots) (g : JFrame) (v : Addr) :
    (U.setTop g).pushFrame (.throwing v) = U.setFrames (.throwing v :: .java g :: below) := by
  obtain ⟨g₀, h⟩ := X.frames_eq
  rw [State.pushFrame, State.frames_setTop g h, State.setTop_of_frames g h, State.setFrames_setFrames]
theorem zCall {p : Program} {l : Launch} {e : Env} {R : Room} {s : State} {m : MethodId} {args : Array Value} {below : List Frame} {meth : Method} {c : Code} {U : State} (X : Stand p l e R s m args below meth c U [] 0 0)
    {y : MethodName} {ws : List Cond} {rm : Room} {Pc : Array Value → State → Prop} (hM : TMet l y ws rm Pc) {mk : MethodId} (hn : U.methodNamed? y = some mk) {a : Array Value} {bytes : ByteArray} {maxL : Nat} {ret : Option FieldType}
    (hpre : (headSpec ws rm).pre.before a U = true) (hcode : (Cond.code y bytes maxL ret).before a U = true) (hi : (Cond.initialized y.cls).before a U = true)
    {g : JFrame} (hg : g.method = m) (hsize : g.locals.size = c.maxLocals) {ig : Instr} {len : Nat} (hdg : decode c.code g.pc = .ok (ig, len)) (hF : rm.frames + 1 ≤ R.frames) (hL : 2 * g.monitorRoom + (g.stack.map fun v => v.category).sum + (maxL + 11) + rm.locals ≤ R.locals) (hC : rm.cells ≤ R.cells) (hS : rm.slots ≤ R.slots)
    (hP : Pc a (U.calling g mk a)) :
    ∃ (v : Addr) (V : State), Stand p l e R s m args below meth c V [] 1 6 ∧ Steps p.tables e below (doInvoke e (U.setTop g) [] mk a).1 ((V.setTop g).pushFrame (.throwing v)) ∧ ∃ ce, V.heap[v]? = some ce ∧ ce.vm = .none ∧ V.vm.findClass R_java_lang_IndexOutOfBoundsException = some ce.cls := by
  obtain ⟨g₀, hU⟩ := X.frames_eq
  obtain ⟨th, hth, -⟩ := State.frames_cons hU
  have hAt : At U g.method c below := by rw [hg]; exact X.here
  obtain ⟨methY, cY, hmY, hcY, -, hlY, -, -, -, -⟩ := Cond.code_spec hn hcode
  obtain ⟨kY, hkY, -⟩ := className_of_methodNamed hn
  have hroom := X.room_calling (g := g) (m' := mk) (args' := a) (R' := (headSpec ws rm).room) hsize hmY hcY hF (by rw [hlY]; exact hL) (by show 0 + rm.cells ≤ _; omega) (by show 0 + rm.slots ≤ _; omega)
  have happ : (headSpec ws rm).appliesLoose y e.platform (U.calling g mk a) = true := Spec.appliesLoose_calling (g := g) hAt hdg hn hkY (Cond.initialized_spec (findClass_of_methodNamed hn) hkY hi) hroom hpre
  have hfr : (U.setTop g).frames = [.java g] ++ below := State.frames_setTop g hU
  obtain ⟨o, t, st, -, hend, hq⟩ := Steps.callFree hM p X.admits X.cas X.clock (acts := []) hfr happ hP trivial
  obtain ⟨x, rfl, hw, ⟨q1, q2, q3, q4, q5, q6⟩, ce, h1, h2, h3⟩ := hq
  have hf : t.frames = .throwing x :: .java g :: below := by
    have h9 : t.frames = .throwing x :: (U.setTop g).frames := hend
    rw [h9, hfr]; rfl
  have hwU : U.WarmedH t.vm := hw
  have e1 : t = (zAfter U t).setFrames t.frames := by
    have q7 := congrArg (fun z : State => z.setVm t.vm) q1
    have q8 : t = ({ (U.calling g mk a).setFrames t.frames with heap := t.heap, slotsUsed := t.slotsUsed } : State).setVm t.vm := q7
    refine q8.trans ?_
    rw [State.calling_eq X.here.top, State.setFrames_setFrames]
    rfl
  rw [hf] at e1
  have hsame : U.sameButNew ((zAfter U t).setVm U.vm) [] 1 6 := by
    refine ⟨?_, q2, q3, q4, q5, q6⟩
    show ({ U with heap := t.heap, slotsUsed := t.slotsUsed } : State) = { U.setFrames U.frames with heap := t.heap, slotsUsed := t.slotsUsed }
    rw [State.setFrames_self hth]
  have X' : Stand p l e R s m args below meth c (zAfter U t) [] 1 6 := X.moved (T₂ := zAfter U t) (l₂ := []) (c₂ := 1) (n₂ := 6) ((X.here.setHeapUsed t.heap t.slotsUsed).setVm hwU.alike) X.tail rfl rfl hwU hsame
  refine ⟨x, zAfter U t, X', ?_, ce, h1, h2, h3⟩
  rw [zPush X' g x, ← e1]
  exact st
/-- a call that throws, from a walk: at T, with the world WS of the callee still as it was -/
theorem uThrow {p : Program} {l : Launch} {e : Env} {R : Room} {s : State} {m : MethodId} {args : Array Value} {below : List Frame} {meth : Method} {c : Code} {T : State} (X : Stand p l e R s m args below meth c T [] 0 0) (hT : T.heap = s.heap) {cc : ByteArray} {nL : Nat} (hx : p.tables.exec = Jvm.exec) (hb : c.code = cc) (hml : c.maxLocals = nL) {own : String} (hown : s.vm.findClass own = some m.cls) (hts : ∀ w ∈ wt, w.before args s = true) {C : String} {index n : Nat} {y : MethodName} {bytes : ByteArray} {maxL : Nat} {ret : Option FieldType} {rm : Room}
    {D : va_G} {cl : List vw_C} {WS CW : va_W} {TY CT : List (ClassId × FieldType)} {As rest : List Value} {b ci q0 : Nat} {q : vw_C} {fs : List Value}
    (hM : TMet l y (wsOf y bytes maxL ret) rm (uPT D cl CW CT s.heap.size (.ref b :: As))) (hlink : (Cond.methodLink own index y).before args s = true) (hsel : (Cond.selects C y y).before args s = true) (hinst : (Cond.instanceMethod y).before args s = true) (hc : Cond.code y bytes maxL ret ∈ wt) (hi : Cond.initialized y.cls ∈ wt)
    (hd : y.cls ≠ "java/lang/invoke/MethodHandle" ∧ y.cls ≠ "java/lang/invoke/VarHandle" ∧ (parseMethodDescriptor y.desc).map (fun d => d.parameters.length) = some n) (hrc : rm.cells = 1) (hrs : rm.slots = 6) (hR : rm.frames + 1 ≤ R.frames ∧ 8 + (maxL + 11) + rm.locals ≤ R.locals ∧ 1 ≤ R.cells ∧ 6 ≤ R.slots)
    (hK : va_K D cl TY s) (hP : va_P D cl WS s.heap) (hD : va_D (fun _ => True) WS) (hN : uN s) (hZ : uZ s) (is : List Nat) (hC : is.map (fun i => WS[i]?) = CW.map some) (hn : va_nd is = true) (it : List Nat) (hTy : it.filterMap (fun i => TY[i]?) = CT) (hcl : cl[ci]? = some q) (hq1 : q.1 = C) (he : WS[q0]? = some (b, .inr (ci, fs)))
    {g : JFrame} (hg : g.method = m) (hlen : As.length = n) (hsize : g.locals.size = nL) (hstack : g.stack = As.reverse ++ .ref b :: rest) (hW : 2 * g.monitorRoom + (rest.map fun v => v.category).sum ≤ 8) (hdg : decode cc g.pc = .ok (.invokevirtual index, 3)) :
    ∃ (v : Addr) (U : State), Stand p l e R s m args below meth c U [] 1 6 ∧ Steps p.tables e below (T.setTop g) ((U.setTop { g with stack := rest }).pushFrame (.throwing v)) ∧ ∃ ce, U.heap[v]? = some ce ∧ ce.vm = .none ∧ s.vm.findClass R_java_lang_IndexOutOfBoundsException = some ce.cls := by
  have hG := lw_good hc
  obtain ⟨cellB, hcB, hoB, hclB⟩ := va_recv hK hP hcl he
  rw [hq1] at hclB
  subst hb
  obtain ⟨mk, meY, n1, n2, n3, n4⟩ := Cond.instanceMethod_spec hinst
  obtain ⟨meY', cY, k1, -, -, -, -, -, -, k8⟩ := Cond.code_spec n1 (hts _ hc)
  cases n2.symm.trans k1
  obtain ⟨iC, r0, m2, s1, s2, s3, s4, kP, s5, s6⟩ := Cond.selects_spec hsel
  cases hclB.symm.trans s1
  cases (State.methodFound?_of_named n1 ⟨hd.1, hd.2.1⟩).symm.trans s2
  cases n1.symm.trans s3
  have hlen2 : As.length = meY.sig.parameters.length := by
    have h2 := hd.2.2
    rw [k8] at h2
    rw [hlen]; exact (Option.some.inj h2).symm
  obtain ⟨vm₁, X₁, go⟩ := X.invokevirtual hx hown hlink n1 n2 n3 s5 s6 ⟨hd.1, hd.2.1⟩ (a := b) (cell := cellB) (by rw [hT]; exact hcB) (VmData.ne_statics_of hoB) (by rw [Launch.admits_selectMethod X.admits]; exact s4) n2 n4 s5 s6 (g := g) hg (argsL := As) (rest := rest) hlen2 hstack hdg
  have hW₁ := X₁.warmed
  have hPc : uPT D cl CW CT s.heap.size (.ref b :: As) (Value.ref b :: As).toArray (T.setVm vm₁) :=
    ⟨rfl, by show T.heap.size = _; rw [hT], by show va_P D cl CW T.heap; rw [hT]; exact hP.sub is (fm_of_map is hC), va_K.moved (U := T.setVm vm₁) hW₁.alike (hK.sub it hTy), (hD.sub is hn hC).weaken (fun _ _ _ _ => trivial), uN.warm (U := T.setVm vm₁) hW₁ hN, uZ.ride (U := T.setVm vm₁) hW₁ (fun y cy hy _ => by show T.heap[y]? = _; rw [hT]; exact hy) hZ⟩
  obtain ⟨v, V, X', st, ce, h1, h2, h3⟩ := zCall X₁ hM (X₁.named n1) (bytes := bytes) (maxL := maxL) (ret := ret) (atoms_intro fun w hw => pay_in hts hG w hw _ _ hW₁) (pay_in hts hG _ List.mem_cons_self _ _ hW₁) (word_at hW₁ (Or.inl (by first | rfl | simp [Cond.onTables, Cond.keeps, Cond.steady])) (hts _ hi)) (g := { g with stack := rest }) hg (hsize.trans hml.symm) hdg hR.1 (Nat.le_trans (Nat.add_le_add_right (Nat.add_le_add_right hW _) _) hR.2.1) (by rw [hrc]; exact hR.2.2.1) (by rw [hrs]; exact hR.2.2.2) (uPT.blind _ _ _ _ hPc)
  refine ⟨v, V, X', (go _ fun acts => by rw [doInvoke_state]; exact Steps.refl _).trans st, ce, h1, h2, ?_⟩
  rw [← X'.warmed.alike.findClass]
  exact h3
theorem kept_of_same {s t : State} {k n : Nat} (h : s.sameButNew t [] k n) : ∀ a, a < s.heap.size → t.heap[a]? = s.heap[a]? := by
  intro a ha
  obtain ⟨-, -, -, -, -, h6⟩ := h
  have hc : s.heap[a]? = some s.heap[a] := Array.getElem?_eq_getElem ha
  obtain ⟨c', q1, q2, q3, q4⟩ := h6 a _ hc
  rw [q1, hc, q2]
  have : c'.slots = s.heap[a].slots := Array.ext q3 (fun i h1 h2 => by
    have := q4 i (by intro z; cases z)
    rw [Array.getElem?_eq_getElem h1, Array.getElem?_eq_getElem h2] at this
    exact Option.some.inj this)
  rw [this]
theorem uBeginT {l : Launch} {D : va_G} {cl : List vw_C} {WS : va_W} {TY : List (ClassId × FieldType)} {sz : Nat} {av : List Value} {y : MethodName} {cc : ByteArray} {maxL : Nat} {ret : Option FieldType} {rm : Room} (hy : plainFor y = true) (hlen : (lg_sl av).length ≤ maxL)
    (body : ∀ (p : Program) (e : Env) (s : State) (m : MethodId) (below : List Frame) (meth : Method) (c : Code) (ls : Array Slot), s.heap.size = sz → p.tables.exec = Jvm.exec → c.code = cc → (∀ w ∈ wt, w.before av.toArray s = true) → s.vm.findClass y.cls = some m.cls → meth.locks = false → c.maxLocals = maxL → c.exceptionTable.isEmpty = true → va_P D cl WS s.heap → va_K D cl TY s → va_D (fun _ => True) WS → uN s → uZ s → lv_has ls maxL (lv_args 0 av) →
      W p l e rm s m av.toArray below meth c s.heap [] 0 0 (TQ below av.toArray s) (F0 m 0 ls [])) :
    TMet l y (wsOf y cc maxL ret) rm (uPT D cl WS TY sz av) := by
  refine TMet.of (cc := cc) (maxL := maxL) (ret := ret) hy rfl ?_
  intro p e s m args below meth c s₁ B hml hv hex
  obtain ⟨rfl, hsz, hP, hK, hD0, hN, hZ⟩ := hv
  have hts := atoms_spec (ws := wsOf y cc maxL ret) B.pre
  rw [lg_entry_eq]
  exact body p e s m below meth c _ hsz B.exec B.bytes (fun w h => hts w (List.mem_cons_of_mem _ h)) (findClass_of_methodNamed B.named) B.notSynchronized hml hex hP hK hD0 hN hZ (lv_entry av hlen)
set_option maxHeartbeats 4000000 in
theorem T_formatAt (l : Launch) (hl : l.stackTraces = false) (D : va_G) (bk fa d mk gv td tp : Nat) (cF : ClassId) (sz : Nat) (g : Nat → Option Nat) (k : Int32) (hbad : k < 0 ∨ (10:Int32) ≤ k) : TMet l y_PatternBook_formatAt (wsOf y_PatternBook_formatAt b_PatternBook_formatAt 2 (some (.object "PatternBook$Format"))) { frames := 6, cells := 1, slots := 6, locals := 90 } (uPT D classes [(bk, .inr (5, [.ref fa, .ref d, .ref mk, .ref gv, .ref td, .ref tp])), (fa, .inl (cF, 10, .inr (.inr (.inr (.inr g)))))] [(cF, .object "PatternBook$Format")] sz [.ref bk, .int k]) := by
  refine uBeginT (by decide +kernel) (Nat.le_of_ble_eq_true rfl) ?_
  intro p e s m below meth c ls hsz hx hb hts hown hlocks hml hex hP hK hD hN hZ hlv
  have hlv : lv_has ls 2 [(0, .ref bk), (1, .int k)] := hlv
  have T13 : W p l e { frames := 6, cells := 1, slots := 6, locals := 90 } s m ([.ref bk, .int k] : List Value).toArray below meth c s.heap [] 0 0 (TQ below ([.ref bk, .int k] : List Value).toArray s) (F0 m 13 ls []) := throw13 hl hx hb hts hown hlocks hex (hlv.1.trans hml.symm) hZ ⟨Nat.le_refl _, Nat.le_refl _, Nat.le_refl _, Nat.le_refl _⟩
  refine lv_iload_n hx hb d_PatternBook_formatAt_0 rfl (lv_at hlv 1 rfl) ?_
  refine lv_if_lt (tgt := 13) hx hb d_PatternBook_formatAt_1 (by decide) (fun c_1 => ?_) (fun c_1 => ?_)
  · exact T13
  · refine lv_iload_n hx hb d_PatternBook_formatAt_4 rfl (lv_at hlv 1 rfl) ?_
    refine lv_aload_n hx hb d_PatternBook_formatAt_5 rfl (lv_at hlv 0 rfl) ?_
    refine va_get (D := D) (ci := 5) (v := .ref fa) (C := R_PatternBook) (T := F_PatternBook) (N := 6) hx hb hts i_PatternBook hown hK hP 0 rfl rfl 0 (by decide) (hts _ k_396) (fun _ h9 => h9) rfl d_PatternBook_formatAt_6 ?_
    refine va_alen hx hb hK hP 1 0 rfl rfl (v := 10) rfl d_PatternBook_formatAt_9 ?_
    refine lv_icmp_lt (tgt := 23) hx hb d_PatternBook_formatAt_10 (by decide) (fun c_2 => ?_) (fun c_2 => ?_)
    · exact absurd c_2 (Int32.not_lt.mpr (hbad.resolve_left c_1))
    · exact T13
/-- a method whose first call throws: it throws on -/
theorem uPass {p : Program} {l : Launch} {e : Env} {R : Room} {s : State} {m : MethodId} {args : Array Value} {below : List Frame} {meth : Method} {c : Code} {T U : State} {g : JFrame} {rest : List Value} {v : Addr} (X : Stand p l e R s m args below meth c U [] 1 6) (hg : g.method = m) (h1 : g.locked = none) (h2 : g.entered = []) (hex : c.exceptionTable.isEmpty = true) (hlocks : meth.locks = false) (st : Steps p.tables e below (T.setTop g) ((U.setTop { g with stack := rest }).pushFrame (.throwing v))) {ce : Cell} (hc : U.heap[v]? = some ce) (hv : ce.vm = .none) (hf : s.vm.findClass R_java_lang_IndexOutOfBoundsException = some ce.cls) : ∃ t, Steps p.tables e below (T.setTop g) t ∧ TQ below args s t := by
  obtain ⟨st2, r1, r2, r3, r4⟩ := X.leaveThrown v (g := { g with stack := rest }) hg h1 h2 (no_rows hex) hlocks
  exact ⟨_, st.trans st2, .threw v, r1, r2, v, rfl, r3, r4, ce, hc, hv, by rw [r3.alike.findClass]; exact hf⟩
set_option maxHeartbeats 4000000 in
theorem T_unpack (l : Launch) (hl : l.stackTraces = false) (D : va_G) (bk fa d mk gv td tp : Nat) (cF : ClassId) (sz : Nat) (g : Nat → Option Nat) (k : Int32) (x y : Int64) (hbad : k < 0 ∨ (10:Int32) ≤ k) : TMet l y_PatternBook_unpack (wsOf y_PatternBook_unpack b_PatternBook_unpack 7 (some .int)) { frames := 7, cells := 1, slots := 6, locals := 120 } (uPT D classes [(bk, .inr (5, [.ref fa, .ref d, .ref mk, .ref gv, .ref td, .ref tp])), (fa, .inl (cF, 10, .inr (.inr (.inr (.inr g)))))] [(cF, .object "PatternBook$Format")] sz [.ref bk, .int k, .long x, .long y]) := by
  refine uBeginT (by decide +kernel) (Nat.le_of_ble_eq_true rfl) ?_
  intro p e s m below meth c ls hsz hx hb hts hown hlocks hml hex hP hK hD hN hZ hlv
  have hlv : lv_has ls 7 [(0, .ref bk), (1, .int k), (2, .long x), (4, .long y)] := hlv
  refine lv_aload_n hx hb d_PatternBook_unpack_0 rfl (lv_at hlv 0 rfl) ?_
  refine lv_iload_n hx hb d_PatternBook_unpack_1 rfl (lv_at hlv 1 rfl) ?_
  intro T hT X
  obtain ⟨v, U, X', st, ce, h1, h2, h3⟩ := uThrow X hT hx hb hml hown hts (C := R_PatternBook) (T_formatAt l hl D bk fa d mk gv td tp cF s.heap.size g k hbad) (hts _ k_399) (hts _ k_401) (hts _ k_400) k_397 k_398 (n := 1) (by decide +kernel) rfl rfl ⟨Nat.le_of_ble_eq_true rfl, Nat.le_of_ble_eq_true rfl, Nat.le_of_ble_eq_true rfl, Nat.le_of_ble_eq_true rfl⟩ hK hP hD hN hZ [0, 1] rfl (by decide) [0] rfl (ci := 5) rfl rfl (q0 := 0) rfl (g := F0 m 2 ls [.int k, .ref bk]) rfl rfl hlv.1 (rest := []) rfl (lv_room (Nat.le_of_ble_eq_true rfl)) d_PatternBook_unpack_2
  exact uPass X' rfl rfl rfl hex hlocks st h1 h2 h3
set_option maxHeartbeats 4000000 in
theorem T_canonical (l : Launch) (hl : l.stackTraces = false) (D : va_G) (bk fa d mk gv td tp : Nat) (cF : ClassId) (sz : Nat) (g : Nat → Option Nat) (k : Int32) (x y : Int64) (hbad : k < 0 ∨ (10:Int32) ≤ k) : TMet l y_PatternBook_canonical (wsOf y_PatternBook_canonical b_PatternBook_canonical 7 (some .boolean)) { frames := 7, cells := 1, slots := 6, locals := 120 } (uPT D classes [(bk, .inr (5, [.ref fa, .ref d, .ref mk, .ref gv, .ref td, .ref tp])), (fa, .inl (cF, 10, .inr (.inr (.inr (.inr g)))))] [(cF, .object "PatternBook$Format")] sz [.ref bk, .int k, .long x, .long y]) := by
  refine uBeginT (by decide +kernel) (Nat.le_of_ble_eq_true rfl) ?_
  intro p e s m below meth c ls hsz hx hb hts hown hlocks hml hex hP hK hD hN hZ hlv
  have hlv : lv_has ls 7 [(0, .ref bk), (1, .int k), (2, .long x), (4, .long y)] := hlv
  refine lv_aload_n hx hb d_PatternBook_canonical_0 rfl (lv_at hlv 0 rfl) ?_
  refine lv_iload_n hx hb d_PatternBook_canonical_1 rfl (lv_at hlv 1 rfl) ?_
  intro T hT X
  obtain ⟨v, U, X', st, ce, h1, h2, h3⟩ := uThrow X hT hx hb hml hown hts (C := R_PatternBook) (T_formatAt l hl D bk fa d mk gv td tp cF s.heap.size g k hbad) (hts _ k_399) (hts _ k_401) (hts _ k_400) k_397 k_398 (n := 1) (by decide +kernel) rfl rfl ⟨Nat.le_of_ble_eq_true rfl, Nat.le_of_ble_eq_true rfl, Nat.le_of_ble_eq_true rfl, Nat.le_of_ble_eq_true rfl⟩ hK hP hD hN hZ [0, 1] rfl (by decide) [0] rfl (ci := 5) rfl rfl (q0 := 0) rfl (g := F0 m 2 ls [.int k, .ref bk]) rfl rfl hlv.1 (rest := []) rfl (lv_room (Nat.le_of_ble_eq_true rfl)) d_PatternBook_canonical_2
  exact uPass X' rfl rfl rfl hex hlocks st h1 h2 h3
set_option maxHeartbeats 4000000 in
theorem T_pack (l : Launch) (hl : l.stackTraces = false) (D : va_G) (bk fa d mk gv td tp : Nat) (cF : ClassId) (sz : Nat) (g : Nat → Option Nat) (k : Int32) (hbad : k < 0 ∨ (10:Int32) ≤ k) : TMet l y_PatternBook_pack (wsOf y_PatternBook_pack b_PatternBook_pack 2 (some .boolean)) { frames := 7, cells := 1, slots := 6, locals := 120 } (uPT D classes [(bk, .inr (5, [.ref fa, .ref d, .ref mk, .ref gv, .ref td, .ref tp])), (fa, .inl (cF, 10, .inr (.inr (.inr (.inr g)))))] [(cF, .object "PatternBook$Format")] sz [.ref bk, .int k]) := by
  refine uBeginT (by decide +kernel) (Nat.le_of_ble_eq_true rfl) ?_
  intro p e s m below meth c ls hsz hx hb hts hown hlocks hml hex hP hK hD hN hZ hlv
  have hlv : lv_has ls 2 [(0, .ref bk), (1, .int k)] := hlv
  refine lv_aload_n hx hb d_PatternBook_pack_0 rfl (lv_at hlv 0 rfl) ?_
  refine lv_iload_n hx hb d_PatternBook_pack_1 rfl (lv_at hlv 1 rfl) ?_
  intro T hT X
  obtain ⟨v, U, X', st, ce, h1, h2, h3⟩ := uThrow X hT hx hb hml hown hts (C := R_PatternBook) (T_formatAt l hl D bk fa d mk gv td tp cF s.heap.size g k hbad) (hts _ k_399) (hts _ k_401) (hts _ k_400) k_397 k_398 (n := 1) (by decide +kernel) rfl rfl ⟨Nat.le_of_ble_eq_true rfl, Nat.le_of_ble_eq_true rfl, Nat.le_of_ble_eq_true rfl, Nat.le_of_ble_eq_true rfl⟩ hK hP hD hN hZ [0, 1] rfl (by decide) [0] rfl (ci := 5) rfl rfl (q0 := 0) rfl (g := F0 m 2 ls [.int k, .ref bk]) rfl rfl hlv.1 (rest := []) rfl (lv_room (Nat.le_of_ble_eq_true rfl)) d_PatternBook_pack_2
  exact uPass X' rfl rfl rfl hex hlocks st h1 h2 h3

