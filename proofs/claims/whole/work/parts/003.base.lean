def bI (b : Bool) : Int32 := match b with
  | true => 1
  | false => 0
theorem bI_nar (b : Bool) : narrow .boolean (.int (bI b)) = .int (bI b) := by cases b <;> rfl
theorem bI_fits (b : Bool) : fits .boolean (.int (bI b)) = true := by cases b <;> rfl
def nwOk : Cond → Bool
  | .fieldLinkNest .. => true
  | .methodLinkNest .. => true
  | .declares .. => true
  | .arrayOver (.object _) => true
  | .castable .. => true
  | _ => false
def wt : List Cond := xtbl.filter goodWord
def nwL : List Cond := xtbl.filter nwOk
theorem in_wt {w : Cond} (h : w ∈ xtbl) (g : goodWord w = true) : w ∈ wt := List.mem_filter.mpr ⟨h, g⟩
theorem in_nw {w : Cond} (h : w ∈ xtbl) (g : nwOk w = true) : w ∈ nwL := List.mem_filter.mpr ⟨h, g⟩
abbrev wsOf (y : MethodName) (b : ByteArray) (n : Nat) (r : Option FieldType) : List Cond := Cond.code y b n r :: wt
theorem wt_good {c : Cond} {y' : MethodName} {b' : ByteArray} {n' : Nat} {r' : Option FieldType} (h : Cond.code y' b' n' r' ∈ wt) : GoodIn (c :: wt) (wsOf y' b' n' r') := by
  intro w hw
  have hw2 : w ∈ wt := by
    rcases List.mem_cons.mp hw with rfl | hw
    · exact h
    · exact hw
  exact ⟨List.mem_cons_of_mem _ hw2, good_of_word (List.mem_filter.mp hw2).2⟩
theorem lw_good {y' : MethodName} {b' : ByteArray} {n' : Nat} {r' : Option FieldType} (h : Cond.code y' b' n' r' ∈ wt) : GoodIn wt (wsOf y' b' n' r') := by
  intro w hw
  have hw2 : w ∈ wt := by
    rcases List.mem_cons.mp hw with rfl | hw
    · exact h
    · exact hw
  exact ⟨hw2, good_of_word (List.mem_filter.mp hw2).2⟩
theorem nw_cast {a b : String} {s U : State} (hv : s.vm.Alike U.vm) (h : va_Nw (.castable a b) s) : va_Nw (.castable a b) U := by
  obtain ⟨c, t, h1, h2, h3⟩ := Cond.castable_spec h
  unfold va_Nw Cond.before Cond.holds
  simp only [Cond.value]
  rw [hv.findClass, hv.findClass, h1, h2]
  simp only [hv.assignable, h3]
  rfl
def uN (U : State) : Prop := ∀ w ∈ nwL, va_Nw w U
theorem uN.warm {s U : State} (hW : s.WarmedH U.vm) (h : uN s) : uN U := by
  intro w hw
  have hk := (List.mem_filter.mp hw).2
  match w, hk, hw with
  | .fieldLinkNest a i b n d hh, _, hw => exact va_Nw.warmF hW (h _ hw)
  | .methodLinkNest a i x hh, _, hw => exact va_Nw.warmM hW (h _ hw)
  | .declares x, _, hw => exact va_Nw.warmD hW (h _ hw)
  | .arrayOver (.object C), _, hw => exact va_AO.moved (C := C) hW.alike (h _ hw)
  | .castable a b, _, hw => exact nw_cast hW.alike (h _ hw)
theorem uN.vm {s U : State} (hv : s.vm = U.vm) (h : uN s) : uN U := by
  intro w hw
  have hk := (List.mem_filter.mp hw).2
  match w, hk, hw with
  | .fieldLinkNest a i b n d hh, _, hw => exact va_Nw.same rfl hv (h _ hw)
  | .methodLinkNest a i x hh, _, hw => exact va_Nw.same rfl hv (h _ hw)
  | .declares x, _, hw => exact va_Nw.same rfl hv (h _ hw)
  | .arrayOver (.object C), _, hw => exact va_AO.moved (C := C) (by rw [hv]; exact Vm.Alike.refl _) (h _ hw)
  | .castable a b, _, hw => exact nw_cast (by rw [hv]; exact Vm.Alike.refl _) (h _ hw)
def lshl_ (x : Int64) (y : Int32) : Int64 := x <<< (y.toInt64 &&& 63)
def lushr_ (x : Int64) (y : Int32) : Int64 := (x.toUInt64 >>> (y.toInt64.toUInt64 &&& Int64.toUInt64 63)).toInt64
def lshr_ (x : Int64) (y : Int32) : Int64 := x >>> (y.toInt64 &&& 63)
def iushr_ (x y : Int32) : Int32 := (x.toUInt32 >>> (y.toUInt32 &&& Int32.toUInt32 31)).toInt32
theorem idx_in {i : Int32} {n : Nat} (h : decide (¬ (i < 0 ∨ n ≤ i.toNatClampNeg)) = true) : vp_in i n := show ¬ (i < 0 ∨ n ≤ i.toNatClampNeg) from of_decide_eq_true h
/-- a contract's start: the world WS of cells, the array classes TY, the nest's links -/
def uP (D : va_G) (cl : List vw_C) (WS : va_W) (TY : List (ClassId × FieldType)) (sz : Nat) (av : List Value) : Array Value → State → Prop :=
  va_Pc av (fun U => U.heap.size = sz ∧ va_P D cl WS U.heap ∧ va_K D cl TY U ∧ va_D (fun _ => True) WS ∧ uN U)
/-- its end: an outcome u, what it answers, the world behind it -/
def uQ {S : Type} (D : va_G) (cl : List vw_C) (rt : S → Option Value) (post : S → Prop) (A : Nat → Prop) (TY' : S → List (ClassId × FieldType)) (W' : S → va_W) : Array Value → State → Outcome → State → Prop :=
  fun _ st oc t => (∃ u : S, oc = .returned (rt u) ∧ post u ∧ va_P D cl (W' u) t.heap ∧ va_K D cl (TY' u) t ∧ va_D A (W' u)) ∧ va_F A st t
theorem fm_of_map {α : Type} {ws wc : List α} (is : List Nat) (h : is.map (fun i => ws[i]?) = wc.map some) : is.filterMap (fun i => ws[i]?) = wc := by
  have h1 : is.filterMap (fun i => ws[i]?) = (is.map (fun i => ws[i]?)).filterMap id := by rw [List.filterMap_map]; rfl
  rw [h1, h, List.filterMap_map]
  exact List.filterMap_some
theorem uP.blind {D : va_G} {cl : List vw_C} {WS : va_W} {TY : List (ClassId × FieldType)} {sz : Nat} {av : List Value} : FrameBlind (uP D cl WS TY sz av) := by
  intro a U g mk q
  obtain ⟨q0, q1, qP, qK, qD, qN⟩ := q
  exact ⟨q0, q1, qP, va_K.moved (u := U) (U := U.calling g mk a) (Vm.Alike.refl U.vm) qK, qD, uN.vm (s := U) (U := U.calling g mk a) rfl qN⟩
theorem uPreS {s : State} {H : Heap} {D : va_G} {cl : List vw_C} {WS CW : va_W} {TY CT : List (ClassId × FieldType)} {A : Nat → Prop} {As : List Value} (hK : va_K D cl TY s) (hP : va_P D cl WS H) (hD : va_D A WS) (hN : uN s) (is : List Nat) (hC : is.map (fun i => WS[i]?) = CW.map some) (hn : va_nd is = true) (it : List Nat) (hT : it.filterMap (fun i => TY[i]?) = CT) : PreS s H (uP D cl CW CT H.size As) As :=
  ⟨uP.blind, fun U hU hW => ⟨rfl, by rw [hU], by rw [hU]; exact hP.sub is (fm_of_map is hC), va_K.moved hW.alike (hK.sub it hT), (hD.sub is hn hC).weaken (fun _ _ _ _ => trivial), uN.warm hW hN⟩⟩
theorem uPreV {s : State} {H : Heap} {D : va_G} {cl : List vw_C} {WS CW : va_W} {TY CT : List (ClassId × FieldType)} {A : Nat → Prop} {As : List Value} {b ci q0 : Nat} {q : vw_C} {fs : List Value} (hK : va_K D cl TY s) (hP : va_P D cl WS H) (hD : va_D A WS) (hN : uN s) (is : List Nat) (hC : is.map (fun i => WS[i]?) = CW.map some) (hn : va_nd is = true) (it : List Nat) (hT : it.filterMap (fun i => TY[i]?) = CT) (hc : cl[ci]? = some q) (he : WS[q0]? = some (b, .inr (ci, fs))) : PreV s H q.1 b (uP D cl CW CT H.size (.ref b :: As)) As :=
  ⟨uP.blind, va_recv hK hP hc he, fun U hU hW => ⟨rfl, by rw [hU], by rw [hU]; exact hP.sub is (fm_of_map is hC), va_K.moved hW.alike (hK.sub it hT), (hD.sub is hn hC).weaken (fun _ _ _ _ => trivial), uN.warm hW hN⟩⟩
section UCALL
variable {p : Program} {l : Launch} {e : Env} {R : Room} {s : State} {m : MethodId} {args : Array Value} {below : List Frame} {meth : Method} {c : Code} {H : Heap} {locs : List Loc} {cells slots : Nat} {Q : State → Prop}
variable {pc : Nat} {ls : Array Slot} {rest st0 : List Value} {a : Array Value} {A0 : Nat → Prop} {mc ms : Nat}
theorem uCall {S : Type} {D : va_G} {cl : List vw_C} {rt : S → Option Value} {post : S → Prop} {WS CW WR : va_W} {TY RT : List (ClassId × FieldType)} {TY' : S → List (ClassId × FieldType)} {W' : S → va_W}
    (hr : va_Run p l e R s m args below meth c H locs cells slots mc ms (F0 m pc ls st0) rest (uQ D cl rt post (va_A CW H.size) TY' W' a) (va_A CW H.size))
    (hK : va_K D cl TY s) (hP : va_P D cl WS H) (hD : va_D A0 WS) (hS : va_S A0 s.heap H locs) (hA : ∀ q : Nat, s.heap.size ≤ q → A0 q) (isC isR : List Nat) (hC : isC.map (fun i => WS[i]?) = CW.map some) (hR : isR.map (fun i => WS[i]?) = WR.map some) (hn : va_nd isR = true) (hdis : ∀ i ∈ isR, i ∉ isC) (it : List Nat) (hT : it.filterMap (fun i => TY[i]?) = RT)
    (kk : ∀ (u : S) (H1 : Heap) (locs1 : List Loc), post u → va_P D cl (WR ++ W' u) H1 → va_D A0 (WR ++ W' u) → va_K D cl (RT ++ TY' u) s → va_S A0 s.heap H1 locs1 → W p l e R s m args below meth c H1 locs1 (cells + mc) (slots + ms) Q (F0 m (pc + 3) ls ((rt u).toList ++ rest))) : W p l e R s m args below meth c H locs cells slots Q (F0 m pc ls st0) := by
  have hF := va_free (wc := CW) hD hS hA isC hC
  intro T hT' X
  obtain ⟨v, st₀, t, T', L, h0, X', hL, e1, e2, ⟨⟨u, hv, hp, hP1, hK1, hD1⟩, hz, hk⟩, st⟩ := hr T hT' X
  cases hv
  rw [h0] at hz hk
  have hK2 := va_K.moved (show t.vm.Alike s.vm by rw [← e2]; exact X'.warmed.alike.symm) hK1
  obtain ⟨hP2, hD2⟩ := va_join (wr := WR) (w1 := W' u) (H1 := t.heap) hP hD isC isR hC hR hn hdis hk hF hP1 hD1
  obtain ⟨t2, a1, b1⟩ := kk u t.heap (locs ++ L) hp hP2 hD2 ((hK.sub it hT).app hK2)
    ⟨Nat.le_trans hS.1 hz, fun q h1 h2 => by rw [hk q (Nat.lt_of_lt_of_le h1 hS.1) (fun z => h2 (hF q z))]; exact hS.2.1 q h1 h2, fun q hq => by
      rcases List.mem_append.mp hq with h | h
      · exact hS.2.2 q h
      · exact hF _ (hL q h)⟩ T' e1 X'
  exact ⟨t2, st t2 a1, b1⟩
end UCALL

theorem uEnd {S : Type} {D : va_G} {cl : List vw_C} {rt : S → Option Value} {post : S → Prop} {A : Nat → Prop} {TY' : S → List (ClassId × FieldType)} {W' : S → va_W} {s : State} {H : Heap} {locs : List Loc} {args : Array Value} (u : S) {rv : Option Value} (hP : va_P D cl (W' u) H) (hK : va_K D cl (TY' u) s) (hD : va_D A (W' u)) (hS : va_S A s.heap H locs) (hp : post u) (hv : rv = rt u) : ∀ t : State, t.heap = H → s.WarmedH t.vm → uQ D cl rt post A TY' W' args s (.returned rv) t :=
  fun t ht hW => ⟨⟨u, by rw [hv], hp, by rw [ht]; exact hP, va_K.moved hW.alike hK, hD⟩, hS.F ht⟩
theorem uBegin {l : Launch} {S : Type} {D : va_G} {cl : List vw_C} {rt : S → Option Value} {post : S → Prop} {WS : va_W} {TY : List (ClassId × FieldType)} {TY' : S → List (ClassId × FieldType)} {W' : S → va_W} {sz mc ms : Nat} {av : List Value} {y : MethodName} {cc : ByteArray} {maxL : Nat} {ret : Option FieldType} {rm : Room} (hy : plainFor y = true) (hlen : (lg_sl av).length ≤ maxL)
    (body : ∀ (p : Program) (e : Env) (s : State) (m : MethodId) (below : List Frame) (meth : Method) (c : Code) (A : Nat → Prop) (ls : Array Slot) (H : Heap) (locs : List Loc), p.tables.exec = Jvm.exec → c.code = cc → meth.sig.returnType = ret → (∀ w ∈ wt, w.before av.toArray s = true) → s.vm.findClass y.cls = some m.cls → meth.locks = false → c.maxLocals = maxL → meth.name = y.name → (∀ q : Nat, s.heap.size ≤ q → A q) → va_P D cl WS H → va_K D cl TY s → va_D A WS → uN s → va_S A s.heap H locs → lv_has ls maxL (lv_args 0 av) →
      W p l e (headSpec (wsOf y cc maxL ret) rm).room s m av.toArray below meth c H locs 0 0 (MQ below (uQ D cl rt post A TY' W') av.toArray s mc ms A) (F0 m 0 ls [])) :
    Met l y (wsOf y cc maxL ret) rm (uP D cl WS TY sz av) (uQ D cl rt post (va_A WS sz) TY' W') mc ms (va_A WS sz) := by
  refine va_MetF (cc := cc) (maxL := maxL) (ret := ret) hy rfl ?_
  intro p e s m args below meth c s₁ B hml hv
  obtain ⟨rfl, hsz, hP, hK, hD0, hN⟩ := hv
  have hts := atoms_spec (ws := wsOf y cc maxL ret) B.pre
  subst hsz
  rw [lg_entry_eq]
  exact body p e s m below meth c (va_A WS s.heap.size) _ s.heap [] B.exec B.bytes B.returns (fun w h => hts w (List.mem_cons_of_mem _ h)) (findClass_of_methodNamed B.named) B.notSynchronized hml (name_of_methodNamed B.named B.method).1 (fun q h => Or.inr h) hP hK hD0.self hN va_S.rf (lv_entry av hlen)
section UCW
variable {R : Room} {s : State} {args : Array Value} {own C : String} {index : Nat} {x y : MethodName} {bytes : ByteArray} {maxL mc ms : Nat} {ret : Option FieldType} {rm : Room}
theorem uCB (n : Nat) (hts : ∀ w ∈ wt, w.before args s = true) (hc : Cond.code y bytes maxL ret ∈ wt) (hi : Cond.initialized y.cls ∈ wt) (hl : Cond.methodLink own index y ∈ wt) (hd : y.cls ≠ "java/lang/invoke/MethodHandle" ∧ y.cls ≠ "java/lang/invoke/VarHandle" ∧ (parseMethodDescriptor y.desc).map (fun d => d.parameters.length) = some n) (hrc : rm.cells = mc) (hrs : rm.slots = ms) (hR : rm.frames + 1 ≤ R.frames ∧ 8 + (maxL + 11) + rm.locals ≤ R.locals) : CallB R s args own index y bytes maxL ret (wsOf y bytes maxL ret) rm mc ms n :=
  callB_of n hts (lw_good hc) rfl hrc hrs (hts _ hi) (hts _ hl) hd hR
theorem uCN {host : String} (n : Nat) (hts : ∀ w ∈ wt, w.before args s = true) (hN : uN s) (hc : Cond.code y bytes maxL ret ∈ wt) (hi : Cond.initialized y.cls ∈ wt) (hl : Cond.methodLinkNest own index y host ∈ nwL) (hd : y.cls ≠ "java/lang/invoke/MethodHandle" ∧ y.cls ≠ "java/lang/invoke/VarHandle" ∧ (parseMethodDescriptor y.desc).map (fun d => d.parameters.length) = some n) (hrc : rm.cells = mc) (hrs : rm.slots = ms) (hR : rm.frames + 1 ≤ R.frames ∧ 8 + (maxL + 11) + rm.locals ≤ R.locals) : va_CN R s args own index y host bytes maxL ret (wsOf y bytes maxL ret) rm mc ms n :=
  va_cnB n hts (lw_good hc) rfl hrc hrs (hN _ hl) (hts _ hi) hd hR
theorem uCU {owner : String} (n : Nat) (hts : ∀ w ∈ wt, w.before args s = true) (hc : Cond.code y bytes maxL ret ∈ wt) (hi : Cond.initialized y.cls ∈ wt) (hl : Cond.methodLink own index x ∈ wt) (hsm : Cond.sameMethod x.cls owner x.name x.desc ∈ wt) (hde : va_Decl s ⟨owner, x.name, x.desc⟩) (hse : Cond.selects C x y ∈ wt) (hin : Cond.instanceMethod y ∈ wt) (hd : owner ≠ "java/lang/invoke/MethodHandle" ∧ owner ≠ "java/lang/invoke/VarHandle" ∧ (parseMethodDescriptor x.desc).map (fun d => d.parameters.length) = some n) (hrc : rm.cells = mc) (hrs : rm.slots = ms) (hR : rm.frames + 1 ≤ R.frames ∧ 8 + (maxL + 11) + rm.locals ≤ R.locals) : va_CU R s args own C owner index x y bytes maxL ret (wsOf y bytes maxL ret) rm mc ms n := by
  have hG := lw_good hc
  have hcm : Cond.code y bytes maxL ret ∈ wsOf y bytes maxL ret := List.mem_cons_self
  refine ⟨⟨hrc, hrs, hR.1, hR.2, pay_in hts hG, hcm⟩, hts _ hc, hts _ hi, ⟨hd.1, hd.2.1⟩, fun sig h => ?_, hts _ hl, hts _ hsm, hde, hts _ hse, hts _ hin⟩
  have h2 := hd.2.2
  rw [h] at h2
  exact (Option.some.inj h2).symm
end UCW

