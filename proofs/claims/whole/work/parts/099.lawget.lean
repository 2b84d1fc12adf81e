def nz (x : Int32) : Bool := decide (¬ x = 0)
def LV (xs : Nat → Int32) (k : Nat) : Int64 := lshl_ (xs k).toInt64 32 ||| ((xs (k + 1)).toInt64 &&& 4294967295)

theorem ga1 {p : Program} {l : Launch} {e : Env} {s : State} {m : MethodId} {below : List Frame} {meth : Method} {c : Code} {b L : Nat} {xs : Nat → Int32} {H : Heap} {locs : List Loc} {cells slots pc j : Nat} {ls : Array Slot} {rest : List Value} (C : LawAt p l s m meth c b L xs) (hS : va_S (fun q : Nat => s.heap.size ≤ q) s.heap H locs) (h0 : ls[0]? = some (.val (.ref b))) (h4 : ls[4]? = some (.val (.int (nI j)))) (hj : j + 8 ≤ L) (k : Nat) (hk : k < 8) {n : Int} (hn : Int32.ofInt n = nI k) (d0 : decode code pc = .ok (.aload_n 0, 1)) (d1 : decode code (pc + 1) = .ok (.iload 4, 2)) (d2 : decode code (pc + 3) = .ok (.iconst n, 1)) (d3 : decode code (pc + 4) = .ok (.iadd, 1)) (d4 : decode code (pc + 5) = .ok (.iaload, 1))
    (kk : W p l e room_1 s m #[Value.ref b] below meth c H locs cells slots (lw_Z below #[Value.ref b] s) (F0 m (pc + 6) ls (.int (xs (j + k)) :: rest))) : W p l e room_1 s m #[Value.ref b] below meth c H locs cells slots (lw_Z below #[Value.ref b] s) (F0 m pc ls rest) := by
  have hL := C.hL
  have hbA : ¬ (fun q : Nat => s.heap.size ≤ q) b := Nat.not_le.mpr C.hbl
  have e9 : nI j + nI k = nI (j + k) := nI_add j k
  refine lv_aload_n C.hx C.hb d0 rfl h0 ?_
  refine lv_iload C.hx C.hb d1 h4 ?_
  refine lv_iconst C.hx C.hb d2 hn ?_
  refine lv_iadd C.hx C.hb d3 ?_
  rw [e9]
  refine va_sld C.hx C.hb C.hX C.hbl hbA hS (vp_in_nI (by omega) (by omega)) d4 ?_
  rw [nI_clamp (by omega)]
  exact kk

theorem ga2 {p : Program} {l : Launch} {e : Env} {s : State} {m : MethodId} {below : List Frame} {meth : Method} {c : Code} {b L : Nat} {xs : Nat → Int32} {H : Heap} {locs : List Loc} {cells slots pc j : Nat} {ls : Array Slot} {rest : List Value} (C : LawAt p l s m meth c b L xs) (hS : va_S (fun q : Nat => s.heap.size ≤ q) s.heap H locs) (h0 : ls[0]? = some (.val (.ref b))) (h4 : ls[4]? = some (.val (.int (nI j)))) (hj : j + 8 ≤ L) (k : Nat) (hk : k < 8) {n : Int} (hn : (Int8.ofInt n).toInt32 = nI k) (d0 : decode code pc = .ok (.aload_n 0, 1)) (d1 : decode code (pc + 1) = .ok (.iload 4, 2)) (d2 : decode code (pc + 3) = .ok (.bipush n, 2)) (d3 : decode code (pc + 5) = .ok (.iadd, 1)) (d4 : decode code (pc + 6) = .ok (.iaload, 1))
    (kk : W p l e room_1 s m #[Value.ref b] below meth c H locs cells slots (lw_Z below #[Value.ref b] s) (F0 m (pc + 7) ls (.int (xs (j + k)) :: rest))) : W p l e room_1 s m #[Value.ref b] below meth c H locs cells slots (lw_Z below #[Value.ref b] s) (F0 m pc ls rest) := by
  have hL := C.hL
  have hbA : ¬ (fun q : Nat => s.heap.size ≤ q) b := Nat.not_le.mpr C.hbl
  have e9 : nI j + nI k = nI (j + k) := nI_add j k
  refine lv_aload_n C.hx C.hb d0 rfl h0 ?_
  refine lv_iload C.hx C.hb d1 h4 ?_
  refine lv_bipush C.hx C.hb d2 hn ?_
  refine lv_iadd C.hx C.hb d3 ?_
  rw [e9]
  refine va_sld C.hx C.hb C.hX C.hbl hbA hS (vp_in_nI (by omega) (by omega)) d4 ?_
  rw [nI_clamp (by omega)]
  exact kk

theorem gl1 {p : Program} {l : Launch} {e : Env} {s : State} {m : MethodId} {below : List Frame} {meth : Method} {c : Code} {b L : Nat} {xs : Nat → Int32} {H : Heap} {locs : List Loc} {cells slots pc j : Nat} {ls : Array Slot} {rest : List Value} (C : LawAt p l s m meth c b L xs) (hS : va_S (fun q : Nat => s.heap.size ≤ q) s.heap H locs) (h0 : ls[0]? = some (.val (.ref b))) (h4 : ls[4]? = some (.val (.int (nI j)))) (hj : j + 8 ≤ L) (k : Nat) (hk : k + 1 < 8) {n n' : Int} (hn : Int32.ofInt n = nI k) (hn' : Int32.ofInt n' = nI (k + 1)) (d0 : decode code pc = .ok (.aload_n 0, 1)) (d1 : decode code (pc + 1) = .ok (.iload 4, 2)) (d2 : decode code (pc + 3) = .ok (.iconst n, 1)) (d3 : decode code (pc + 4) = .ok (.iadd, 1)) (d4 : decode code (pc + 5) = .ok (.iaload, 1)) (d5 : decode code (pc + 6) = .ok (.i2l, 1)) (d6 : decode code (pc + 7) = .ok (.bipush 32, 2)) (d7 : decode code (pc + 9) = .ok (.lshl, 1)) (e0 : decode code (pc + 10) = .ok (.aload_n 0, 1)) (e1 : decode code (pc + 11) = .ok (.iload 4, 2)) (e2 : decode code (pc + 13) = .ok (.iconst n', 1)) (e3 : decode code (pc + 14) = .ok (.iadd, 1)) (e4 : decode code (pc + 15) = .ok (.iaload, 1)) (e5 : decode code (pc + 16) = .ok (.i2l, 1)) (e6 : decode code (pc + 17) = .ok (.ldc2_w 27, 3)) (e7 : decode code (pc + 20) = .ok (.land, 1)) (e8 : decode code (pc + 21) = .ok (.lor, 1))
    (kk : W p l e room_1 s m #[Value.ref b] below meth c H locs cells slots (lw_Z below #[Value.ref b] s) (F0 m (pc + 22) ls (.long (LV xs (j + k)) :: rest))) : W p l e room_1 s m #[Value.ref b] below meth c H locs cells slots (lw_Z below #[Value.ref b] s) (F0 m pc ls rest) := by
  refine ga1 C hS h0 h4 hj k (by omega) hn d0 d1 d2 d3 d4 ?_
  refine lv_i2l C.hx C.hb d5 rfl ?_
  refine lv_bipush (v := 32) C.hx C.hb d6 (by decide) ?_
  refine lv_lshl (v := lshl_ (xs (j + k)).toInt64 32) C.hx C.hb d7 rfl ?_
  refine ga1 (pc := pc + 10) C hS h0 h4 hj (k + 1) hk hn' e0 e1 e2 e3 e4 ?_
  refine lv_i2l C.hx C.hb e5 rfl ?_
  refine lv_ldc2 (v := 4294967295) C.hx C.hb C.hown (C.hts _ k_568) e6 ?_
  refine lv_land C.hx C.hb e7 ?_
  refine lv_lor C.hx C.hb e8 ?_
  exact kk

theorem gl2 {p : Program} {l : Launch} {e : Env} {s : State} {m : MethodId} {below : List Frame} {meth : Method} {c : Code} {b L : Nat} {xs : Nat → Int32} {H : Heap} {locs : List Loc} {cells slots pc j : Nat} {ls : Array Slot} {rest : List Value} (C : LawAt p l s m meth c b L xs) (hS : va_S (fun q : Nat => s.heap.size ≤ q) s.heap H locs) (h0 : ls[0]? = some (.val (.ref b))) (h4 : ls[4]? = some (.val (.int (nI j)))) (hj : j + 8 ≤ L) (k : Nat) (hk : k + 1 < 8) {n n' : Int} (hn : (Int8.ofInt n).toInt32 = nI k) (hn' : (Int8.ofInt n').toInt32 = nI (k + 1)) (d0 : decode code pc = .ok (.aload_n 0, 1)) (d1 : decode code (pc + 1) = .ok (.iload 4, 2)) (d2 : decode code (pc + 3) = .ok (.bipush n, 2)) (d3 : decode code (pc + 5) = .ok (.iadd, 1)) (d4 : decode code (pc + 6) = .ok (.iaload, 1)) (d5 : decode code (pc + 7) = .ok (.i2l, 1)) (d6 : decode code (pc + 8) = .ok (.bipush 32, 2)) (d7 : decode code (pc + 10) = .ok (.lshl, 1)) (e0 : decode code (pc + 11) = .ok (.aload_n 0, 1)) (e1 : decode code (pc + 12) = .ok (.iload 4, 2)) (e2 : decode code (pc + 14) = .ok (.bipush n', 2)) (e3 : decode code (pc + 16) = .ok (.iadd, 1)) (e4 : decode code (pc + 17) = .ok (.iaload, 1)) (e5 : decode code (pc + 18) = .ok (.i2l, 1)) (e6 : decode code (pc + 19) = .ok (.ldc2_w 27, 3)) (e7 : decode code (pc + 22) = .ok (.land, 1)) (e8 : decode code (pc + 23) = .ok (.lor, 1))
    (kk : W p l e room_1 s m #[Value.ref b] below meth c H locs cells slots (lw_Z below #[Value.ref b] s) (F0 m (pc + 24) ls (.long (LV xs (j + k)) :: rest))) : W p l e room_1 s m #[Value.ref b] below meth c H locs cells slots (lw_Z below #[Value.ref b] s) (F0 m pc ls rest) := by
  refine ga2 C hS h0 h4 hj k (by omega) hn d0 d1 d2 d3 d4 ?_
  refine lv_i2l C.hx C.hb d5 rfl ?_
  refine lv_bipush (v := 32) C.hx C.hb d6 (by decide) ?_
  refine lv_lshl (v := lshl_ (xs (j + k)).toInt64 32) C.hx C.hb d7 rfl ?_
  refine ga2 (pc := pc + 11) C hS h0 h4 hj (k + 1) hk hn' e0 e1 e2 e3 e4 ?_
  refine lv_i2l C.hx C.hb e5 rfl ?_
  refine lv_ldc2 (v := 4294967295) C.hx C.hb C.hown (C.hts _ k_568) e6 ?_
  refine lv_land C.hx C.hb e7 ?_
  refine lv_lor C.hx C.hb e8 ?_
  exact kk

theorem gz {p : Program} {l : Launch} {e : Env} {s : State} {m : MethodId} {below : List Frame} {meth : Method} {c : Code} {b L : Nat} {xs : Nat → Int32} {H : Heap} {locs : List Loc} {cells slots pc : Nat} {ls : Array Slot} {rest : List Value} (C : LawAt p l s m meth c b L xs) {x : Int32} (d0 : decode code pc = .ok (.ifCond .eq 7, 3)) (d1 : decode code (pc + 3) = .ok (.iconst 1, 1)) (d2 : decode code (pc + 4) = .ok (.goto 4, 3)) (d3 : decode code (pc + 7) = .ok (.iconst 0, 1))
    (kk : W p l e room_1 s m #[Value.ref b] below meth c H locs cells slots (lw_Z below #[Value.ref b] s) (F0 m (pc + 8) ls (.int (bI (nz x)) :: rest))) : W p l e room_1 s m #[Value.ref b] below meth c H locs cells slots (lw_Z below #[Value.ref b] s) (F0 m pc ls (.int x :: rest)) := by
  refine lv_if_eq (tgt := pc + 7) C.hx C.hb d0 (by omega) (fun h => ?_) (fun h => ?_)
  · refine lv_iconst (v := 0) C.hx C.hb d3 (by decide) ?_
    have e9 : bI (nz x) = 0 := by unfold nz; rw [decide_eq_false (fun q => q h)]; rfl
    rw [e9] at kk
    exact kk
  · refine lv_iconst (v := 1) C.hx C.hb d1 (by decide) ?_
    refine lv_goto (tgt := pc + 8) C.hx C.hb d2 (by omega) ?_
    have e9 : bI (nz x) = 1 := by unfold nz; rw [decide_eq_true h]; rfl
    rw [e9] at kk
    exact kk

