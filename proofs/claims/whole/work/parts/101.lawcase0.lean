set_option maxHeartbeats 4000000 in
set_option maxRecDepth 100000 in
theorem law_case_0 {p : Program} {l : Launch} {e : Env} {s : State} {m : MethodId} {below : List Frame} {meth : Method} {c : Code} {b L : Nat} {xs : Nat → Int32} {D : va_G} {a : AD} {σ : SB} {μ : SM} (C : LawAt p l s m meth c b L xs) (hK : va_K D classes (TYL a) s) (ha : AOK a) {H : Heap} {locs : List Loc} {cells slots j : Nat} {ls : Array Slot} (hl : lv_has ls 7 [(4, .int (nI j)), (3, .ref a.oa), (2, .ref a.mo), (1, .ref a.bk), (0, .ref b)]) (hI : Inv s D a σ μ H locs) (R : RelL σ μ) (hj : j + 8 ≤ L) (hc : cells + 1 ≤ 601024) (hs : slots + 6 ≤ 7293034)
    (kk : ∀ (σ' : SB) (μ' : SM) (H : Heap) (locs : List Loc) (ls : Array Slot), lv_has ls 7 [(4, .int (nI j)), (3, .ref a.oa), (2, .ref a.mo), (1, .ref a.bk), (0, .ref b)] → Inv s D a σ' μ' H locs → RelL σ' μ' → W p l e room_1 s m #[Value.ref b] below meth c H locs (cells + 1) (slots + 6) (lw_Z below #[Value.ref b] s) (F0 m 766 ls [])) : W p l e room_1 s m #[Value.ref b] below meth c H locs cells slots (lw_Z below #[Value.ref b] s) (F0 m 92 ls []) := by
  have hx := C.hx
  have hb := C.hb
  obtain ⟨R1, R2, R3, R4, R5, R6, R7⟩ := id R
  refine lv_aload_n hx hb d_law_92 rfl (lv_at hl 3 rfl) ?_
  refine ga1 C hI.2.2 (lv_at hl 4 rfl) (lv_at hl 0 rfl) hj 1 (by decide) (n := 1) (by decide) d_law_93 d_law_94 d_law_96 d_law_97 d_law_98 ?_
  refine gl1 C hI.2.2 (lv_at hl 4 rfl) (lv_at hl 0 rfl) hj 2 (by decide) (n := 2) (n' := 3) (by decide) (by decide) d_law_99 d_law_100 d_law_102 d_law_103 d_law_104 d_law_105 d_law_106 d_law_108 d_law_109 d_law_110 d_law_112 d_law_113 d_law_114 d_law_115 d_law_116 d_law_119 d_law_120 ?_
  refine gl1 C hI.2.2 (lv_at hl 4 rfl) (lv_at hl 0 rfl) hj 4 (by decide) (n := 4) (n' := 5) (by decide) (by decide) d_law_121 d_law_122 d_law_124 d_law_125 d_law_126 d_law_127 d_law_128 d_law_130 d_law_131 d_law_132 d_law_134 d_law_135 d_law_136 d_law_137 d_law_138 d_law_141 d_law_142 ?_
  refine lv_aload_n hx hb d_law_143 rfl (lv_at hl 1 rfl) ?_
  refine hu_unpack C hK ha hl.1 hI (xs (j + 1)) (LV xs (j + 2)) (LV xs (j + 4)) hc hs d_law_144 (fun σ' r H locs hI hpost => ?_)
  rcases hpost with ⟨hbad, hr, hσ⟩ | ⟨k, hk, hf, hr, hp⟩
  · subst hr
    rw [hσ] at hI
    refine lv_istore (lv' := [(5, .int 1), (4, .int (nI j)), (3, .ref a.oa), (2, .ref a.mo), (1, .ref a.bk), (0, .ref b)]) hx hb d_law_147 hl (by decide) rfl (fun ls hl => ?_)
    refine lv_aload_n hx hb d_law_149 rfl (lv_at hl 3 rfl) ?_
    refine ga1 C hI.2.2 (lv_at hl 5 rfl) (lv_at hl 1 rfl) hj 1 (by decide) (n := 1) (by decide) d_law_150 d_law_151 d_law_153 d_law_154 d_law_155 ?_
    refine gl1 C hI.2.2 (lv_at hl 5 rfl) (lv_at hl 1 rfl) hj 2 (by decide) (n := 2) (n' := 3) (by decide) (by decide) d_law_156 d_law_157 d_law_159 d_law_160 d_law_161 d_law_162 d_law_163 d_law_165 d_law_166 d_law_167 d_law_169 d_law_170 d_law_171 d_law_172 d_law_173 d_law_176 d_law_177 ?_
    refine gl1 C hI.2.2 (lv_at hl 5 rfl) (lv_at hl 1 rfl) hj 4 (by decide) (n := 4) (n' := 5) (by decide) (by decide) d_law_178 d_law_179 d_law_181 d_law_182 d_law_183 d_law_184 d_law_185 d_law_187 d_law_188 d_law_189 d_law_191 d_law_192 d_law_193 d_law_194 d_law_195 d_law_198 d_law_199 ?_
    refine lo_M_unpack C hK hl.1 hI (xs (j + 1)) (LV xs (j + 2)) (LV xs (j + 4)) (ok_unpack_no hbad _ _) (by omega) (by omega) d_law_200 (fun u H locs hu hI => ?_)
    obtain ⟨z, ez⟩ := unpack_no hbad (LV xs (j + 2)) (LV xs (j + 4)) μ.kd μ.sg μ.ex μ.lh μ.ll μ.w μ.sp
    rw [ez] at hu
    subst hu
    refine lv_istore (lv' := [(6, .int z), (5, .int 1), (4, .int (nI j)), (3, .ref a.oa), (2, .ref a.mo), (1, .ref a.bk), (0, .ref b)]) hx hb d_law_203 hl (by decide) rfl (fun ls hl => ?_)
    refine lv_aload_n hx hb d_law_205 rfl (lv_at hl 4 rfl) ?_
    refine lo_M_thrown C hK hl.1 hI (by omega) (by omega) d_law_206 (fun v H locs hv hI => ?_)
    have hv : v = 1 := hv
    subst hv
    refine lv_iload hx hb d_law_209 (lv_at hl 1 rfl) ?_
    refine lv_icmp_eq (tgt := 216) hx hb d_law_211 (by decide) (fun _ => ?_) (fun h => absurd rfl h)
    refine lv_iload hx hb d_law_216 (lv_at hl 1 rfl) ?_
    refine lv_if_ne (tgt := 233) hx hb d_law_218 (by decide) (fun _ => ?_) (fun h => absurd h (by decide))
    refine lv_goto (tgt := 766) hx hb d_law_233 (by decide) ?_
    refine W.widen (k := cells + 1) (n := slots + 6) (by omega) (by omega) ?_
    exact kk σ _ H locs ls (lv_sub hl [2, 3, 4, 5, 6] rfl) hI R
  · subst hr
    have M := mods R6 R7 k hk
    refine lv_istore (lv' := [(5, .int 0), (4, .int (nI j)), (3, .ref a.oa), (2, .ref a.mo), (1, .ref a.bk), (0, .ref b)]) hx hb d_law_147 hl (by decide) rfl (fun ls hl => ?_)
    refine lv_aload_n hx hb d_law_149 rfl (lv_at hl 3 rfl) ?_
    refine ga1 C hI.2.2 (lv_at hl 5 rfl) (lv_at hl 1 rfl) hj 1 (by decide) (n := 1) (by decide) d_law_150 d_law_151 d_law_153 d_law_154 d_law_155 ?_
    refine gl1 C hI.2.2 (lv_at hl 5 rfl) (lv_at hl 1 rfl) hj 2 (by decide) (n := 2) (n' := 3) (by decide) (by decide) d_law_156 d_law_157 d_law_159 d_law_160 d_law_161 d_law_162 d_law_163 d_law_165 d_law_166 d_law_167 d_law_169 d_law_170 d_law_171 d_law_172 d_law_173 d_law_176 d_law_177 ?_
    refine gl1 C hI.2.2 (lv_at hl 5 rfl) (lv_at hl 1 rfl) hj 4 (by decide) (n := 4) (n' := 5) (by decide) (by decide) d_law_178 d_law_179 d_law_181 d_law_182 d_law_183 d_law_184 d_law_185 d_law_187 d_law_188 d_law_189 d_law_191 d_law_192 d_law_193 d_law_194 d_law_195 d_law_198 d_law_199 ?_
    refine lo_M_unpack C hK hl.1 hI (xs (j + 1)) (LV xs (j + 2)) (LV xs (j + 4)) (by rw [hf]; exact M.ok_unpack _ _) (by omega) (by omega) d_law_200 (fun u H locs hu hI => ?_)
    obtain ⟨kd2, ex2, lh2, ll2, W2, e1, e2, e3⟩ := M.unpack (LV xs (j + 2)) (LV xs (j + 4)) μ.kd μ.sg μ.ex μ.lh μ.ll μ.w
    rw [hf, e1] at hu
    subst hu
    have e4 := hp.1.trans e2.symm
    have q1 := (Prod.mk.inj e4).1
    have q2 := (Prod.mk.inj (Prod.mk.inj e4).2).1
    have q3 := (Prod.mk.inj (Prod.mk.inj e4).2).2
    have g := M.good.ok (VN (LV xs (j + 2)) (LV xs (j + 4)) % 2 ^ ((FF k).q + 1))
    rw [← hp.1] at g
    refine lv_istore (lv' := [(6, .int kd2), (5, .int 0), (4, .int (nI j)), (3, .ref a.oa), (2, .ref a.mo), (1, .ref a.bk), (0, .ref b)]) hx hb d_law_203 hl (by decide) rfl (fun ls hl => ?_)
    refine lv_aload_n hx hb d_law_205 rfl (lv_at hl 4 rfl) ?_
    refine lo_M_thrown C hK hl.1 hI (by omega) (by omega) d_law_206 (fun v H locs hv hI => ?_)
    have hv : v = 0 := hv
    subst hv
    refine lv_iload hx hb d_law_209 (lv_at hl 1 rfl) ?_
    refine lv_icmp_eq (tgt := 216) hx hb d_law_211 (by decide) (fun _ => ?_) (fun h => absurd rfl h)
    refine lv_iload hx hb d_law_216 (lv_at hl 1 rfl) ?_
    refine lv_if_ne (tgt := 233) hx hb d_law_218 (by decide) (fun h => absurd rfl h) (fun _ => ?_)
    refine lv_aload_n hx hb d_law_221 rfl (lv_at hl 3 rfl) ?_
    refine lv_iconst (v := 0) hx hb d_law_222 (by decide) ?_
    refine va_lald (cA := a.cO) (n := 1) (f := σ'.ot) hx hb hK hI.1 38 4 rfl rfl (idx_in rfl) d_law_223 ?_
    refine W.eq (g2 := F0 m 224 ls [.long (σ'.ot 0)]) rfl ?_
    refine lv_iload hx hb d_law_224 (lv_at hl 0 rfl) ?_
    refine lv_i2l hx hb d_law_226 rfl ?_
    refine W.lcmp hx hb d_law_227 ?_
    refine lv_if_eq (tgt := 233) hx hb d_law_228 (by decide) (fun _ => ?_) (fun h => absurd ((lg0 _ _).mpr (hp.2.2.1.trans (congrArg Int32.toInt64 q1))) h)
    refine lv_goto (tgt := 766) hx hb d_law_233 (by decide) ?_
    refine W.widen (k := cells + 1) (n := slots + 6) (by omega) (by omega) ?_
    exact kk σ' _ H locs ls (lv_sub hl [2, 3, 4, 5, 6] rfl) hI ⟨q1, q2, ⟨(congrArg bI hp.2.1).symm, e3, q3.symm, g⟩, hp.2.2.2.1.trans R4, hp.2.2.2.2.trans R5, R6, R7⟩
