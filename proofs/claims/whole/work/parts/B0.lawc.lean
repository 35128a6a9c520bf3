/-! ===== the law's cases (printed by wip/whole/gen_law2.py) ===== -/
section ZLAWC
variable {p : Program} {l : Launch} {e : Env} {s : State} {m : MethodId} {below : List Frame} {meth : Method} {c : Code} {b L : Nat} {xs : Nat → Int32} {D : va_G} {K : Nat → ClassId} {cO cD : ClassId} {lo : Nat} {H : Heap} {locs : List Loc} {Q : State → Prop} {cells slots : Nat} {G : Nat → Nat → Int32} {fo : Nat → Int64} {fd : Nat → UInt64}
/-- how the law goes on behind a case -/
def lwK (p : Program) (l : Launch) (e : Env) (s : State) (m : MethodId) (b : Nat) (below : List Frame) (meth : Method) (c : Code) (D : va_G) (K : Nat → ClassId) (cO cD : ClassId) (lo : Nat) (Q : State → Prop) (cells slots j : Nat) : Prop :=
  ∀ (G' : Nat → Nat → Int32) (fo' : Nat → Int64) (fd' : Nat → UInt64) (H' : Heap) (locs' : List Loc) (ls' : Array Slot), lwI G' → lwHp s D K cO cD lo G' fo' fd' H' locs' → lv_has ls' 9 (lwV b lo j) → W p l e room_1 s m #[Value.ref b] below meth c H' locs' (cells + 1) (slots + 6) Q (F0 m 1692 ls' [])
theorem lg_eq (x : Int64) : lg_cmp x x = 0 := by simp [lg_cmp]
theorem lwThr {rest : List Value} {pc : Nat} {ls : Array Slot} (C : lwC p l s m c b L xs D K cO cD lo) (hH : lwHp s D K cO cD lo G fo fd H locs) (hsize : ls.size = 9) (hcs : cells ≤ room_1.cells ∧ slots ≤ room_1.slots) (hsum : (rest.map fun v => v.category).sum ≤ 8) (hdg : decode cL_law pc = .ok (.invokevirtual 111, 3))
    (kk : ∀ (H1 : Heap) (locs1 : List Loc), lwHp s D K cO cD lo G fo fd H1 locs1 → W p l e room_1 s m #[Value.ref b] below meth c H1 locs1 cells slots Q (F0 m (pc + 3) ls (.int (G 122 6) :: rest))) : W p l e room_1 s m #[Value.ref b] below meth c H locs cells slots Q (F0 m pc ls (.ref (lo + 122) :: rest)) :=
  lwMod (as := []) (a := 122) (ci := 8) (ix := 111) (n := 0) (M_thrown G) (Nat.le_of_ble_eq_true rfl) C hH (by decide) rfl rfl rfl hsize (List.forall_mem_cons.mpr ⟨gw_of 1089 (by decide +kernel), List.forall_mem_cons.mpr ⟨gw_of 1090 (by decide +kernel), List.forall_mem_cons.mpr ⟨gw_of 1091 (by decide +kernel), List.forall_mem_cons.mpr ⟨gw_of 9 (by decide +kernel), zwl_in (gw_of 1092 (by decide +kernel))⟩⟩⟩⟩) ⟨rfl, by decide, by decide, by decide +kernel⟩ (Nat.le_of_ble_eq_true rfl) (Nat.le_of_ble_eq_true rfl) hcs hsum hdg kk
theorem lwTail {q0 j : Nat} {off : Int} {v : Int32} {r : zRt} {f : Nat → Int32} {ls : Array Slot} (C : lwC p l s m c b L xs D K cO cD lo) (I : lwI G) (hH : lwHp s D K cO cD lo G (zhf fo r) fd H locs) (hl : lv_has ls 9 ((7, .int v) :: (6, .int (zhk f r)) :: lwV b lo j)) (hR : zRf r f v (G 122 6)) (hcs : cells + 1 ≤ room_1.cells ∧ slots + 6 ≤ room_1.slots)
    (d0 : decode cL_law q0 = .ok (.aload_n 2, 1)) (d1 : decode cL_law (q0 + 1) = .ok (.invokevirtual 111, 3)) (d2 : decode cL_law (q0 + 4) = .ok (.iload 6, 2)) (d3 : decode cL_law (q0 + 6) = .ok (.if_icmp .eq 5, 3)) (d4 : decode cL_law (q0 + 11) = .ok (.iload 6, 2)) (d5 : decode cL_law (q0 + 13) = .ok (.ifCond .ne 15, 3)) (d6 : decode cL_law (q0 + 16) = .ok (.aload_n 3, 1)) (d7 : decode cL_law (q0 + 17) = .ok (.iconst 0, 1)) (d8 : decode cL_law (q0 + 18) = .ok (.laload, 1)) (d9 : decode cL_law (q0 + 19) = .ok (.iload 7, 2)) (d10 : decode cL_law (q0 + 21) = .ok (.i2l, 1)) (d11 : decode cL_law (q0 + 22) = .ok (.lcmp, 1)) (d12 : decode cL_law (q0 + 23) = .ok (.ifCond .eq 5, 3)) (d13 : decode cL_law (q0 + 28) = .ok (.goto off, 3)) (ht : ((q0 + 28 : Nat) : Int) + off = ((1692 : Nat) : Int))
    (kk : lwK p l e s m b below meth c D K cO cD lo Q cells slots j) : W p l e room_1 s m #[Value.ref b] below meth c H locs (cells + 1) (slots + 6) Q (F0 m q0 ls []) := by
  have hx := C.1.1
  have hb := C.1.2.1
  have he : G 122 6 = zhk f r := by
    rcases hR with ⟨v', h1, h2, -⟩ | ⟨e0, h1, h2, -⟩
    · rw [h1, h2]; rfl
    · rw [h1, h2]; rfl
  refine lv_aload_n hx hb d0 rfl (lv_at hl 5 rfl) ?_
  refine lwThr C hH hl.1 hcs (Nat.zero_le _) d1 (fun H1 L1 hH => ?_)
  refine lv_iload hx hb d2 (lv_at hl 1 rfl) ?_
  refine lv_icmp_eq (tgt := q0 + 11) hx hb d3 (by omega) (fun _ => ?_) (fun hc => absurd he hc)
  refine lv_iload hx hb d4 (lv_at hl 1 rfl) ?_
  have fin : ∀ (H2 : Heap) (L2 : List Loc), lwHp s D K cO cD lo G (zhf fo r) fd H2 L2 → W p l e room_1 s m #[Value.ref b] below meth c H2 L2 (cells + 1) (slots + 6) Q (F0 m (q0 + 28) ls []) := fun H2 L2 h2 => lv_goto (tgt := 1692) hx hb d13 ht (kk G _ _ _ _ _ I h2 (lv_sub hl [2, 3, 4, 5, 6, 7] rfl))
  refine lv_if_ne (tgt := q0 + 28) hx hb d5 (by omega) (fun _ => fin _ _ hH) (fun hc => ?_)
  rcases hR with ⟨v', h1, -, h3⟩ | ⟨e0, h1, h2, h3⟩
  · subst h1
    subst h3
    refine lv_aload_n hx hb d6 rfl (lv_at hl 4 rfl) ?_
    refine lv_iconst (v := 0) hx hb d7 rfl ?_
    refine va_lald hx hb C.2.2.2.2.1 hH.2.1 0 0 rfl rfl (by unfold vp_in; decide) d8 ?_
    rw [show zhf fo (.inl (some (.int v))) (0 : Int32).toNatClampNeg = v.toInt64 by show vp_updL fo _ _ _ = _; unfold vp_updL; rw [if_pos rfl]]
    refine lv_iload hx hb d9 (lv_at hl 0 rfl) ?_
    refine lv_i2l hx hb d10 rfl ?_
    refine W.lcmp hx hb d11 ?_
    rw [lg_eq]
    exact lv_if_eq (tgt := q0 + 28) hx hb d12 (by omega) (fun _ => fin _ _ hH) (fun hc => absurd rfl hc)
  · exact absurd (he.trans hc) h3
theorem lc_addNode {j : Nat} {ls : Array Slot} (C : lwC p l s m c b L xs D K cO cD lo) (I : lwI G) (hH : lwHp s D K cO cD lo G fo fd H locs) (hl : lv_has ls 9 (lwV b lo j)) (hj : 3 * j + 3 ≤ L) (hcs : cells + 1 ≤ room_1.cells ∧ slots + 6 ≤ room_1.slots) (kk : lwK p l e s m b below meth c D K cO cD lo Q cells slots j) : W p l e room_1 s m #[Value.ref b] below meth c H locs cells slots Q (F0 m 180 ls []) := by
  have hx := C.1.1
  have hb := C.1.2.1
  obtain ⟨G1, G2, r, v, hM, hr, c2, hR, I2⟩ := lp_addNode (D := D) (K := K) (lo := lo) C.2.2.2.2.2.2.2.1 I (xs (3 * j + 1))
  refine lv_aload_n hx hb dL_law_180 rfl (lv_at hl 4 rfl) ?_
  refine lwArg (k := 1) C hH (by omega) (by decide) (lv_at hl 5 rfl) (lv_at hl 0 rfl) dL_law_181 dL_law_182 dL_law_184 dL_law_185 dL_law_186 ?_
  refine lv_aload_n hx hb dL_law_187 rfl (lv_at hl 2 rfl) ?_
  refine lwHelp (As := [Value.ref lo, Value.int (xs (3 * j + 1)), Value.ref (lo + 139)]) (rest := []) (n := 3) (ix := 105) (zh_addNode (cO := cO) (f := fo) hM hr) C hH ⟨rfl, rfl⟩ (List.forall_mem_cons.mpr ⟨gw_of 338 (by decide +kernel), List.forall_mem_cons.mpr ⟨gw_of 339 (by decide +kernel), List.forall_mem_cons.mpr ⟨gw_of 0 (by decide +kernel), List.forall_mem_cons.mpr ⟨gw_of 340 (by decide +kernel), fun _ h => h⟩⟩⟩⟩) ⟨by decide, by decide, by decide +kernel⟩ ⟨Nat.le_of_ble_eq_true rfl, Nat.le_of_ble_eq_true rfl⟩ rfl hl.1 hcs (Nat.zero_le _) dL_law_188 (fun H1 L1 hH => ?_)
  refine lv_istore (lv' := (6, .int _) :: lwV b lo j) hx hb dL_law_191 hl (by decide) rfl (fun ls hl => ?_)
  refine lv_aload_n hx hb dL_law_193 rfl (lv_at hl 4 rfl) ?_
  refine lwArg (k := 1) C hH (by omega) (by decide) (lv_at hl 6 rfl) (lv_at hl 1 rfl) dL_law_194 dL_law_195 dL_law_197 dL_law_198 dL_law_199 ?_
  refine lwMod (as := [.int (xs (3 * j + 1))]) (a := 122) (ci := 8) (ix := 110) (n := 1) (rest := []) c2 (Nat.le_of_ble_eq_true rfl) C hH (by decide) rfl rfl rfl hl.1 (List.forall_mem_cons.mpr ⟨gw_of 1093 (by decide +kernel), List.forall_mem_cons.mpr ⟨gw_of 1094 (by decide +kernel), List.forall_mem_cons.mpr ⟨gw_of 1095 (by decide +kernel), List.forall_mem_cons.mpr ⟨gw_of 9 (by decide +kernel), zwl_in (gw_of 1096 (by decide +kernel))⟩⟩⟩⟩) ⟨rfl, by decide, by decide, by decide +kernel⟩ (Nat.le_of_ble_eq_true rfl) (Nat.le_of_ble_eq_true rfl) hcs (Nat.zero_le _) dL_law_200 (fun H1 L1 hH => ?_)
  refine lv_istore (lv' := (7, .int v) :: (6, .int _) :: lwV b lo j) hx hb dL_law_203 hl (by decide) rfl (fun ls hl => ?_)
  exact lwTail C I2 hH hl hR hcs dL_law_205 dL_law_206 dL_law_209 dL_law_211 dL_law_216 dL_law_218 dL_law_221 dL_law_222 dL_law_223 dL_law_224 dL_law_226 dL_law_227 dL_law_228 dL_law_233 (by decide) kk
theorem lc_drain {j : Nat} {ls : Array Slot} (C : lwC p l s m c b L xs D K cO cD lo) (I : lwI G) (hH : lwHp s D K cO cD lo G fo fd H locs) (hl : lv_has ls 9 (lwV b lo j)) (hj : 3 * j + 3 ≤ L) (hcs : cells + 1 ≤ room_1.cells ∧ slots + 6 ≤ room_1.slots) (kk : lwK p l e s m b below meth c D K cO cD lo Q cells slots j) : W p l e room_1 s m #[Value.ref b] below meth c H locs cells slots Q (F0 m 236 ls []) := by
  have hx := C.1.1
  have hb := C.1.2.1
  obtain ⟨G1, G2, r, v, hM, hr, c2, hR, I2⟩ := lp_drain (D := D) (K := K) (lo := lo) C.2.2.2.2.2.2.2.1 I (xs (3 * j + 1))
  refine lv_aload_n hx hb dL_law_236 rfl (lv_at hl 4 rfl) ?_
  refine lwArg (k := 1) C hH (by omega) (by decide) (lv_at hl 5 rfl) (lv_at hl 0 rfl) dL_law_237 dL_law_238 dL_law_240 dL_law_241 dL_law_242 ?_
  refine lv_aload_n hx hb dL_law_243 rfl (lv_at hl 2 rfl) ?_
  refine lwHelp (As := [Value.ref lo, Value.int (xs (3 * j + 1)), Value.ref (lo + 139)]) (rest := []) (n := 3) (ix := 114) (zh_drain (cO := cO) (f := fo) hM hr) C hH ⟨rfl, rfl⟩ (List.forall_mem_cons.mpr ⟨gw_of 467 (by decide +kernel), List.forall_mem_cons.mpr ⟨gw_of 468 (by decide +kernel), List.forall_mem_cons.mpr ⟨gw_of 0 (by decide +kernel), List.forall_mem_cons.mpr ⟨gw_of 469 (by decide +kernel), fun _ h => h⟩⟩⟩⟩) ⟨by decide, by decide, by decide +kernel⟩ ⟨Nat.le_of_ble_eq_true rfl, Nat.le_of_ble_eq_true rfl⟩ rfl hl.1 hcs (Nat.zero_le _) dL_law_244 (fun H1 L1 hH => ?_)
  refine lv_istore (lv' := (6, .int _) :: lwV b lo j) hx hb dL_law_247 hl (by decide) rfl (fun ls hl => ?_)
  refine lv_aload_n hx hb dL_law_249 rfl (lv_at hl 4 rfl) ?_
  refine lwArg (k := 1) C hH (by omega) (by decide) (lv_at hl 6 rfl) (lv_at hl 1 rfl) dL_law_250 dL_law_251 dL_law_253 dL_law_254 dL_law_255 ?_
  refine lwMod (as := [.int (xs (3 * j + 1))]) (a := 122) (ci := 8) (ix := 116) (n := 1) (rest := []) c2 (Nat.le_of_ble_eq_true rfl) C hH (by decide) rfl rfl rfl hl.1 (List.forall_mem_cons.mpr ⟨gw_of 1124 (by decide +kernel), List.forall_mem_cons.mpr ⟨gw_of 1125 (by decide +kernel), List.forall_mem_cons.mpr ⟨gw_of 1126 (by decide +kernel), List.forall_mem_cons.mpr ⟨gw_of 9 (by decide +kernel), zwl_in (gw_of 1127 (by decide +kernel))⟩⟩⟩⟩) ⟨rfl, by decide, by decide, by decide +kernel⟩ (Nat.le_of_ble_eq_true rfl) (Nat.le_of_ble_eq_true rfl) hcs (Nat.zero_le _) dL_law_256 (fun H1 L1 hH => ?_)
  refine lv_istore (lv' := (7, .int v) :: (6, .int _) :: lwV b lo j) hx hb dL_law_259 hl (by decide) rfl (fun ls hl => ?_)
  exact lwTail C I2 hH hl hR hcs dL_law_261 dL_law_262 dL_law_265 dL_law_267 dL_law_272 dL_law_274 dL_law_277 dL_law_278 dL_law_279 dL_law_280 dL_law_282 dL_law_283 dL_law_284 dL_law_289 (by decide) kk
theorem lc_fail {j : Nat} {ls : Array Slot} (C : lwC p l s m c b L xs D K cO cD lo) (I : lwI G) (hH : lwHp s D K cO cD lo G fo fd H locs) (hl : lv_has ls 9 (lwV b lo j)) (hj : 3 * j + 3 ≤ L) (hcs : cells + 1 ≤ room_1.cells ∧ slots + 6 ≤ room_1.slots) (kk : lwK p l e s m b below meth c D K cO cD lo Q cells slots j) : W p l e room_1 s m #[Value.ref b] below meth c H locs cells slots Q (F0 m 292 ls []) := by
  have hx := C.1.1
  have hb := C.1.2.1
  obtain ⟨G1, G2, r, v, hM, hr, c2, hR, I2⟩ := lp_fail (D := D) (K := K) (lo := lo) C.2.2.2.2.2.2.2.1 I (xs (3 * j + 1))
  refine lv_aload_n hx hb dL_law_292 rfl (lv_at hl 4 rfl) ?_
  refine lwArg (k := 1) C hH (by omega) (by decide) (lv_at hl 5 rfl) (lv_at hl 0 rfl) dL_law_293 dL_law_294 dL_law_296 dL_law_297 dL_law_298 ?_
  refine lv_aload_n hx hb dL_law_299 rfl (lv_at hl 2 rfl) ?_
  refine lwHelp (As := [Value.ref lo, Value.int (xs (3 * j + 1)), Value.ref (lo + 139)]) (rest := []) (n := 3) (ix := 117) (zh_fail (cO := cO) (f := fo) hM hr) C hH ⟨rfl, rfl⟩ (List.forall_mem_cons.mpr ⟨gw_of 526 (by decide +kernel), List.forall_mem_cons.mpr ⟨gw_of 527 (by decide +kernel), List.forall_mem_cons.mpr ⟨gw_of 0 (by decide +kernel), List.forall_mem_cons.mpr ⟨gw_of 528 (by decide +kernel), fun _ h => h⟩⟩⟩⟩) ⟨by decide, by decide, by decide +kernel⟩ ⟨Nat.le_of_ble_eq_true rfl, Nat.le_of_ble_eq_true rfl⟩ rfl hl.1 hcs (Nat.zero_le _) dL_law_300 (fun H1 L1 hH => ?_)
  refine lv_istore (lv' := (6, .int _) :: lwV b lo j) hx hb dL_law_303 hl (by decide) rfl (fun ls hl => ?_)
  refine lv_aload_n hx hb dL_law_305 rfl (lv_at hl 4 rfl) ?_
  refine lwArg (k := 1) C hH (by omega) (by decide) (lv_at hl 6 rfl) (lv_at hl 1 rfl) dL_law_306 dL_law_307 dL_law_309 dL_law_310 dL_law_311 ?_
  refine lwMod (as := [.int (xs (3 * j + 1))]) (a := 122) (ci := 8) (ix := 119) (n := 1) (rest := []) c2 (Nat.le_of_ble_eq_true rfl) C hH (by decide) rfl rfl rfl hl.1 (List.forall_mem_cons.mpr ⟨gw_of 1143 (by decide +kernel), List.forall_mem_cons.mpr ⟨gw_of 1144 (by decide +kernel), List.forall_mem_cons.mpr ⟨gw_of 1145 (by decide +kernel), List.forall_mem_cons.mpr ⟨gw_of 9 (by decide +kernel), zwl_in (gw_of 1146 (by decide +kernel))⟩⟩⟩⟩) ⟨rfl, by decide, by decide, by decide +kernel⟩ (Nat.le_of_ble_eq_true rfl) (Nat.le_of_ble_eq_true rfl) hcs (Nat.zero_le _) dL_law_312 (fun H1 L1 hH => ?_)
  refine lv_istore (lv' := (7, .int v) :: (6, .int _) :: lwV b lo j) hx hb dL_law_315 hl (by decide) rfl (fun ls hl => ?_)
  exact lwTail C I2 hH hl hR hcs dL_law_317 dL_law_318 dL_law_321 dL_law_323 dL_law_328 dL_law_330 dL_law_333 dL_law_334 dL_law_335 dL_law_336 dL_law_338 dL_law_339 dL_law_340 dL_law_345 (by decide) kk
theorem lc_recover {j : Nat} {ls : Array Slot} (C : lwC p l s m c b L xs D K cO cD lo) (I : lwI G) (hH : lwHp s D K cO cD lo G fo fd H locs) (hl : lv_has ls 9 (lwV b lo j)) (hj : 3 * j + 3 ≤ L) (hcs : cells + 1 ≤ room_1.cells ∧ slots + 6 ≤ room_1.slots) (kk : lwK p l e s m b below meth c D K cO cD lo Q cells slots j) : W p l e room_1 s m #[Value.ref b] below meth c H locs cells slots Q (F0 m 348 ls []) := by
  have hx := C.1.1
  have hb := C.1.2.1
  obtain ⟨G1, G2, r, v, hM, hr, c2, hR, I2⟩ := lp_recover (D := D) (K := K) (lo := lo) C.2.2.2.2.2.2.2.1 I (xs (3 * j + 1))
  refine lv_aload_n hx hb dL_law_348 rfl (lv_at hl 4 rfl) ?_
  refine lwArg (k := 1) C hH (by omega) (by decide) (lv_at hl 5 rfl) (lv_at hl 0 rfl) dL_law_349 dL_law_350 dL_law_352 dL_law_353 dL_law_354 ?_
  refine lv_aload_n hx hb dL_law_355 rfl (lv_at hl 2 rfl) ?_
  refine lwHelp (As := [Value.ref lo, Value.int (xs (3 * j + 1)), Value.ref (lo + 139)]) (rest := []) (n := 3) (ix := 120) (zh_recover (cO := cO) (f := fo) hM hr) C hH ⟨rfl, rfl⟩ (List.forall_mem_cons.mpr ⟨gw_of 538 (by decide +kernel), List.forall_mem_cons.mpr ⟨gw_of 539 (by decide +kernel), List.forall_mem_cons.mpr ⟨gw_of 0 (by decide +kernel), List.forall_mem_cons.mpr ⟨gw_of 540 (by decide +kernel), fun _ h => h⟩⟩⟩⟩) ⟨by decide, by decide, by decide +kernel⟩ ⟨Nat.le_of_ble_eq_true rfl, Nat.le_of_ble_eq_true rfl⟩ rfl hl.1 hcs (Nat.zero_le _) dL_law_356 (fun H1 L1 hH => ?_)
  refine lv_istore (lv' := (6, .int _) :: lwV b lo j) hx hb dL_law_359 hl (by decide) rfl (fun ls hl => ?_)
  refine lv_aload_n hx hb dL_law_361 rfl (lv_at hl 4 rfl) ?_
  refine lwArg (k := 1) C hH (by omega) (by decide) (lv_at hl 6 rfl) (lv_at hl 1 rfl) dL_law_362 dL_law_363 dL_law_365 dL_law_366 dL_law_367 ?_
  refine lwMod (as := [.int (xs (3 * j + 1))]) (a := 122) (ci := 8) (ix := 122) (n := 1) (rest := []) c2 (Nat.le_of_ble_eq_true rfl) C hH (by decide) rfl rfl rfl hl.1 (List.forall_mem_cons.mpr ⟨gw_of 1151 (by decide +kernel), List.forall_mem_cons.mpr ⟨gw_of 1152 (by decide +kernel), List.forall_mem_cons.mpr ⟨gw_of 1153 (by decide +kernel), List.forall_mem_cons.mpr ⟨gw_of 9 (by decide +kernel), zwl_in (gw_of 1154 (by decide +kernel))⟩⟩⟩⟩) ⟨rfl, by decide, by decide, by decide +kernel⟩ (Nat.le_of_ble_eq_true rfl) (Nat.le_of_ble_eq_true rfl) hcs (Nat.zero_le _) dL_law_368 (fun H1 L1 hH => ?_)
  refine lv_istore (lv' := (7, .int v) :: (6, .int _) :: lwV b lo j) hx hb dL_law_371 hl (by decide) rfl (fun ls hl => ?_)
  exact lwTail C I2 hH hl hR hcs dL_law_373 dL_law_374 dL_law_377 dL_law_379 dL_law_384 dL_law_386 dL_law_389 dL_law_390 dL_law_391 dL_law_392 dL_law_394 dL_law_395 dL_law_396 dL_law_401 (by decide) kk
theorem lc_setWeight {j : Nat} {ls : Array Slot} (C : lwC p l s m c b L xs D K cO cD lo) (I : lwI G) (hH : lwHp s D K cO cD lo G fo fd H locs) (hl : lv_has ls 9 (lwV b lo j)) (hj : 3 * j + 3 ≤ L) (hcs : cells + 1 ≤ room_1.cells ∧ slots + 6 ≤ room_1.slots) (kk : lwK p l e s m b below meth c D K cO cD lo Q cells slots j) : W p l e room_1 s m #[Value.ref b] below meth c H locs cells slots Q (F0 m 404 ls []) := by
  have hx := C.1.1
  have hb := C.1.2.1
  obtain ⟨G1, G2, r, v, hM, hr, c2, hR, I2⟩ := lp_setWeight (D := D) (K := K) (lo := lo) C.2.2.2.2.2.2.2.1 I (xs (3 * j + 1)) (xs (3 * j + 2))
  refine lv_aload_n hx hb dL_law_404 rfl (lv_at hl 4 rfl) ?_
  refine lwArg (k := 1) C hH (by omega) (by decide) (lv_at hl 5 rfl) (lv_at hl 0 rfl) dL_law_405 dL_law_406 dL_law_408 dL_law_409 dL_law_410 ?_
  refine lwArg (k := 2) C hH (by omega) (by decide) (lv_at hl 5 rfl) (lv_at hl 0 rfl) dL_law_411 dL_law_412 dL_law_414 dL_law_415 dL_law_416 ?_
  refine lv_aload_n hx hb dL_law_417 rfl (lv_at hl 2 rfl) ?_
  refine lwHelp (As := [Value.ref lo, Value.int (xs (3 * j + 1)), Value.int (xs (3 * j + 2)), Value.ref (lo + 139)]) (rest := []) (n := 4) (ix := 123) (zh_setWeight (cO := cO) (f := fo) hM hr) C hH ⟨rfl, rfl⟩ (List.forall_mem_cons.mpr ⟨gw_of 551 (by decide +kernel), List.forall_mem_cons.mpr ⟨gw_of 552 (by decide +kernel), List.forall_mem_cons.mpr ⟨gw_of 0 (by decide +kernel), List.forall_mem_cons.mpr ⟨gw_of 553 (by decide +kernel), fun _ h => h⟩⟩⟩⟩) ⟨by decide, by decide, by decide +kernel⟩ ⟨Nat.le_of_ble_eq_true rfl, Nat.le_of_ble_eq_true rfl⟩ rfl hl.1 hcs (Nat.zero_le _) dL_law_418 (fun H1 L1 hH => ?_)
  refine lv_istore (lv' := (6, .int _) :: lwV b lo j) hx hb dL_law_421 hl (by decide) rfl (fun ls hl => ?_)
  refine lv_aload_n hx hb dL_law_423 rfl (lv_at hl 4 rfl) ?_
  refine lwArg (k := 1) C hH (by omega) (by decide) (lv_at hl 6 rfl) (lv_at hl 1 rfl) dL_law_424 dL_law_425 dL_law_427 dL_law_428 dL_law_429 ?_
  refine lwArg (k := 2) C hH (by omega) (by decide) (lv_at hl 6 rfl) (lv_at hl 1 rfl) dL_law_430 dL_law_431 dL_law_433 dL_law_434 dL_law_435 ?_
  refine lwMod (as := [.int (xs (3 * j + 1)), .int (xs (3 * j + 2))]) (a := 122) (ci := 8) (ix := 126) (n := 2) (rest := []) c2 (Nat.le_of_ble_eq_true rfl) C hH (by decide) rfl rfl rfl hl.1 (List.forall_mem_cons.mpr ⟨gw_of 1159 (by decide +kernel), List.forall_mem_cons.mpr ⟨gw_of 1160 (by decide +kernel), List.forall_mem_cons.mpr ⟨gw_of 1161 (by decide +kernel), List.forall_mem_cons.mpr ⟨gw_of 9 (by decide +kernel), zwl_in (gw_of 1162 (by decide +kernel))⟩⟩⟩⟩) ⟨rfl, by decide, by decide, by decide +kernel⟩ (Nat.le_of_ble_eq_true rfl) (Nat.le_of_ble_eq_true rfl) hcs (Nat.zero_le _) dL_law_436 (fun H1 L1 hH => ?_)
  refine lv_istore (lv' := (7, .int v) :: (6, .int _) :: lwV b lo j) hx hb dL_law_439 hl (by decide) rfl (fun ls hl => ?_)
  exact lwTail C I2 hH hl hR hcs dL_law_441 dL_law_442 dL_law_445 dL_law_447 dL_law_452 dL_law_454 dL_law_457 dL_law_458 dL_law_459 dL_law_460 dL_law_462 dL_law_463 dL_law_464 dL_law_469 (by decide) kk
theorem lc_node {j : Nat} {ls : Array Slot} (C : lwC p l s m c b L xs D K cO cD lo) (I : lwI G) (hH : lwHp s D K cO cD lo G fo fd H locs) (hl : lv_has ls 9 (lwV b lo j)) (hj : 3 * j + 3 ≤ L) (hcs : cells + 1 ≤ room_1.cells ∧ slots + 6 ≤ room_1.slots) (kk : lwK p l e s m b below meth c D K cO cD lo Q cells slots j) : W p l e room_1 s m #[Value.ref b] below meth c H locs cells slots Q (F0 m 472 ls []) := by
  have hx := C.1.1
  have hb := C.1.2.1
  obtain ⟨G1, G2, r, v, hM, hr, c2, hR, I2⟩ := lp_node (D := D) (K := K) (lo := lo) C.2.2.2.2.2.2.2.1 I (xs (3 * j + 1)) (xs (3 * j + 2))
  refine lv_aload_n hx hb dL_law_472 rfl (lv_at hl 4 rfl) ?_
  refine lwArg (k := 1) C hH (by omega) (by decide) (lv_at hl 5 rfl) (lv_at hl 0 rfl) dL_law_473 dL_law_474 dL_law_476 dL_law_477 dL_law_478 ?_
  refine lwArg (k := 2) C hH (by omega) (by decide) (lv_at hl 5 rfl) (lv_at hl 0 rfl) dL_law_479 dL_law_480 dL_law_482 dL_law_483 dL_law_484 ?_
  refine lv_aload_n hx hb dL_law_485 rfl (lv_at hl 2 rfl) ?_
  refine lwHelp (As := [Value.ref lo, Value.int (xs (3 * j + 1)), Value.int (xs (3 * j + 2)), Value.ref (lo + 139)]) (rest := []) (n := 4) (ix := 127) (zh_node (cO := cO) (f := fo) hM hr) C hH ⟨rfl, rfl⟩ (List.forall_mem_cons.mpr ⟨gw_of 560 (by decide +kernel), List.forall_mem_cons.mpr ⟨gw_of 561 (by decide +kernel), List.forall_mem_cons.mpr ⟨gw_of 0 (by decide +kernel), List.forall_mem_cons.mpr ⟨gw_of 562 (by decide +kernel), fun _ h => h⟩⟩⟩⟩) ⟨by decide, by decide, by decide +kernel⟩ ⟨Nat.le_of_ble_eq_true rfl, Nat.le_of_ble_eq_true rfl⟩ rfl hl.1 hcs (Nat.zero_le _) dL_law_486 (fun H1 L1 hH => ?_)
  refine lv_istore (lv' := (6, .int _) :: lwV b lo j) hx hb dL_law_489 hl (by decide) rfl (fun ls hl => ?_)
  refine lv_aload_n hx hb dL_law_491 rfl (lv_at hl 4 rfl) ?_
  refine lwArg (k := 1) C hH (by omega) (by decide) (lv_at hl 6 rfl) (lv_at hl 1 rfl) dL_law_492 dL_law_493 dL_law_495 dL_law_496 dL_law_497 ?_
  refine lwArg (k := 2) C hH (by omega) (by decide) (lv_at hl 6 rfl) (lv_at hl 1 rfl) dL_law_498 dL_law_499 dL_law_501 dL_law_502 dL_law_503 ?_
  refine lwMod (as := [.int (xs (3 * j + 1)), .int (xs (3 * j + 2))]) (a := 122) (ci := 8) (ix := 129) (n := 2) (rest := []) c2 (Nat.le_of_ble_eq_true rfl) C hH (by decide) rfl rfl rfl hl.1 (List.forall_mem_cons.mpr ⟨gw_of 1247 (by decide +kernel), List.forall_mem_cons.mpr ⟨gw_of 1248 (by decide +kernel), List.forall_mem_cons.mpr ⟨gw_of 1249 (by decide +kernel), List.forall_mem_cons.mpr ⟨gw_of 9 (by decide +kernel), zwl_in (gw_of 1250 (by decide +kernel))⟩⟩⟩⟩) ⟨rfl, by decide, by decide, by decide +kernel⟩ (Nat.le_of_ble_eq_true rfl) (Nat.le_of_ble_eq_true rfl) hcs (Nat.zero_le _) dL_law_504 (fun H1 L1 hH => ?_)
  refine lv_istore (lv' := (7, .int v) :: (6, .int _) :: lwV b lo j) hx hb dL_law_507 hl (by decide) rfl (fun ls hl => ?_)
  exact lwTail C I2 hH hl hR hcs dL_law_509 dL_law_510 dL_law_513 dL_law_515 dL_law_520 dL_law_522 dL_law_525 dL_law_526 dL_law_527 dL_law_528 dL_law_530 dL_law_531 dL_law_532 dL_law_537 (by decide) kk
theorem lc_nodes {j : Nat} {ls : Array Slot} (C : lwC p l s m c b L xs D K cO cD lo) (I : lwI G) (hH : lwHp s D K cO cD lo G fo fd H locs) (hl : lv_has ls 9 (lwV b lo j)) (hj : 3 * j + 3 ≤ L) (hcs : cells + 1 ≤ room_1.cells ∧ slots + 6 ≤ room_1.slots) (kk : lwK p l e s m b below meth c D K cO cD lo Q cells slots j) : W p l e room_1 s m #[Value.ref b] below meth c H locs cells slots Q (F0 m 540 ls []) := by
  have hx := C.1.1
  have hb := C.1.2.1
  obtain ⟨G1, G2, r, v, hM, hr, c2, hR, I2⟩ := lp_nodes (D := D) (K := K) (lo := lo) C.2.2.2.2.2.2.2.1 I (xs (3 * j + 1))
  refine lv_aload_n hx hb dL_law_540 rfl (lv_at hl 4 rfl) ?_
  refine lwArg (k := 1) C hH (by omega) (by decide) (lv_at hl 5 rfl) (lv_at hl 0 rfl) dL_law_541 dL_law_542 dL_law_544 dL_law_545 dL_law_546 ?_
  refine lv_aload_n hx hb dL_law_547 rfl (lv_at hl 2 rfl) ?_
  refine lwHelp (As := [Value.ref lo, Value.int (xs (3 * j + 1)), Value.ref (lo + 139)]) (rest := []) (n := 3) (ix := 130) (zh_nodes (cO := cO) (f := fo) hM hr) C hH ⟨rfl, rfl⟩ (List.forall_mem_cons.mpr ⟨gw_of 593 (by decide +kernel), List.forall_mem_cons.mpr ⟨gw_of 594 (by decide +kernel), List.forall_mem_cons.mpr ⟨gw_of 0 (by decide +kernel), List.forall_mem_cons.mpr ⟨gw_of 595 (by decide +kernel), fun _ h => h⟩⟩⟩⟩) ⟨by decide, by decide, by decide +kernel⟩ ⟨Nat.le_of_ble_eq_true rfl, Nat.le_of_ble_eq_true rfl⟩ rfl hl.1 hcs (Nat.zero_le _) dL_law_548 (fun H1 L1 hH => ?_)
  refine lv_istore (lv' := (6, .int _) :: lwV b lo j) hx hb dL_law_551 hl (by decide) rfl (fun ls hl => ?_)
  refine lv_aload_n hx hb dL_law_553 rfl (lv_at hl 4 rfl) ?_
  refine lwArg (k := 1) C hH (by omega) (by decide) (lv_at hl 6 rfl) (lv_at hl 1 rfl) dL_law_554 dL_law_555 dL_law_557 dL_law_558 dL_law_559 ?_
  refine lwMod (as := [.int (xs (3 * j + 1))]) (a := 122) (ci := 8) (ix := 132) (n := 1) (rest := []) c2 (Nat.le_of_ble_eq_true rfl) C hH (by decide) rfl rfl rfl hl.1 (List.forall_mem_cons.mpr ⟨gw_of 1251 (by decide +kernel), List.forall_mem_cons.mpr ⟨gw_of 1252 (by decide +kernel), List.forall_mem_cons.mpr ⟨gw_of 1253 (by decide +kernel), List.forall_mem_cons.mpr ⟨gw_of 9 (by decide +kernel), zwl_in (gw_of 1254 (by decide +kernel))⟩⟩⟩⟩) ⟨rfl, by decide, by decide, by decide +kernel⟩ (Nat.le_of_ble_eq_true rfl) (Nat.le_of_ble_eq_true rfl) hcs (Nat.zero_le _) dL_law_560 (fun H1 L1 hH => ?_)
  refine lv_istore (lv' := (7, .int v) :: (6, .int _) :: lwV b lo j) hx hb dL_law_563 hl (by decide) rfl (fun ls hl => ?_)
  exact lwTail C I2 hH hl hR hcs dL_law_565 dL_law_566 dL_law_569 dL_law_571 dL_law_576 dL_law_578 dL_law_581 dL_law_582 dL_law_583 dL_law_584 dL_law_586 dL_law_587 dL_law_588 dL_law_593 (by decide) kk
theorem lc_set {j : Nat} {ls : Array Slot} (C : lwC p l s m c b L xs D K cO cD lo) (I : lwI G) (hH : lwHp s D K cO cD lo G fo fd H locs) (hl : lv_has ls 9 (lwV b lo j)) (hj : 3 * j + 3 ≤ L) (hcs : cells + 1 ≤ room_1.cells ∧ slots + 6 ≤ room_1.slots) (kk : lwK p l e s m b below meth c D K cO cD lo Q cells slots j) : W p l e room_1 s m #[Value.ref b] below meth c H locs cells slots Q (F0 m 596 ls []) := by
  have hx := C.1.1
  have hb := C.1.2.1
  obtain ⟨G1, G2, r, v, hM, hr, c2, hR, I2⟩ := lp_set (D := D) (K := K) (lo := lo) C.2.2.2.2.2.2.2.1 I (xs (3 * j + 1)) (xs (3 * j + 2))
  refine lv_aload_n hx hb dL_law_596 rfl (lv_at hl 4 rfl) ?_
  refine lwArg (k := 1) C hH (by omega) (by decide) (lv_at hl 5 rfl) (lv_at hl 0 rfl) dL_law_597 dL_law_598 dL_law_600 dL_law_601 dL_law_602 ?_
  refine lwArg (k := 2) C hH (by omega) (by decide) (lv_at hl 5 rfl) (lv_at hl 0 rfl) dL_law_603 dL_law_604 dL_law_606 dL_law_607 dL_law_608 ?_
  refine lv_aload_n hx hb dL_law_609 rfl (lv_at hl 2 rfl) ?_
  refine lwHelp (As := [Value.ref lo, Value.int (xs (3 * j + 1)), Value.int (xs (3 * j + 2)), Value.ref (lo + 139)]) (rest := []) (n := 4) (ix := 133) (zh_set (cO := cO) (f := fo) hM hr) C hH ⟨rfl, rfl⟩ (List.forall_mem_cons.mpr ⟨gw_of 602 (by decide +kernel), List.forall_mem_cons.mpr ⟨gw_of 603 (by decide +kernel), List.forall_mem_cons.mpr ⟨gw_of 0 (by decide +kernel), List.forall_mem_cons.mpr ⟨gw_of 604 (by decide +kernel), fun _ h => h⟩⟩⟩⟩) ⟨by decide, by decide, by decide +kernel⟩ ⟨Nat.le_of_ble_eq_true rfl, Nat.le_of_ble_eq_true rfl⟩ rfl hl.1 hcs (Nat.zero_le _) dL_law_610 (fun H1 L1 hH => ?_)
  refine lv_istore (lv' := (6, .int _) :: lwV b lo j) hx hb dL_law_613 hl (by decide) rfl (fun ls hl => ?_)
  refine lv_aload_n hx hb dL_law_615 rfl (lv_at hl 4 rfl) ?_
  refine lwArg (k := 1) C hH (by omega) (by decide) (lv_at hl 6 rfl) (lv_at hl 1 rfl) dL_law_616 dL_law_617 dL_law_619 dL_law_620 dL_law_621 ?_
  refine lwArg (k := 2) C hH (by omega) (by decide) (lv_at hl 6 rfl) (lv_at hl 1 rfl) dL_law_622 dL_law_623 dL_law_625 dL_law_626 dL_law_627 ?_
  refine lwMod (as := [.int (xs (3 * j + 1)), .int (xs (3 * j + 2))]) (a := 122) (ci := 8) (ix := 135) (n := 2) (rest := []) c2 (Nat.le_of_ble_eq_true rfl) C hH (by decide) rfl rfl rfl hl.1 (List.forall_mem_cons.mpr ⟨gw_of 1167 (by decide +kernel), List.forall_mem_cons.mpr ⟨gw_of 1168 (by decide +kernel), List.forall_mem_cons.mpr ⟨gw_of 1169 (by decide +kernel), List.forall_mem_cons.mpr ⟨gw_of 9 (by decide +kernel), zwl_in (gw_of 1170 (by decide +kernel))⟩⟩⟩⟩) ⟨rfl, by decide, by decide, by decide +kernel⟩ (Nat.le_of_ble_eq_true rfl) (Nat.le_of_ble_eq_true rfl) hcs (Nat.zero_le _) dL_law_628 (fun H1 L1 hH => ?_)
  refine lv_istore (lv' := (7, .int v) :: (6, .int _) :: lwV b lo j) hx hb dL_law_631 hl (by decide) rfl (fun ls hl => ?_)
  exact lwTail C I2 hH hl hR hcs dL_law_633 dL_law_634 dL_law_637 dL_law_639 dL_law_644 dL_law_646 dL_law_649 dL_law_650 dL_law_651 dL_law_652 dL_law_654 dL_law_655 dL_law_656 dL_law_661 (by decide) kk
theorem lc_points {j : Nat} {ls : Array Slot} (C : lwC p l s m c b L xs D K cO cD lo) (I : lwI G) (hH : lwHp s D K cO cD lo G fo fd H locs) (hl : lv_has ls 9 (lwV b lo j)) (hj : 3 * j + 3 ≤ L) (hcs : cells + 1 ≤ room_1.cells ∧ slots + 6 ≤ room_1.slots) (kk : lwK p l e s m b below meth c D K cO cD lo Q cells slots j) : W p l e room_1 s m #[Value.ref b] below meth c H locs cells slots Q (F0 m 664 ls []) := by
  have hx := C.1.1
  have hb := C.1.2.1
  obtain ⟨G1, G2, v, c1, c2, I2⟩ := lp_points I
  refine lv_aload_n hx hb dL_law_664 rfl (lv_at hl 4 rfl) ?_
  refine lwMod (as := []) (a := 0) (ci := 7) (ix := 136) (n := 0) (rest := []) c1 (Nat.le_of_ble_eq_true rfl) C hH (by decide) rfl rfl rfl hl.1 (List.forall_mem_cons.mpr ⟨gw_of 223 (by decide +kernel), List.forall_mem_cons.mpr ⟨gw_of 224 (by decide +kernel), List.forall_mem_cons.mpr ⟨gw_of 225 (by decide +kernel), List.forall_mem_cons.mpr ⟨gw_of 1 (by decide +kernel), zwl_in (gw_of 226 (by decide +kernel))⟩⟩⟩⟩) ⟨rfl, by decide, by decide, by decide +kernel⟩ (Nat.le_of_ble_eq_true rfl) (Nat.le_of_ble_eq_true rfl) ⟨Nat.le_trans (Nat.le_succ _) hcs.1, Nat.le_trans (Nat.le_add_right _ 6) hcs.2⟩ (Nat.zero_le _) dL_law_665 (fun H1 L1 hH => ?_)
  refine lv_aload_n hx hb dL_law_668 rfl (lv_at hl 3 rfl) ?_
  refine lwMod (as := []) (a := 122) (ci := 8) (ix := 139) (n := 0) (rest := [.int v]) c2 (Nat.le_of_ble_eq_true rfl) C hH (by decide) rfl rfl rfl hl.1 (List.forall_mem_cons.mpr ⟨gw_of 1255 (by decide +kernel), List.forall_mem_cons.mpr ⟨gw_of 1256 (by decide +kernel), List.forall_mem_cons.mpr ⟨gw_of 1257 (by decide +kernel), List.forall_mem_cons.mpr ⟨gw_of 9 (by decide +kernel), zwl_in (gw_of 1258 (by decide +kernel))⟩⟩⟩⟩) ⟨rfl, by decide, by decide, by decide +kernel⟩ (Nat.le_of_ble_eq_true rfl) (Nat.le_of_ble_eq_true rfl) ⟨Nat.le_trans (Nat.le_succ _) hcs.1, Nat.le_trans (Nat.le_add_right _ 6) hcs.2⟩ (Nat.le_of_ble_eq_true rfl) dL_law_669 (fun H1 L1 hH => ?_)
  refine lv_icmp_eq (tgt := 1692) hx hb dL_law_672 (by decide) (fun _ => ?_) (fun hc => absurd rfl hc)
  refine W.widen (k := cells + 1) (n := slots + 6) (by omega) (by omega) ?_
  exact kk _ _ _ _ _ _ I2 hH hl
theorem lc_point {j : Nat} {ls : Array Slot} (C : lwC p l s m c b L xs D K cO cD lo) (I : lwI G) (hH : lwHp s D K cO cD lo G fo fd H locs) (hl : lv_has ls 9 (lwV b lo j)) (hj : 3 * j + 3 ≤ L) (hcs : cells + 1 ≤ room_1.cells ∧ slots + 6 ≤ room_1.slots) (kk : lwK p l e s m b below meth c D K cO cD lo Q cells slots j) : W p l e room_1 s m #[Value.ref b] below meth c H locs cells slots Q (F0 m 677 ls []) := by
  have hx := C.1.1
  have hb := C.1.2.1
  obtain ⟨G1, G2, r, v, hM, hr, c2, hR, I2⟩ := lp_point (D := D) (K := K) (lo := lo) C.2.2.2.2.2.2.2.1 I (xs (3 * j + 1)) (xs (3 * j + 2))
  refine lv_aload_n hx hb dL_law_677 rfl (lv_at hl 4 rfl) ?_
  refine lwArg (k := 1) C hH (by omega) (by decide) (lv_at hl 5 rfl) (lv_at hl 0 rfl) dL_law_678 dL_law_679 dL_law_681 dL_law_682 dL_law_683 ?_
  refine lwArg (k := 2) C hH (by omega) (by decide) (lv_at hl 5 rfl) (lv_at hl 0 rfl) dL_law_684 dL_law_685 dL_law_687 dL_law_688 dL_law_689 ?_
  refine lv_aload_n hx hb dL_law_690 rfl (lv_at hl 2 rfl) ?_
  refine lwHelp (As := [Value.ref lo, Value.int (xs (3 * j + 1)), Value.int (xs (3 * j + 2)), Value.ref (lo + 139)]) (rest := []) (n := 4) (ix := 140) (zh_point (cO := cO) (f := fo) hM hr) C hH ⟨rfl, rfl⟩ (List.forall_mem_cons.mpr ⟨gw_of 613 (by decide +kernel), List.forall_mem_cons.mpr ⟨gw_of 614 (by decide +kernel), List.forall_mem_cons.mpr ⟨gw_of 0 (by decide +kernel), List.forall_mem_cons.mpr ⟨gw_of 615 (by decide +kernel), fun _ h => h⟩⟩⟩⟩) ⟨by decide, by decide, by decide +kernel⟩ ⟨Nat.le_of_ble_eq_true rfl, Nat.le_of_ble_eq_true rfl⟩ rfl hl.1 hcs (Nat.zero_le _) dL_law_691 (fun H1 L1 hH => ?_)
  refine lv_istore (lv' := (6, .int _) :: lwV b lo j) hx hb dL_law_694 hl (by decide) rfl (fun ls hl => ?_)
  refine lv_aload_n hx hb dL_law_696 rfl (lv_at hl 4 rfl) ?_
  refine lwArg (k := 1) C hH (by omega) (by decide) (lv_at hl 6 rfl) (lv_at hl 1 rfl) dL_law_697 dL_law_698 dL_law_700 dL_law_701 dL_law_702 ?_
  refine lwArg (k := 2) C hH (by omega) (by decide) (lv_at hl 6 rfl) (lv_at hl 1 rfl) dL_law_703 dL_law_704 dL_law_706 dL_law_707 dL_law_708 ?_
  refine lwMod (as := [.int (xs (3 * j + 1)), .int (xs (3 * j + 2))]) (a := 122) (ci := 8) (ix := 142) (n := 2) (rest := []) c2 (Nat.le_of_ble_eq_true rfl) C hH (by decide) rfl rfl rfl hl.1 (List.forall_mem_cons.mpr ⟨gw_of 1259 (by decide +kernel), List.forall_mem_cons.mpr ⟨gw_of 1260 (by decide +kernel), List.forall_mem_cons.mpr ⟨gw_of 1261 (by decide +kernel), List.forall_mem_cons.mpr ⟨gw_of 9 (by decide +kernel), zwl_in (gw_of 1262 (by decide +kernel))⟩⟩⟩⟩) ⟨rfl, by decide, by decide, by decide +kernel⟩ (Nat.le_of_ble_eq_true rfl) (Nat.le_of_ble_eq_true rfl) hcs (Nat.zero_le _) dL_law_709 (fun H1 L1 hH => ?_)
  refine lv_istore (lv' := (7, .int v) :: (6, .int _) :: lwV b lo j) hx hb dL_law_712 hl (by decide) rfl (fun ls hl => ?_)
  exact lwTail C I2 hH hl hR hcs dL_law_714 dL_law_715 dL_law_718 dL_law_720 dL_law_725 dL_law_727 dL_law_730 dL_law_731 dL_law_732 dL_law_733 dL_law_735 dL_law_736 dL_law_737 dL_law_742 (by decide) kk
theorem lc_successor {j : Nat} {ls : Array Slot} (C : lwC p l s m c b L xs D K cO cD lo) (I : lwI G) (hH : lwHp s D K cO cD lo G fo fd H locs) (hl : lv_has ls 9 (lwV b lo j)) (hj : 3 * j + 3 ≤ L) (hcs : cells + 1 ≤ room_1.cells ∧ slots + 6 ≤ room_1.slots) (kk : lwK p l e s m b below meth c D K cO cD lo Q cells slots j) : W p l e room_1 s m #[Value.ref b] below meth c H locs cells slots Q (F0 m 745 ls []) := by
  have hx := C.1.1
  have hb := C.1.2.1
  obtain ⟨G1, G2, r, v, hM, hr, c2, hR, I2⟩ := lp_successor (D := D) (K := K) (lo := lo) C.2.2.2.2.2.2.2.1 I (xs (3 * j + 1))
  refine lv_aload_n hx hb dL_law_745 rfl (lv_at hl 4 rfl) ?_
  refine lwArg (k := 1) C hH (by omega) (by decide) (lv_at hl 5 rfl) (lv_at hl 0 rfl) dL_law_746 dL_law_747 dL_law_749 dL_law_750 dL_law_751 ?_
  refine lv_aload_n hx hb dL_law_752 rfl (lv_at hl 2 rfl) ?_
  refine lwHelp (As := [Value.ref lo, Value.int (xs (3 * j + 1)), Value.ref (lo + 139)]) (rest := []) (n := 3) (ix := 143) (zh_successor (cO := cO) (f := fo) hM hr) C hH ⟨rfl, rfl⟩ (List.forall_mem_cons.mpr ⟨gw_of 625 (by decide +kernel), List.forall_mem_cons.mpr ⟨gw_of 626 (by decide +kernel), List.forall_mem_cons.mpr ⟨gw_of 0 (by decide +kernel), List.forall_mem_cons.mpr ⟨gw_of 627 (by decide +kernel), fun _ h => h⟩⟩⟩⟩) ⟨by decide, by decide, by decide +kernel⟩ ⟨Nat.le_of_ble_eq_true rfl, Nat.le_of_ble_eq_true rfl⟩ rfl hl.1 hcs (Nat.zero_le _) dL_law_753 (fun H1 L1 hH => ?_)
  refine lv_istore (lv' := (6, .int _) :: lwV b lo j) hx hb dL_law_756 hl (by decide) rfl (fun ls hl => ?_)
  refine lv_aload_n hx hb dL_law_758 rfl (lv_at hl 4 rfl) ?_
  refine lwArg (k := 1) C hH (by omega) (by decide) (lv_at hl 6 rfl) (lv_at hl 1 rfl) dL_law_759 dL_law_760 dL_law_762 dL_law_763 dL_law_764 ?_
  refine lwMod (as := [.int (xs (3 * j + 1))]) (a := 122) (ci := 8) (ix := 145) (n := 1) (rest := []) c2 (Nat.le_of_ble_eq_true rfl) C hH (by decide) rfl rfl rfl hl.1 (List.forall_mem_cons.mpr ⟨gw_of 1263 (by decide +kernel), List.forall_mem_cons.mpr ⟨gw_of 1264 (by decide +kernel), List.forall_mem_cons.mpr ⟨gw_of 1265 (by decide +kernel), List.forall_mem_cons.mpr ⟨gw_of 9 (by decide +kernel), zwl_in (gw_of 1266 (by decide +kernel))⟩⟩⟩⟩) ⟨rfl, by decide, by decide, by decide +kernel⟩ (Nat.le_of_ble_eq_true rfl) (Nat.le_of_ble_eq_true rfl) hcs (Nat.zero_le _) dL_law_765 (fun H1 L1 hH => ?_)
  refine lv_istore (lv' := (7, .int v) :: (6, .int _) :: lwV b lo j) hx hb dL_law_768 hl (by decide) rfl (fun ls hl => ?_)
  exact lwTail C I2 hH hl hR hcs dL_law_770 dL_law_771 dL_law_774 dL_law_776 dL_law_781 dL_law_783 dL_law_786 dL_law_787 dL_law_788 dL_law_789 dL_law_791 dL_law_792 dL_law_793 dL_law_798 (by decide) kk
theorem lc_shard {j : Nat} {ls : Array Slot} (C : lwC p l s m c b L xs D K cO cD lo) (I : lwI G) (hH : lwHp s D K cO cD lo G fo fd H locs) (hl : lv_has ls 9 (lwV b lo j)) (hj : 3 * j + 3 ≤ L) (hcs : cells + 1 ≤ room_1.cells ∧ slots + 6 ≤ room_1.slots) (kk : lwK p l e s m b below meth c D K cO cD lo Q cells slots j) : W p l e room_1 s m #[Value.ref b] below meth c H locs cells slots Q (F0 m 801 ls []) := by
  have hx := C.1.1
  have hb := C.1.2.1
  obtain ⟨G1, G2, r, v, hM, hr, c2, hR, I2⟩ := lp_shard (D := D) (K := K) (lo := lo) C.2.2.2.2.2.2.2.1 I (xs (3 * j + 1)) (xs (3 * j + 2))
  refine lv_aload_n hx hb dL_law_801 rfl (lv_at hl 4 rfl) ?_
  refine lwArg (k := 1) C hH (by omega) (by decide) (lv_at hl 5 rfl) (lv_at hl 0 rfl) dL_law_802 dL_law_803 dL_law_805 dL_law_806 dL_law_807 ?_
  refine lwArg (k := 2) C hH (by omega) (by decide) (lv_at hl 5 rfl) (lv_at hl 0 rfl) dL_law_808 dL_law_809 dL_law_811 dL_law_812 dL_law_813 ?_
  refine lv_aload_n hx hb dL_law_814 rfl (lv_at hl 2 rfl) ?_
  refine lwHelp (As := [Value.ref lo, Value.int (xs (3 * j + 1)), Value.int (xs (3 * j + 2)), Value.ref (lo + 139)]) (rest := []) (n := 4) (ix := 146) (zh_shard (cO := cO) (f := fo) hM hr) C hH ⟨rfl, rfl⟩ (List.forall_mem_cons.mpr ⟨gw_of 651 (by decide +kernel), List.forall_mem_cons.mpr ⟨gw_of 652 (by decide +kernel), List.forall_mem_cons.mpr ⟨gw_of 0 (by decide +kernel), List.forall_mem_cons.mpr ⟨gw_of 653 (by decide +kernel), fun _ h => h⟩⟩⟩⟩) ⟨by decide, by decide, by decide +kernel⟩ ⟨Nat.le_of_ble_eq_true rfl, Nat.le_of_ble_eq_true rfl⟩ rfl hl.1 hcs (Nat.zero_le _) dL_law_815 (fun H1 L1 hH => ?_)
  refine lv_istore (lv' := (6, .int _) :: lwV b lo j) hx hb dL_law_818 hl (by decide) rfl (fun ls hl => ?_)
  refine lv_aload_n hx hb dL_law_820 rfl (lv_at hl 4 rfl) ?_
  refine lwArg (k := 1) C hH (by omega) (by decide) (lv_at hl 6 rfl) (lv_at hl 1 rfl) dL_law_821 dL_law_822 dL_law_824 dL_law_825 dL_law_826 ?_
  refine lwArg (k := 2) C hH (by omega) (by decide) (lv_at hl 6 rfl) (lv_at hl 1 rfl) dL_law_827 dL_law_828 dL_law_830 dL_law_831 dL_law_832 ?_
  refine lwMod (as := [.int (xs (3 * j + 1)), .int (xs (3 * j + 2))]) (a := 122) (ci := 8) (ix := 148) (n := 2) (rest := []) c2 (Nat.le_of_ble_eq_true rfl) C hH (by decide) rfl rfl rfl hl.1 (List.forall_mem_cons.mpr ⟨gw_of 1267 (by decide +kernel), List.forall_mem_cons.mpr ⟨gw_of 1268 (by decide +kernel), List.forall_mem_cons.mpr ⟨gw_of 1269 (by decide +kernel), List.forall_mem_cons.mpr ⟨gw_of 9 (by decide +kernel), zwl_in (gw_of 1270 (by decide +kernel))⟩⟩⟩⟩) ⟨rfl, by decide, by decide, by decide +kernel⟩ (Nat.le_of_ble_eq_true rfl) (Nat.le_of_ble_eq_true rfl) hcs (Nat.zero_le _) dL_law_833 (fun H1 L1 hH => ?_)
  refine lv_istore (lv' := (7, .int v) :: (6, .int _) :: lwV b lo j) hx hb dL_law_836 hl (by decide) rfl (fun ls hl => ?_)
  exact lwTail C I2 hH hl hR hcs dL_law_838 dL_law_839 dL_law_842 dL_law_844 dL_law_849 dL_law_851 dL_law_854 dL_law_855 dL_law_856 dL_law_857 dL_law_859 dL_law_860 dL_law_861 dL_law_866 (by decide) kk
theorem lc_route {j : Nat} {ls : Array Slot} (C : lwC p l s m c b L xs D K cO cD lo) (I : lwI G) (hH : lwHp s D K cO cD lo G fo fd H locs) (hl : lv_has ls 9 (lwV b lo j)) (hj : 3 * j + 3 ≤ L) (hcs : cells + 1 ≤ room_1.cells ∧ slots + 6 ≤ room_1.slots) (kk : lwK p l e s m b below meth c D K cO cD lo Q cells slots j) : W p l e room_1 s m #[Value.ref b] below meth c H locs cells slots Q (F0 m 869 ls []) := by
  have hx := C.1.1
  have hb := C.1.2.1
  obtain ⟨G1, G2, r, v, hM, hr, c2, hR, I2⟩ := lp_route (D := D) (K := K) (lo := lo) C.2.2.2.2.2.2.2.1 I (xs (3 * j + 1))
  refine lv_aload_n hx hb dL_law_869 rfl (lv_at hl 4 rfl) ?_
  refine lwArg (k := 1) C hH (by omega) (by decide) (lv_at hl 5 rfl) (lv_at hl 0 rfl) dL_law_870 dL_law_871 dL_law_873 dL_law_874 dL_law_875 ?_
  refine lv_aload_n hx hb dL_law_876 rfl (lv_at hl 2 rfl) ?_
  refine lwHelp (As := [Value.ref lo, Value.int (xs (3 * j + 1)), Value.ref (lo + 139)]) (rest := []) (n := 3) (ix := 149) (zh_route (cO := cO) (f := fo) hM hr) C hH ⟨rfl, rfl⟩ (List.forall_mem_cons.mpr ⟨gw_of 685 (by decide +kernel), List.forall_mem_cons.mpr ⟨gw_of 686 (by decide +kernel), List.forall_mem_cons.mpr ⟨gw_of 0 (by decide +kernel), List.forall_mem_cons.mpr ⟨gw_of 687 (by decide +kernel), fun _ h => h⟩⟩⟩⟩) ⟨by decide, by decide, by decide +kernel⟩ ⟨Nat.le_of_ble_eq_true rfl, Nat.le_of_ble_eq_true rfl⟩ rfl hl.1 hcs (Nat.zero_le _) dL_law_877 (fun H1 L1 hH => ?_)
  refine lv_istore (lv' := (6, .int _) :: lwV b lo j) hx hb dL_law_880 hl (by decide) rfl (fun ls hl => ?_)
  refine lv_aload_n hx hb dL_law_882 rfl (lv_at hl 4 rfl) ?_
  refine lwArg (k := 1) C hH (by omega) (by decide) (lv_at hl 6 rfl) (lv_at hl 1 rfl) dL_law_883 dL_law_884 dL_law_886 dL_law_887 dL_law_888 ?_
  refine lwMod (as := [.int (xs (3 * j + 1))]) (a := 122) (ci := 8) (ix := 151) (n := 1) (rest := []) c2 (Nat.le_of_ble_eq_true rfl) C hH (by decide) rfl rfl rfl hl.1 (List.forall_mem_cons.mpr ⟨gw_of 1271 (by decide +kernel), List.forall_mem_cons.mpr ⟨gw_of 1272 (by decide +kernel), List.forall_mem_cons.mpr ⟨gw_of 1273 (by decide +kernel), List.forall_mem_cons.mpr ⟨gw_of 9 (by decide +kernel), zwl_in (gw_of 1274 (by decide +kernel))⟩⟩⟩⟩) ⟨rfl, by decide, by decide, by decide +kernel⟩ (Nat.le_of_ble_eq_true rfl) (Nat.le_of_ble_eq_true rfl) hcs (Nat.zero_le _) dL_law_889 (fun H1 L1 hH => ?_)
  refine lv_istore (lv' := (7, .int v) :: (6, .int _) :: lwV b lo j) hx hb dL_law_892 hl (by decide) rfl (fun ls hl => ?_)
  exact lwTail C I2 hH hl hR hcs dL_law_894 dL_law_895 dL_law_898 dL_law_900 dL_law_905 dL_law_907 dL_law_910 dL_law_911 dL_law_912 dL_law_913 dL_law_915 dL_law_916 dL_law_917 dL_law_922 (by decide) kk
theorem lc_pending {j : Nat} {ls : Array Slot} (C : lwC p l s m c b L xs D K cO cD lo) (I : lwI G) (hH : lwHp s D K cO cD lo G fo fd H locs) (hl : lv_has ls 9 (lwV b lo j)) (hj : 3 * j + 3 ≤ L) (hcs : cells + 1 ≤ room_1.cells ∧ slots + 6 ≤ room_1.slots) (kk : lwK p l e s m b below meth c D K cO cD lo Q cells slots j) : W p l e room_1 s m #[Value.ref b] below meth c H locs cells slots Q (F0 m 925 ls []) := by
  have hx := C.1.1
  have hb := C.1.2.1
  obtain ⟨G1, G2, v, c1, c2, I2⟩ := lp_pending I
  refine lv_aload_n hx hb dL_law_925 rfl (lv_at hl 4 rfl) ?_
  refine lwMod (as := []) (a := 0) (ci := 7) (ix := 152) (n := 0) (rest := []) c1 (Nat.le_of_ble_eq_true rfl) C hH (by decide) rfl rfl rfl hl.1 (List.forall_mem_cons.mpr ⟨gw_of 282 (by decide +kernel), List.forall_mem_cons.mpr ⟨gw_of 283 (by decide +kernel), List.forall_mem_cons.mpr ⟨gw_of 284 (by decide +kernel), List.forall_mem_cons.mpr ⟨gw_of 1 (by decide +kernel), zwl_in (gw_of 285 (by decide +kernel))⟩⟩⟩⟩) ⟨rfl, by decide, by decide, by decide +kernel⟩ (Nat.le_of_ble_eq_true rfl) (Nat.le_of_ble_eq_true rfl) ⟨Nat.le_trans (Nat.le_succ _) hcs.1, Nat.le_trans (Nat.le_add_right _ 6) hcs.2⟩ (Nat.zero_le _) dL_law_926 (fun H1 L1 hH => ?_)
  refine lv_aload_n hx hb dL_law_929 rfl (lv_at hl 3 rfl) ?_
  refine lwMod (as := []) (a := 122) (ci := 8) (ix := 155) (n := 0) (rest := [.int v]) c2 (Nat.le_of_ble_eq_true rfl) C hH (by decide) rfl rfl rfl hl.1 (List.forall_mem_cons.mpr ⟨gw_of 1275 (by decide +kernel), List.forall_mem_cons.mpr ⟨gw_of 1276 (by decide +kernel), List.forall_mem_cons.mpr ⟨gw_of 1277 (by decide +kernel), List.forall_mem_cons.mpr ⟨gw_of 9 (by decide +kernel), zwl_in (gw_of 1278 (by decide +kernel))⟩⟩⟩⟩) ⟨rfl, by decide, by decide, by decide +kernel⟩ (Nat.le_of_ble_eq_true rfl) (Nat.le_of_ble_eq_true rfl) ⟨Nat.le_trans (Nat.le_succ _) hcs.1, Nat.le_trans (Nat.le_add_right _ 6) hcs.2⟩ (Nat.le_of_ble_eq_true rfl) dL_law_930 (fun H1 L1 hH => ?_)
  refine lv_icmp_eq (tgt := 1692) hx hb dL_law_933 (by decide) (fun _ => ?_) (fun hc => absurd rfl hc)
  refine W.widen (k := cells + 1) (n := slots + 6) (by omega) (by omega) ?_
  exact kk _ _ _ _ _ _ I2 hH hl
theorem lc_changedIf {j : Nat} {ls : Array Slot} (C : lwC p l s m c b L xs D K cO cD lo) (I : lwI G) (hH : lwHp s D K cO cD lo G fo fd H locs) (hl : lv_has ls 9 (lwV b lo j)) (hj : 3 * j + 3 ≤ L) (hcs : cells + 1 ≤ room_1.cells ∧ slots + 6 ≤ room_1.slots) (kk : lwK p l e s m b below meth c D K cO cD lo Q cells slots j) : W p l e room_1 s m #[Value.ref b] below meth c H locs cells slots Q (F0 m 938 ls []) := by
  have hx := C.1.1
  have hb := C.1.2.1
  obtain ⟨G1, G2, r, v, hM, hr, c2, hR, I2⟩ := lp_changedIf (D := D) (K := K) (lo := lo) C.2.2.2.2.2.2.2.1 I (xs (3 * j + 1)) (xs (3 * j + 2))
  refine lv_aload_n hx hb dL_law_938 rfl (lv_at hl 4 rfl) ?_
  refine lwArg (k := 1) C hH (by omega) (by decide) (lv_at hl 5 rfl) (lv_at hl 0 rfl) dL_law_939 dL_law_940 dL_law_942 dL_law_943 dL_law_944 ?_
  refine lwArg (k := 2) C hH (by omega) (by decide) (lv_at hl 5 rfl) (lv_at hl 0 rfl) dL_law_945 dL_law_946 dL_law_948 dL_law_949 dL_law_950 ?_
  refine lv_aload_n hx hb dL_law_951 rfl (lv_at hl 2 rfl) ?_
  refine lwHelp (As := [Value.ref lo, Value.int (xs (3 * j + 1)), Value.int (xs (3 * j + 2)), Value.ref (lo + 139)]) (rest := []) (n := 4) (ix := 156) (zh_changedIf (cO := cO) (f := fo) hM hr) C hH ⟨rfl, rfl⟩ (List.forall_mem_cons.mpr ⟨gw_of 693 (by decide +kernel), List.forall_mem_cons.mpr ⟨gw_of 694 (by decide +kernel), List.forall_mem_cons.mpr ⟨gw_of 0 (by decide +kernel), List.forall_mem_cons.mpr ⟨gw_of 695 (by decide +kernel), fun _ h => h⟩⟩⟩⟩) ⟨by decide, by decide, by decide +kernel⟩ ⟨Nat.le_of_ble_eq_true rfl, Nat.le_of_ble_eq_true rfl⟩ rfl hl.1 hcs (Nat.zero_le _) dL_law_952 (fun H1 L1 hH => ?_)
  refine lv_istore (lv' := (6, .int _) :: lwV b lo j) hx hb dL_law_955 hl (by decide) rfl (fun ls hl => ?_)
  refine lv_aload_n hx hb dL_law_957 rfl (lv_at hl 4 rfl) ?_
  refine lwArg (k := 1) C hH (by omega) (by decide) (lv_at hl 6 rfl) (lv_at hl 1 rfl) dL_law_958 dL_law_959 dL_law_961 dL_law_962 dL_law_963 ?_
  refine lwArg (k := 2) C hH (by omega) (by decide) (lv_at hl 6 rfl) (lv_at hl 1 rfl) dL_law_964 dL_law_965 dL_law_967 dL_law_968 dL_law_969 ?_
  refine lwMod (as := [.int (xs (3 * j + 1)), .int (xs (3 * j + 2))]) (a := 122) (ci := 8) (ix := 158) (n := 2) (rest := []) c2 (Nat.le_of_ble_eq_true rfl) C hH (by decide) rfl rfl rfl hl.1 (List.forall_mem_cons.mpr ⟨gw_of 1283 (by decide +kernel), List.forall_mem_cons.mpr ⟨gw_of 1284 (by decide +kernel), List.forall_mem_cons.mpr ⟨gw_of 1285 (by decide +kernel), List.forall_mem_cons.mpr ⟨gw_of 9 (by decide +kernel), zwl_in (gw_of 1286 (by decide +kernel))⟩⟩⟩⟩) ⟨rfl, by decide, by decide, by decide +kernel⟩ (Nat.le_of_ble_eq_true rfl) (Nat.le_of_ble_eq_true rfl) hcs (Nat.zero_le _) dL_law_970 (fun H1 L1 hH => ?_)
  refine lv_istore (lv' := (7, .int v) :: (6, .int _) :: lwV b lo j) hx hb dL_law_973 hl (by decide) rfl (fun ls hl => ?_)
  exact lwTail C I2 hH hl hR hcs dL_law_975 dL_law_976 dL_law_979 dL_law_981 dL_law_986 dL_law_988 dL_law_991 dL_law_992 dL_law_993 dL_law_994 dL_law_996 dL_law_997 dL_law_998 dL_law_1003 (by decide) kk
theorem lc_leastSlack {j : Nat} {ls : Array Slot} (C : lwC p l s m c b L xs D K cO cD lo) (I : lwI G) (hH : lwHp s D K cO cD lo G fo fd H locs) (hl : lv_has ls 9 (lwV b lo j)) (hj : 3 * j + 3 ≤ L) (hcs : cells + 1 ≤ room_1.cells ∧ slots + 6 ≤ room_1.slots) (kk : lwK p l e s m b below meth c D K cO cD lo Q cells slots j) : W p l e room_1 s m #[Value.ref b] below meth c H locs cells slots Q (F0 m 1006 ls []) := by
  have hx := C.1.1
  have hb := C.1.2.1
  obtain ⟨G1, G2, r, v, hM, hr, c2, hR, I2⟩ := lp_leastSlack (D := D) (K := K) (lo := lo) C.2.2.2.2.2.2.2.1 I
  refine lv_aload_n hx hb dL_law_1006 rfl (lv_at hl 4 rfl) ?_
  refine lv_aload_n hx hb dL_law_1007 rfl (lv_at hl 2 rfl) ?_
  refine lwHelp (As := [Value.ref lo, Value.ref (lo + 139)]) (rest := []) (n := 2) (ix := 159) (zh_leastSlack (cO := cO) (f := fo) hM hr) C hH ⟨rfl, rfl⟩ (List.forall_mem_cons.mpr ⟨gw_of 708 (by decide +kernel), List.forall_mem_cons.mpr ⟨gw_of 709 (by decide +kernel), List.forall_mem_cons.mpr ⟨gw_of 0 (by decide +kernel), List.forall_mem_cons.mpr ⟨gw_of 710 (by decide +kernel), fun _ h => h⟩⟩⟩⟩) ⟨by decide, by decide, by decide +kernel⟩ ⟨Nat.le_of_ble_eq_true rfl, Nat.le_of_ble_eq_true rfl⟩ rfl hl.1 hcs (Nat.zero_le _) dL_law_1008 (fun H1 L1 hH => ?_)
  refine lv_istore (lv' := (6, .int _) :: lwV b lo j) hx hb dL_law_1011 hl (by decide) rfl (fun ls hl => ?_)
  refine lv_aload_n hx hb dL_law_1013 rfl (lv_at hl 4 rfl) ?_
  refine lwMod (as := []) (a := 122) (ci := 8) (ix := 162) (n := 0) (rest := []) c2 (Nat.le_of_ble_eq_true rfl) C hH (by decide) rfl rfl rfl hl.1 (List.forall_mem_cons.mpr ⟨gw_of 1287 (by decide +kernel), List.forall_mem_cons.mpr ⟨gw_of 1288 (by decide +kernel), List.forall_mem_cons.mpr ⟨gw_of 1289 (by decide +kernel), List.forall_mem_cons.mpr ⟨gw_of 9 (by decide +kernel), zwl_in (gw_of 1290 (by decide +kernel))⟩⟩⟩⟩) ⟨rfl, by decide, by decide, by decide +kernel⟩ (Nat.le_of_ble_eq_true rfl) (Nat.le_of_ble_eq_true rfl) hcs (Nat.zero_le _) dL_law_1014 (fun H1 L1 hH => ?_)
  refine lv_istore (lv' := (7, .int v) :: (6, .int _) :: lwV b lo j) hx hb dL_law_1017 hl (by decide) rfl (fun ls hl => ?_)
  exact lwTail C I2 hH hl hR hcs dL_law_1019 dL_law_1020 dL_law_1023 dL_law_1025 dL_law_1030 dL_law_1032 dL_law_1035 dL_law_1036 dL_law_1037 dL_law_1038 dL_law_1040 dL_law_1041 dL_law_1042 dL_law_1047 (by decide) kk
theorem lc_tick {j : Nat} {ls : Array Slot} (C : lwC p l s m c b L xs D K cO cD lo) (I : lwI G) (hH : lwHp s D K cO cD lo G fo fd H locs) (hl : lv_has ls 9 (lwV b lo j)) (hj : 3 * j + 3 ≤ L) (hcs : cells + 1 ≤ room_1.cells ∧ slots + 6 ≤ room_1.slots) (kk : lwK p l e s m b below meth c D K cO cD lo Q cells slots j) : W p l e room_1 s m #[Value.ref b] below meth c H locs cells slots Q (F0 m 1115 ls []) := by
  have hx := C.1.1
  have hb := C.1.2.1
  obtain ⟨G1, G2, r, v, hM, hr, c2, hR, I2⟩ := lp_tick (D := D) (K := K) (lo := lo) C.2.2.2.2.2.2.2.1 I (xs (3 * j + 1))
  refine lv_aload_n hx hb dL_law_1115 rfl (lv_at hl 4 rfl) ?_
  refine lwArg (k := 1) C hH (by omega) (by decide) (lv_at hl 5 rfl) (lv_at hl 0 rfl) dL_law_1116 dL_law_1117 dL_law_1119 dL_law_1120 dL_law_1121 ?_
  refine lv_aload_n hx hb dL_law_1122 rfl (lv_at hl 2 rfl) ?_
  refine lwHelp (As := [Value.ref lo, Value.int (xs (3 * j + 1)), Value.ref (lo + 139)]) (rest := []) (n := 3) (ix := 167) (zh_tick (cO := cO) (f := fo) hM hr) C hH ⟨rfl, rfl⟩ (List.forall_mem_cons.mpr ⟨gw_of 748 (by decide +kernel), List.forall_mem_cons.mpr ⟨gw_of 749 (by decide +kernel), List.forall_mem_cons.mpr ⟨gw_of 0 (by decide +kernel), List.forall_mem_cons.mpr ⟨gw_of 750 (by decide +kernel), fun _ h => h⟩⟩⟩⟩) ⟨by decide, by decide, by decide +kernel⟩ ⟨Nat.le_of_ble_eq_true rfl, Nat.le_of_ble_eq_true rfl⟩ rfl hl.1 hcs (Nat.zero_le _) dL_law_1123 (fun H1 L1 hH => ?_)
  refine lv_istore (lv' := (6, .int _) :: lwV b lo j) hx hb dL_law_1126 hl (by decide) rfl (fun ls hl => ?_)
  refine lv_aload_n hx hb dL_law_1128 rfl (lv_at hl 4 rfl) ?_
  refine lwArg (k := 1) C hH (by omega) (by decide) (lv_at hl 6 rfl) (lv_at hl 1 rfl) dL_law_1129 dL_law_1130 dL_law_1132 dL_law_1133 dL_law_1134 ?_
  refine lwMod (as := [.int (xs (3 * j + 1))]) (a := 122) (ci := 8) (ix := 169) (n := 1) (rest := []) c2 (Nat.le_of_ble_eq_true rfl) C hH (by decide) rfl rfl rfl hl.1 (List.forall_mem_cons.mpr ⟨gw_of 1175 (by decide +kernel), List.forall_mem_cons.mpr ⟨gw_of 1176 (by decide +kernel), List.forall_mem_cons.mpr ⟨gw_of 1177 (by decide +kernel), List.forall_mem_cons.mpr ⟨gw_of 9 (by decide +kernel), zwl_in (gw_of 1178 (by decide +kernel))⟩⟩⟩⟩) ⟨rfl, by decide, by decide, by decide +kernel⟩ (Nat.le_of_ble_eq_true rfl) (Nat.le_of_ble_eq_true rfl) hcs (Nat.zero_le _) dL_law_1135 (fun H1 L1 hH => ?_)
  refine lv_istore (lv' := (7, .int v) :: (6, .int _) :: lwV b lo j) hx hb dL_law_1138 hl (by decide) rfl (fun ls hl => ?_)
  exact lwTail C I2 hH hl hR hcs dL_law_1140 dL_law_1141 dL_law_1144 dL_law_1146 dL_law_1151 dL_law_1153 dL_law_1156 dL_law_1157 dL_law_1158 dL_law_1159 dL_law_1161 dL_law_1162 dL_law_1163 dL_law_1168 (by decide) kk
theorem lc_moves {j : Nat} {ls : Array Slot} (C : lwC p l s m c b L xs D K cO cD lo) (I : lwI G) (hH : lwHp s D K cO cD lo G fo fd H locs) (hl : lv_has ls 9 (lwV b lo j)) (hj : 3 * j + 3 ≤ L) (hcs : cells + 1 ≤ room_1.cells ∧ slots + 6 ≤ room_1.slots) (kk : lwK p l e s m b below meth c D K cO cD lo Q cells slots j) : W p l e room_1 s m #[Value.ref b] below meth c H locs cells slots Q (F0 m 1171 ls []) := by
  have hx := C.1.1
  have hb := C.1.2.1
  obtain ⟨G1, G2, v, c1, c2, I2⟩ := lp_moves I
  refine lv_aload_n hx hb dL_law_1171 rfl (lv_at hl 4 rfl) ?_
  refine lwMod (as := []) (a := 0) (ci := 7) (ix := 170) (n := 0) (rest := []) c1 (Nat.le_of_ble_eq_true rfl) C hH (by decide) rfl rfl rfl hl.1 (List.forall_mem_cons.mpr ⟨gw_of 297 (by decide +kernel), List.forall_mem_cons.mpr ⟨gw_of 298 (by decide +kernel), List.forall_mem_cons.mpr ⟨gw_of 299 (by decide +kernel), List.forall_mem_cons.mpr ⟨gw_of 1 (by decide +kernel), zwl_in (gw_of 300 (by decide +kernel))⟩⟩⟩⟩) ⟨rfl, by decide, by decide, by decide +kernel⟩ (Nat.le_of_ble_eq_true rfl) (Nat.le_of_ble_eq_true rfl) ⟨Nat.le_trans (Nat.le_succ _) hcs.1, Nat.le_trans (Nat.le_add_right _ 6) hcs.2⟩ (Nat.zero_le _) dL_law_1172 (fun H1 L1 hH => ?_)
  refine lv_aload_n hx hb dL_law_1175 rfl (lv_at hl 3 rfl) ?_
  refine lwMod (as := []) (a := 122) (ci := 8) (ix := 173) (n := 0) (rest := [.int v]) c2 (Nat.le_of_ble_eq_true rfl) C hH (by decide) rfl rfl rfl hl.1 (List.forall_mem_cons.mpr ⟨gw_of 1299 (by decide +kernel), List.forall_mem_cons.mpr ⟨gw_of 1300 (by decide +kernel), List.forall_mem_cons.mpr ⟨gw_of 1301 (by decide +kernel), List.forall_mem_cons.mpr ⟨gw_of 9 (by decide +kernel), zwl_in (gw_of 1302 (by decide +kernel))⟩⟩⟩⟩) ⟨rfl, by decide, by decide, by decide +kernel⟩ (Nat.le_of_ble_eq_true rfl) (Nat.le_of_ble_eq_true rfl) ⟨Nat.le_trans (Nat.le_succ _) hcs.1, Nat.le_trans (Nat.le_add_right _ 6) hcs.2⟩ (Nat.le_of_ble_eq_true rfl) dL_law_1176 (fun H1 L1 hH => ?_)
  refine lv_icmp_eq (tgt := 1692) hx hb dL_law_1179 (by decide) (fun _ => ?_) (fun hc => absurd rfl hc)
  refine W.widen (k := cells + 1) (n := slots + 6) (by omega) (by omega) ?_
  exact kk _ _ _ _ _ _ I2 hH hl
theorem lc_move {j : Nat} {ls : Array Slot} (C : lwC p l s m c b L xs D K cO cD lo) (I : lwI G) (hH : lwHp s D K cO cD lo G fo fd H locs) (hl : lv_has ls 9 (lwV b lo j)) (hj : 3 * j + 3 ≤ L) (hcs : cells + 1 ≤ room_1.cells ∧ slots + 6 ≤ room_1.slots) (kk : lwK p l e s m b below meth c D K cO cD lo Q cells slots j) : W p l e room_1 s m #[Value.ref b] below meth c H locs cells slots Q (F0 m 1184 ls []) := by
  have hx := C.1.1
  have hb := C.1.2.1
  obtain ⟨G1, G2, r, v, hM, hr, c2, hR, I2⟩ := lp_move (D := D) (K := K) (lo := lo) C.2.2.2.2.2.2.2.1 I (xs (3 * j + 1)) (xs (3 * j + 2))
  refine lv_aload_n hx hb dL_law_1184 rfl (lv_at hl 4 rfl) ?_
  refine lwArg (k := 1) C hH (by omega) (by decide) (lv_at hl 5 rfl) (lv_at hl 0 rfl) dL_law_1185 dL_law_1186 dL_law_1188 dL_law_1189 dL_law_1190 ?_
  refine lwArg (k := 2) C hH (by omega) (by decide) (lv_at hl 5 rfl) (lv_at hl 0 rfl) dL_law_1191 dL_law_1192 dL_law_1194 dL_law_1195 dL_law_1196 ?_
  refine lv_aload_n hx hb dL_law_1197 rfl (lv_at hl 2 rfl) ?_
  refine lwHelp (As := [Value.ref lo, Value.int (xs (3 * j + 1)), Value.int (xs (3 * j + 2)), Value.ref (lo + 139)]) (rest := []) (n := 4) (ix := 174) (zh_move (cO := cO) (f := fo) hM hr) C hH ⟨rfl, rfl⟩ (List.forall_mem_cons.mpr ⟨gw_of 839 (by decide +kernel), List.forall_mem_cons.mpr ⟨gw_of 840 (by decide +kernel), List.forall_mem_cons.mpr ⟨gw_of 0 (by decide +kernel), List.forall_mem_cons.mpr ⟨gw_of 841 (by decide +kernel), fun _ h => h⟩⟩⟩⟩) ⟨by decide, by decide, by decide +kernel⟩ ⟨Nat.le_of_ble_eq_true rfl, Nat.le_of_ble_eq_true rfl⟩ rfl hl.1 hcs (Nat.zero_le _) dL_law_1198 (fun H1 L1 hH => ?_)
  refine lv_istore (lv' := (6, .int _) :: lwV b lo j) hx hb dL_law_1201 hl (by decide) rfl (fun ls hl => ?_)
  refine lv_aload_n hx hb dL_law_1203 rfl (lv_at hl 4 rfl) ?_
  refine lwArg (k := 1) C hH (by omega) (by decide) (lv_at hl 6 rfl) (lv_at hl 1 rfl) dL_law_1204 dL_law_1205 dL_law_1207 dL_law_1208 dL_law_1209 ?_
  refine lwArg (k := 2) C hH (by omega) (by decide) (lv_at hl 6 rfl) (lv_at hl 1 rfl) dL_law_1210 dL_law_1211 dL_law_1213 dL_law_1214 dL_law_1215 ?_
  refine lwMod (as := [.int (xs (3 * j + 1)), .int (xs (3 * j + 2))]) (a := 122) (ci := 8) (ix := 176) (n := 2) (rest := []) c2 (Nat.le_of_ble_eq_true rfl) C hH (by decide) rfl rfl rfl hl.1 (List.forall_mem_cons.mpr ⟨gw_of 1303 (by decide +kernel), List.forall_mem_cons.mpr ⟨gw_of 1304 (by decide +kernel), List.forall_mem_cons.mpr ⟨gw_of 1305 (by decide +kernel), List.forall_mem_cons.mpr ⟨gw_of 9 (by decide +kernel), zwl_in (gw_of 1306 (by decide +kernel))⟩⟩⟩⟩) ⟨rfl, by decide, by decide, by decide +kernel⟩ (Nat.le_of_ble_eq_true rfl) (Nat.le_of_ble_eq_true rfl) hcs (Nat.zero_le _) dL_law_1216 (fun H1 L1 hH => ?_)
  refine lv_istore (lv' := (7, .int v) :: (6, .int _) :: lwV b lo j) hx hb dL_law_1219 hl (by decide) rfl (fun ls hl => ?_)
  exact lwTail C I2 hH hl hR hcs dL_law_1221 dL_law_1222 dL_law_1225 dL_law_1227 dL_law_1232 dL_law_1234 dL_law_1237 dL_law_1238 dL_law_1239 dL_law_1240 dL_law_1242 dL_law_1243 dL_law_1244 dL_law_1249 (by decide) kk
theorem lc_forecast {j : Nat} {ls : Array Slot} (C : lwC p l s m c b L xs D K cO cD lo) (I : lwI G) (hH : lwHp s D K cO cD lo G fo fd H locs) (hl : lv_has ls 9 (lwV b lo j)) (hj : 3 * j + 3 ≤ L) (hcs : cells + 1 ≤ room_1.cells ∧ slots + 6 ≤ room_1.slots) (kk : lwK p l e s m b below meth c D K cO cD lo Q cells slots j) : W p l e room_1 s m #[Value.ref b] below meth c H locs cells slots Q (F0 m 1252 ls []) := by
  have hx := C.1.1
  have hb := C.1.2.1
  obtain ⟨G1, G2, r, v, hM, hr, c2, hR, I2⟩ := lp_forecast (D := D) (K := K) (lo := lo) C.2.2.2.2.2.2.2.1 I
  refine lv_aload_n hx hb dL_law_1252 rfl (lv_at hl 4 rfl) ?_
  refine lv_aload_n hx hb dL_law_1253 rfl (lv_at hl 2 rfl) ?_
  refine lwHelp (As := [Value.ref lo, Value.ref (lo + 139)]) (rest := []) (n := 2) (ix := 177) (zh_forecast (cO := cO) (f := fo) hM hr) C hH ⟨rfl, rfl⟩ (List.forall_mem_cons.mpr ⟨gw_of 855 (by decide +kernel), List.forall_mem_cons.mpr ⟨gw_of 856 (by decide +kernel), List.forall_mem_cons.mpr ⟨gw_of 0 (by decide +kernel), List.forall_mem_cons.mpr ⟨gw_of 857 (by decide +kernel), fun _ h => h⟩⟩⟩⟩) ⟨by decide, by decide, by decide +kernel⟩ ⟨Nat.le_of_ble_eq_true rfl, Nat.le_of_ble_eq_true rfl⟩ rfl hl.1 hcs (Nat.zero_le _) dL_law_1254 (fun H1 L1 hH => ?_)
  refine lv_istore (lv' := (6, .int _) :: lwV b lo j) hx hb dL_law_1257 hl (by decide) rfl (fun ls hl => ?_)
  refine lv_aload_n hx hb dL_law_1259 rfl (lv_at hl 4 rfl) ?_
  refine lwMod (as := []) (a := 122) (ci := 8) (ix := 179) (n := 0) (rest := []) c2 (Nat.le_of_ble_eq_true rfl) C hH (by decide) rfl rfl rfl hl.1 (List.forall_mem_cons.mpr ⟨gw_of 1307 (by decide +kernel), List.forall_mem_cons.mpr ⟨gw_of 1308 (by decide +kernel), List.forall_mem_cons.mpr ⟨gw_of 1309 (by decide +kernel), List.forall_mem_cons.mpr ⟨gw_of 9 (by decide +kernel), zwl_in (gw_of 1310 (by decide +kernel))⟩⟩⟩⟩) ⟨rfl, by decide, by decide, by decide +kernel⟩ (Nat.le_of_ble_eq_true rfl) (Nat.le_of_ble_eq_true rfl) hcs (Nat.zero_le _) dL_law_1260 (fun H1 L1 hH => ?_)
  refine lv_istore (lv' := (7, .int v) :: (6, .int _) :: lwV b lo j) hx hb dL_law_1263 hl (by decide) rfl (fun ls hl => ?_)
  exact lwTail C I2 hH hl hR hcs dL_law_1265 dL_law_1266 dL_law_1269 dL_law_1271 dL_law_1276 dL_law_1278 dL_law_1281 dL_law_1282 dL_law_1283 dL_law_1284 dL_law_1286 dL_law_1287 dL_law_1288 dL_law_1293 (by decide) kk
theorem lc_statistic {j : Nat} {ls : Array Slot} (C : lwC p l s m c b L xs D K cO cD lo) (I : lwI G) (hH : lwHp s D K cO cD lo G fo fd H locs) (hl : lv_has ls 9 (lwV b lo j)) (hj : 3 * j + 3 ≤ L) (hcs : cells + 1 ≤ room_1.cells ∧ slots + 6 ≤ room_1.slots) (kk : lwK p l e s m b below meth c D K cO cD lo Q cells slots j) : W p l e room_1 s m #[Value.ref b] below meth c H locs cells slots Q (F0 m 1296 ls []) := by
  have hx := C.1.1
  have hb := C.1.2.1
  obtain ⟨G1, G2, r, v, hM, hr, c2, hR, I2⟩ := lp_statistic (D := D) (K := K) (lo := lo) C.2.2.2.2.2.2.2.1 I (xs (3 * j + 1))
  refine lv_aload_n hx hb dL_law_1296 rfl (lv_at hl 4 rfl) ?_
  refine lwArg (k := 1) C hH (by omega) (by decide) (lv_at hl 5 rfl) (lv_at hl 0 rfl) dL_law_1297 dL_law_1298 dL_law_1300 dL_law_1301 dL_law_1302 ?_
  refine lv_aload_n hx hb dL_law_1303 rfl (lv_at hl 2 rfl) ?_
  refine lwHelp (As := [Value.ref lo, Value.int (xs (3 * j + 1)), Value.ref (lo + 139)]) (rest := []) (n := 3) (ix := 180) (zh_statistic (cO := cO) (f := fo) hM hr) C hH ⟨rfl, rfl⟩ (List.forall_mem_cons.mpr ⟨gw_of 868 (by decide +kernel), List.forall_mem_cons.mpr ⟨gw_of 869 (by decide +kernel), List.forall_mem_cons.mpr ⟨gw_of 0 (by decide +kernel), List.forall_mem_cons.mpr ⟨gw_of 870 (by decide +kernel), fun _ h => h⟩⟩⟩⟩) ⟨by decide, by decide, by decide +kernel⟩ ⟨Nat.le_of_ble_eq_true rfl, Nat.le_of_ble_eq_true rfl⟩ rfl hl.1 hcs (Nat.zero_le _) dL_law_1304 (fun H1 L1 hH => ?_)
  refine lv_istore (lv' := (6, .int _) :: lwV b lo j) hx hb dL_law_1307 hl (by decide) rfl (fun ls hl => ?_)
  refine lv_aload_n hx hb dL_law_1309 rfl (lv_at hl 4 rfl) ?_
  refine lwArg (k := 1) C hH (by omega) (by decide) (lv_at hl 6 rfl) (lv_at hl 1 rfl) dL_law_1310 dL_law_1311 dL_law_1313 dL_law_1314 dL_law_1315 ?_
  refine lwMod (as := [.int (xs (3 * j + 1))]) (a := 122) (ci := 8) (ix := 182) (n := 1) (rest := []) c2 (Nat.le_of_ble_eq_true rfl) C hH (by decide) rfl rfl rfl hl.1 (List.forall_mem_cons.mpr ⟨gw_of 1315 (by decide +kernel), List.forall_mem_cons.mpr ⟨gw_of 1316 (by decide +kernel), List.forall_mem_cons.mpr ⟨gw_of 1317 (by decide +kernel), List.forall_mem_cons.mpr ⟨gw_of 9 (by decide +kernel), zwl_in (gw_of 1318 (by decide +kernel))⟩⟩⟩⟩) ⟨rfl, by decide, by decide, by decide +kernel⟩ (Nat.le_of_ble_eq_true rfl) (Nat.le_of_ble_eq_true rfl) hcs (Nat.zero_le _) dL_law_1316 (fun H1 L1 hH => ?_)
  refine lv_istore (lv' := (7, .int v) :: (6, .int _) :: lwV b lo j) hx hb dL_law_1319 hl (by decide) rfl (fun ls hl => ?_)
  exact lwTail C I2 hH hl hR hcs dL_law_1321 dL_law_1322 dL_law_1325 dL_law_1327 dL_law_1332 dL_law_1334 dL_law_1337 dL_law_1338 dL_law_1339 dL_law_1340 dL_law_1342 dL_law_1343 dL_law_1344 dL_law_1349 (by decide) kk
theorem lc_events {j : Nat} {ls : Array Slot} (C : lwC p l s m c b L xs D K cO cD lo) (I : lwI G) (hH : lwHp s D K cO cD lo G fo fd H locs) (hl : lv_has ls 9 (lwV b lo j)) (hj : 3 * j + 3 ≤ L) (hcs : cells + 1 ≤ room_1.cells ∧ slots + 6 ≤ room_1.slots) (kk : lwK p l e s m b below meth c D K cO cD lo Q cells slots j) : W p l e room_1 s m #[Value.ref b] below meth c H locs cells slots Q (F0 m 1352 ls []) := by
  have hx := C.1.1
  have hb := C.1.2.1
  obtain ⟨G1, G2, v, c1, c2, I2⟩ := lp_events I
  refine lv_aload_n hx hb dL_law_1352 rfl (lv_at hl 4 rfl) ?_
  refine lwMod (as := []) (a := 0) (ci := 7) (ix := 183) (n := 0) (rest := []) c1 (Nat.le_of_ble_eq_true rfl) C hH (by decide) rfl rfl rfl hl.1 (List.forall_mem_cons.mpr ⟨gw_of 301 (by decide +kernel), List.forall_mem_cons.mpr ⟨gw_of 302 (by decide +kernel), List.forall_mem_cons.mpr ⟨gw_of 303 (by decide +kernel), List.forall_mem_cons.mpr ⟨gw_of 1 (by decide +kernel), zwl_in (gw_of 304 (by decide +kernel))⟩⟩⟩⟩) ⟨rfl, by decide, by decide, by decide +kernel⟩ (Nat.le_of_ble_eq_true rfl) (Nat.le_of_ble_eq_true rfl) ⟨Nat.le_trans (Nat.le_succ _) hcs.1, Nat.le_trans (Nat.le_add_right _ 6) hcs.2⟩ (Nat.zero_le _) dL_law_1353 (fun H1 L1 hH => ?_)
  refine lv_aload_n hx hb dL_law_1356 rfl (lv_at hl 3 rfl) ?_
  refine lwMod (as := []) (a := 122) (ci := 8) (ix := 186) (n := 0) (rest := [.int v]) c2 (Nat.le_of_ble_eq_true rfl) C hH (by decide) rfl rfl rfl hl.1 (List.forall_mem_cons.mpr ⟨gw_of 1319 (by decide +kernel), List.forall_mem_cons.mpr ⟨gw_of 1320 (by decide +kernel), List.forall_mem_cons.mpr ⟨gw_of 1321 (by decide +kernel), List.forall_mem_cons.mpr ⟨gw_of 9 (by decide +kernel), zwl_in (gw_of 1322 (by decide +kernel))⟩⟩⟩⟩) ⟨rfl, by decide, by decide, by decide +kernel⟩ (Nat.le_of_ble_eq_true rfl) (Nat.le_of_ble_eq_true rfl) ⟨Nat.le_trans (Nat.le_succ _) hcs.1, Nat.le_trans (Nat.le_add_right _ 6) hcs.2⟩ (Nat.le_of_ble_eq_true rfl) dL_law_1357 (fun H1 L1 hH => ?_)
  refine lv_icmp_eq (tgt := 1692) hx hb dL_law_1360 (by decide) (fun _ => ?_) (fun hc => absurd rfl hc)
  refine W.widen (k := cells + 1) (n := slots + 6) (by omega) (by omega) ?_
  exact kk _ _ _ _ _ _ I2 hH hl
theorem lc_event {j : Nat} {ls : Array Slot} (C : lwC p l s m c b L xs D K cO cD lo) (I : lwI G) (hH : lwHp s D K cO cD lo G fo fd H locs) (hl : lv_has ls 9 (lwV b lo j)) (hj : 3 * j + 3 ≤ L) (hcs : cells + 1 ≤ room_1.cells ∧ slots + 6 ≤ room_1.slots) (kk : lwK p l e s m b below meth c D K cO cD lo Q cells slots j) : W p l e room_1 s m #[Value.ref b] below meth c H locs cells slots Q (F0 m 1365 ls []) := by
  have hx := C.1.1
  have hb := C.1.2.1
  obtain ⟨G1, G2, r, v, hM, hr, c2, hR, I2⟩ := lp_event (D := D) (K := K) (lo := lo) C.2.2.2.2.2.2.2.1 I (xs (3 * j + 1)) (xs (3 * j + 2))
  refine lv_aload_n hx hb dL_law_1365 rfl (lv_at hl 4 rfl) ?_
  refine lwArg (k := 1) C hH (by omega) (by decide) (lv_at hl 5 rfl) (lv_at hl 0 rfl) dL_law_1366 dL_law_1367 dL_law_1369 dL_law_1370 dL_law_1371 ?_
  refine lwArg (k := 2) C hH (by omega) (by decide) (lv_at hl 5 rfl) (lv_at hl 0 rfl) dL_law_1372 dL_law_1373 dL_law_1375 dL_law_1376 dL_law_1377 ?_
  refine lv_aload_n hx hb dL_law_1378 rfl (lv_at hl 2 rfl) ?_
  refine lwHelp (As := [Value.ref lo, Value.int (xs (3 * j + 1)), Value.int (xs (3 * j + 2)), Value.ref (lo + 139)]) (rest := []) (n := 4) (ix := 187) (zh_event (cO := cO) (f := fo) hM hr) C hH ⟨rfl, rfl⟩ (List.forall_mem_cons.mpr ⟨gw_of 875 (by decide +kernel), List.forall_mem_cons.mpr ⟨gw_of 876 (by decide +kernel), List.forall_mem_cons.mpr ⟨gw_of 0 (by decide +kernel), List.forall_mem_cons.mpr ⟨gw_of 877 (by decide +kernel), fun _ h => h⟩⟩⟩⟩) ⟨by decide, by decide, by decide +kernel⟩ ⟨Nat.le_of_ble_eq_true rfl, Nat.le_of_ble_eq_true rfl⟩ rfl hl.1 hcs (Nat.zero_le _) dL_law_1379 (fun H1 L1 hH => ?_)
  refine lv_istore (lv' := (6, .int _) :: lwV b lo j) hx hb dL_law_1382 hl (by decide) rfl (fun ls hl => ?_)
  refine lv_aload_n hx hb dL_law_1384 rfl (lv_at hl 4 rfl) ?_
  refine lwArg (k := 1) C hH (by omega) (by decide) (lv_at hl 6 rfl) (lv_at hl 1 rfl) dL_law_1385 dL_law_1386 dL_law_1388 dL_law_1389 dL_law_1390 ?_
  refine lwArg (k := 2) C hH (by omega) (by decide) (lv_at hl 6 rfl) (lv_at hl 1 rfl) dL_law_1391 dL_law_1392 dL_law_1394 dL_law_1395 dL_law_1396 ?_
  refine lwMod (as := [.int (xs (3 * j + 1)), .int (xs (3 * j + 2))]) (a := 122) (ci := 8) (ix := 189) (n := 2) (rest := []) c2 (Nat.le_of_ble_eq_true rfl) C hH (by decide) rfl rfl rfl hl.1 (List.forall_mem_cons.mpr ⟨gw_of 1323 (by decide +kernel), List.forall_mem_cons.mpr ⟨gw_of 1324 (by decide +kernel), List.forall_mem_cons.mpr ⟨gw_of 1325 (by decide +kernel), List.forall_mem_cons.mpr ⟨gw_of 9 (by decide +kernel), zwl_in (gw_of 1326 (by decide +kernel))⟩⟩⟩⟩) ⟨rfl, by decide, by decide, by decide +kernel⟩ (Nat.le_of_ble_eq_true rfl) (Nat.le_of_ble_eq_true rfl) hcs (Nat.zero_le _) dL_law_1397 (fun H1 L1 hH => ?_)
  refine lv_istore (lv' := (7, .int v) :: (6, .int _) :: lwV b lo j) hx hb dL_law_1400 hl (by decide) rfl (fun ls hl => ?_)
  exact lwTail C I2 hH hl hR hcs dL_law_1402 dL_law_1403 dL_law_1406 dL_law_1408 dL_law_1413 dL_law_1415 dL_law_1418 dL_law_1419 dL_law_1420 dL_law_1421 dL_law_1423 dL_law_1424 dL_law_1425 dL_law_1430 (by decide) kk
theorem lc_forget {j : Nat} {ls : Array Slot} (C : lwC p l s m c b L xs D K cO cD lo) (I : lwI G) (hH : lwHp s D K cO cD lo G fo fd H locs) (hl : lv_has ls 9 (lwV b lo j)) (hj : 3 * j + 3 ≤ L) (hcs : cells + 1 ≤ room_1.cells ∧ slots + 6 ≤ room_1.slots) (kk : lwK p l e s m b below meth c D K cO cD lo Q cells slots j) : W p l e room_1 s m #[Value.ref b] below meth c H locs cells slots Q (F0 m 1433 ls []) := by
  have hx := C.1.1
  have hb := C.1.2.1
  obtain ⟨G1, G2, r, v, hM, hr, c2, hR, I2⟩ := lp_forget (D := D) (K := K) (lo := lo) C.2.2.2.2.2.2.2.1 I (xs (3 * j + 1))
  refine lv_aload_n hx hb dL_law_1433 rfl (lv_at hl 4 rfl) ?_
  refine lwArg (k := 1) C hH (by omega) (by decide) (lv_at hl 5 rfl) (lv_at hl 0 rfl) dL_law_1434 dL_law_1435 dL_law_1437 dL_law_1438 dL_law_1439 ?_
  refine lv_aload_n hx hb dL_law_1440 rfl (lv_at hl 2 rfl) ?_
  refine lwHelp (As := [Value.ref lo, Value.int (xs (3 * j + 1)), Value.ref (lo + 139)]) (rest := []) (n := 3) (ix := 190) (zh_forget (cO := cO) (f := fo) hM hr) C hH ⟨rfl, rfl⟩ (List.forall_mem_cons.mpr ⟨gw_of 883 (by decide +kernel), List.forall_mem_cons.mpr ⟨gw_of 884 (by decide +kernel), List.forall_mem_cons.mpr ⟨gw_of 0 (by decide +kernel), List.forall_mem_cons.mpr ⟨gw_of 885 (by decide +kernel), fun _ h => h⟩⟩⟩⟩) ⟨by decide, by decide, by decide +kernel⟩ ⟨Nat.le_of_ble_eq_true rfl, Nat.le_of_ble_eq_true rfl⟩ rfl hl.1 hcs (Nat.zero_le _) dL_law_1441 (fun H1 L1 hH => ?_)
  refine lv_istore (lv' := (6, .int _) :: lwV b lo j) hx hb dL_law_1444 hl (by decide) rfl (fun ls hl => ?_)
  refine lv_aload_n hx hb dL_law_1446 rfl (lv_at hl 4 rfl) ?_
  refine lwArg (k := 1) C hH (by omega) (by decide) (lv_at hl 6 rfl) (lv_at hl 1 rfl) dL_law_1447 dL_law_1448 dL_law_1450 dL_law_1451 dL_law_1452 ?_
  refine lwMod (as := [.int (xs (3 * j + 1))]) (a := 122) (ci := 8) (ix := 192) (n := 1) (rest := []) c2 (Nat.le_of_ble_eq_true rfl) C hH (by decide) rfl rfl rfl hl.1 (List.forall_mem_cons.mpr ⟨gw_of 1327 (by decide +kernel), List.forall_mem_cons.mpr ⟨gw_of 1328 (by decide +kernel), List.forall_mem_cons.mpr ⟨gw_of 1329 (by decide +kernel), List.forall_mem_cons.mpr ⟨gw_of 9 (by decide +kernel), zwl_in (gw_of 1330 (by decide +kernel))⟩⟩⟩⟩) ⟨rfl, by decide, by decide, by decide +kernel⟩ (Nat.le_of_ble_eq_true rfl) (Nat.le_of_ble_eq_true rfl) hcs (Nat.zero_le _) dL_law_1453 (fun H1 L1 hH => ?_)
  refine lv_istore (lv' := (7, .int v) :: (6, .int _) :: lwV b lo j) hx hb dL_law_1456 hl (by decide) rfl (fun ls hl => ?_)
  exact lwTail C I2 hH hl hR hcs dL_law_1458 dL_law_1459 dL_law_1462 dL_law_1464 dL_law_1469 dL_law_1471 dL_law_1474 dL_law_1475 dL_law_1476 dL_law_1477 dL_law_1479 dL_law_1480 dL_law_1481 dL_law_1486 (by decide) kk
theorem lw_char (x : Int32) : vp_nar .char ((x.toUInt32 % 65536).toInt32) = (x.toUInt32 % 65536).toInt32 := by
  show (((x.toUInt32 % 65536).toInt32).toUInt32 % 65536).toInt32 = _
  rw [UInt32.toUInt32_toInt32]
  congr 1
  apply UInt32.toNat_inj.mp
  rw [UInt32.toNat_mod, UInt32.toNat_mod]
  exact Nat.mod_mod _ _
theorem lc_feed {j : Nat} {ls : Array Slot} (C : lwC p l s m c b L xs D K cO cD lo) (I : lwI G) (hH : lwHp s D K cO cD lo G fo fd H locs) (hl : lv_has ls 9 (lwV b lo j)) (hj : 3 * j + 3 ≤ L) (hcs : cells + 1 ≤ room_1.cells ∧ slots + 6 ≤ room_1.slots) (kk : lwK p l e s m b below meth c D K cO cD lo Q cells slots j) : W p l e room_1 s m #[Value.ref b] below meth c H locs cells slots Q (F0 m 1489 ls []) := by
  have hx := C.1.1
  have hb := C.1.2.1
  obtain ⟨x9, hx9⟩ : ∃ x9 : Int32, x9 = ((xs (3 * j + 1)).toUInt32 % 65536).toInt32 := ⟨_, rfl⟩
  have hv9 : vp_nar .char x9 = x9 := by
    rw [hx9]
    exact lw_char _
  obtain ⟨G1, G2, r, v, hM, hr, c2, hR, I2⟩ := lp_feed (D := D) (K := K) (lo := lo) C.2.2.2.2.2.2.2.1 I x9 hv9
  refine lv_aload_n hx hb dL_law_1489 rfl (lv_at hl 4 rfl) ?_
  refine lwArg (k := 1) C hH (by omega) (by decide) (lv_at hl 5 rfl) (lv_at hl 0 rfl) dL_law_1490 dL_law_1491 dL_law_1493 dL_law_1494 dL_law_1495 ?_
  refine lv_i2c (v := x9) hx hb dL_law_1496 hx9.symm ?_
  refine lv_aload_n hx hb dL_law_1497 rfl (lv_at hl 2 rfl) ?_
  refine lwHelp (As := [Value.ref lo, Value.int x9, Value.ref (lo + 139)]) (rest := []) (n := 3) (ix := 193) (zh_feed (cO := cO) (f := fo) hM hr) C hH ⟨rfl, rfl⟩ (List.forall_mem_cons.mpr ⟨gw_of 895 (by decide +kernel), List.forall_mem_cons.mpr ⟨gw_of 896 (by decide +kernel), List.forall_mem_cons.mpr ⟨gw_of 0 (by decide +kernel), List.forall_mem_cons.mpr ⟨gw_of 897 (by decide +kernel), fun _ h => h⟩⟩⟩⟩) ⟨by decide, by decide, by decide +kernel⟩ ⟨Nat.le_of_ble_eq_true rfl, Nat.le_of_ble_eq_true rfl⟩ rfl hl.1 hcs (Nat.zero_le _) dL_law_1498 (fun H1 L1 hH => ?_)
  refine lv_istore (lv' := (6, .int _) :: lwV b lo j) hx hb dL_law_1501 hl (by decide) rfl (fun ls hl => ?_)
  refine lv_aload_n hx hb dL_law_1503 rfl (lv_at hl 4 rfl) ?_
  refine lwArg (k := 1) C hH (by omega) (by decide) (lv_at hl 6 rfl) (lv_at hl 1 rfl) dL_law_1504 dL_law_1505 dL_law_1507 dL_law_1508 dL_law_1509 ?_
  refine lv_i2c (v := x9) hx hb dL_law_1510 hx9.symm ?_
  refine lwMod (as := [.int x9]) (a := 122) (ci := 8) (ix := 196) (n := 1) (rest := []) c2 (Nat.le_of_ble_eq_true rfl) C hH (by decide) rfl rfl rfl hl.1 (List.forall_mem_cons.mpr ⟨gw_of 1331 (by decide +kernel), List.forall_mem_cons.mpr ⟨gw_of 1332 (by decide +kernel), List.forall_mem_cons.mpr ⟨gw_of 1333 (by decide +kernel), List.forall_mem_cons.mpr ⟨gw_of 9 (by decide +kernel), zwl_in (gw_of 1334 (by decide +kernel))⟩⟩⟩⟩) ⟨rfl, by decide, by decide, by decide +kernel⟩ (Nat.le_of_ble_eq_true rfl) (Nat.le_of_ble_eq_true rfl) hcs (Nat.zero_le _) dL_law_1511 (fun H1 L1 hH => ?_)
  refine lv_istore (lv' := (7, .int v) :: (6, .int _) :: lwV b lo j) hx hb dL_law_1514 hl (by decide) rfl (fun ls hl => ?_)
  exact lwTail C I2 hH hl hR hcs dL_law_1516 dL_law_1517 dL_law_1520 dL_law_1522 dL_law_1527 dL_law_1529 dL_law_1532 dL_law_1533 dL_law_1534 dL_law_1535 dL_law_1537 dL_law_1538 dL_law_1539 dL_law_1544 (by decide) kk
theorem lc_perform {j : Nat} {ls : Array Slot} (C : lwC p l s m c b L xs D K cO cD lo) (I : lwI G) (hH : lwHp s D K cO cD lo G fo fd H locs) (hl : lv_has ls 9 (lwV b lo j)) (hj : 3 * j + 3 ≤ L) (hcs : cells + 1 ≤ room_1.cells ∧ slots + 6 ≤ room_1.slots) (kk : lwK p l e s m b below meth c D K cO cD lo Q cells slots j) : W p l e room_1 s m #[Value.ref b] below meth c H locs cells slots Q (F0 m 1547 ls []) := by
  have hx := C.1.1
  have hb := C.1.2.1
  obtain ⟨G1, G2, r, v, hM, hr, c2, hR, I2⟩ := lp_perform (D := D) (K := K) (lo := lo) C.2.2.2.2.2.2.2.1 I
  refine lv_aload_n hx hb dL_law_1547 rfl (lv_at hl 4 rfl) ?_
  refine lv_aload_n hx hb dL_law_1548 rfl (lv_at hl 2 rfl) ?_
  refine lwHelp (As := [Value.ref lo, Value.ref (lo + 139)]) (rest := []) (n := 2) (ix := 197) (zh_perform (cO := cO) (f := fo) hM hr) C hH ⟨rfl, rfl⟩ (List.forall_mem_cons.mpr ⟨gw_of 911 (by decide +kernel), List.forall_mem_cons.mpr ⟨gw_of 912 (by decide +kernel), List.forall_mem_cons.mpr ⟨gw_of 0 (by decide +kernel), List.forall_mem_cons.mpr ⟨gw_of 913 (by decide +kernel), fun _ h => h⟩⟩⟩⟩) ⟨by decide, by decide, by decide +kernel⟩ ⟨Nat.le_of_ble_eq_true rfl, Nat.le_of_ble_eq_true rfl⟩ rfl hl.1 hcs (Nat.zero_le _) dL_law_1549 (fun H1 L1 hH => ?_)
  refine lv_istore (lv' := (6, .int _) :: lwV b lo j) hx hb dL_law_1552 hl (by decide) rfl (fun ls hl => ?_)
  refine lv_aload_n hx hb dL_law_1554 rfl (lv_at hl 4 rfl) ?_
  refine lwMod (as := []) (a := 122) (ci := 8) (ix := 199) (n := 0) (rest := []) c2 (Nat.le_of_ble_eq_true rfl) C hH (by decide) rfl rfl rfl hl.1 (List.forall_mem_cons.mpr ⟨gw_of 1335 (by decide +kernel), List.forall_mem_cons.mpr ⟨gw_of 1336 (by decide +kernel), List.forall_mem_cons.mpr ⟨gw_of 1337 (by decide +kernel), List.forall_mem_cons.mpr ⟨gw_of 9 (by decide +kernel), zwl_in (gw_of 1338 (by decide +kernel))⟩⟩⟩⟩) ⟨rfl, by decide, by decide, by decide +kernel⟩ (Nat.le_of_ble_eq_true rfl) (Nat.le_of_ble_eq_true rfl) hcs (Nat.zero_le _) dL_law_1555 (fun H1 L1 hH => ?_)
  refine lv_istore (lv' := (7, .int v) :: (6, .int _) :: lwV b lo j) hx hb dL_law_1558 hl (by decide) rfl (fun ls hl => ?_)
  exact lwTail C I2 hH hl hR hcs dL_law_1560 dL_law_1561 dL_law_1564 dL_law_1566 dL_law_1571 dL_law_1573 dL_law_1576 dL_law_1577 dL_law_1578 dL_law_1579 dL_law_1581 dL_law_1582 dL_law_1583 dL_law_1588 (by decide) kk
theorem lc_undo {j : Nat} {ls : Array Slot} (C : lwC p l s m c b L xs D K cO cD lo) (I : lwI G) (hH : lwHp s D K cO cD lo G fo fd H locs) (hl : lv_has ls 9 (lwV b lo j)) (hj : 3 * j + 3 ≤ L) (hcs : cells + 1 ≤ room_1.cells ∧ slots + 6 ≤ room_1.slots) (kk : lwK p l e s m b below meth c D K cO cD lo Q cells slots j) : W p l e room_1 s m #[Value.ref b] below meth c H locs cells slots Q (F0 m 1591 ls []) := by
  have hx := C.1.1
  have hb := C.1.2.1
  obtain ⟨G1, G2, r, v, hM, hr, c2, hR, I2⟩ := lp_undo (D := D) (K := K) (lo := lo) C.2.2.2.2.2.2.2.1 I
  refine lv_aload_n hx hb dL_law_1591 rfl (lv_at hl 4 rfl) ?_
  refine lv_aload_n hx hb dL_law_1592 rfl (lv_at hl 2 rfl) ?_
  refine lwHelp (As := [Value.ref lo, Value.ref (lo + 139)]) (rest := []) (n := 2) (ix := 200) (zh_undo (cO := cO) (f := fo) hM hr) C hH ⟨rfl, rfl⟩ (List.forall_mem_cons.mpr ⟨gw_of 981 (by decide +kernel), List.forall_mem_cons.mpr ⟨gw_of 982 (by decide +kernel), List.forall_mem_cons.mpr ⟨gw_of 0 (by decide +kernel), List.forall_mem_cons.mpr ⟨gw_of 983 (by decide +kernel), fun _ h => h⟩⟩⟩⟩) ⟨by decide, by decide, by decide +kernel⟩ ⟨Nat.le_of_ble_eq_true rfl, Nat.le_of_ble_eq_true rfl⟩ rfl hl.1 hcs (Nat.zero_le _) dL_law_1593 (fun H1 L1 hH => ?_)
  refine lv_istore (lv' := (6, .int _) :: lwV b lo j) hx hb dL_law_1596 hl (by decide) rfl (fun ls hl => ?_)
  refine lv_aload_n hx hb dL_law_1598 rfl (lv_at hl 4 rfl) ?_
  refine lwMod (as := []) (a := 122) (ci := 8) (ix := 202) (n := 0) (rest := []) c2 (Nat.le_of_ble_eq_true rfl) C hH (by decide) rfl rfl rfl hl.1 (List.forall_mem_cons.mpr ⟨gw_of 1359 (by decide +kernel), List.forall_mem_cons.mpr ⟨gw_of 1360 (by decide +kernel), List.forall_mem_cons.mpr ⟨gw_of 1361 (by decide +kernel), List.forall_mem_cons.mpr ⟨gw_of 9 (by decide +kernel), zwl_in (gw_of 1362 (by decide +kernel))⟩⟩⟩⟩) ⟨rfl, by decide, by decide, by decide +kernel⟩ (Nat.le_of_ble_eq_true rfl) (Nat.le_of_ble_eq_true rfl) hcs (Nat.zero_le _) dL_law_1599 (fun H1 L1 hH => ?_)
  refine lv_istore (lv' := (7, .int v) :: (6, .int _) :: lwV b lo j) hx hb dL_law_1602 hl (by decide) rfl (fun ls hl => ?_)
  exact lwTail C I2 hH hl hR hcs dL_law_1604 dL_law_1605 dL_law_1608 dL_law_1610 dL_law_1615 dL_law_1617 dL_law_1620 dL_law_1621 dL_law_1622 dL_law_1623 dL_law_1625 dL_law_1626 dL_law_1627 dL_law_1632 (by decide) kk
theorem lc_save {j : Nat} {ls : Array Slot} (C : lwC p l s m c b L xs D K cO cD lo) (I : lwI G) (hH : lwHp s D K cO cD lo G fo fd H locs) (hl : lv_has ls 9 (lwV b lo j)) (hj : 3 * j + 3 ≤ L) (hcs : cells + 1 ≤ room_1.cells ∧ slots + 6 ≤ room_1.slots) (kk : lwK p l e s m b below meth c D K cO cD lo Q cells slots j) : W p l e room_1 s m #[Value.ref b] below meth c H locs cells slots Q (F0 m 1635 ls []) := by
  have hx := C.1.1
  have hb := C.1.2.1
  obtain ⟨G1, G2, v, c1, c2, I2⟩ := lp_save I
  refine lv_aload_n hx hb dL_law_1635 rfl (lv_at hl 4 rfl) ?_
  refine lwMod (as := []) (a := 0) (ci := 7) (ix := 203) (n := 0) (rest := []) c1 (Nat.le_of_ble_eq_true rfl) C hH (by decide) rfl rfl rfl hl.1 (List.forall_mem_cons.mpr ⟨gw_of 305 (by decide +kernel), List.forall_mem_cons.mpr ⟨gw_of 306 (by decide +kernel), List.forall_mem_cons.mpr ⟨gw_of 307 (by decide +kernel), List.forall_mem_cons.mpr ⟨gw_of 1 (by decide +kernel), zwl_in (gw_of 308 (by decide +kernel))⟩⟩⟩⟩) ⟨rfl, by decide, by decide, by decide +kernel⟩ (Nat.le_of_ble_eq_true rfl) (Nat.le_of_ble_eq_true rfl) ⟨Nat.le_trans (Nat.le_succ _) hcs.1, Nat.le_trans (Nat.le_add_right _ 6) hcs.2⟩ (Nat.zero_le _) dL_law_1636 (fun H1 L1 hH => ?_)
  refine lv_aload_n hx hb dL_law_1639 rfl (lv_at hl 3 rfl) ?_
  refine lwMod (as := []) (a := 122) (ci := 8) (ix := 206) (n := 0) (rest := [.int v]) c2 (Nat.le_of_ble_eq_true rfl) C hH (by decide) rfl rfl rfl hl.1 (List.forall_mem_cons.mpr ⟨gw_of 1363 (by decide +kernel), List.forall_mem_cons.mpr ⟨gw_of 1364 (by decide +kernel), List.forall_mem_cons.mpr ⟨gw_of 1365 (by decide +kernel), List.forall_mem_cons.mpr ⟨gw_of 9 (by decide +kernel), zwl_in (gw_of 1366 (by decide +kernel))⟩⟩⟩⟩) ⟨rfl, by decide, by decide, by decide +kernel⟩ (Nat.le_of_ble_eq_true rfl) (Nat.le_of_ble_eq_true rfl) ⟨Nat.le_trans (Nat.le_succ _) hcs.1, Nat.le_trans (Nat.le_add_right _ 6) hcs.2⟩ (Nat.le_of_ble_eq_true rfl) dL_law_1640 (fun H1 L1 hH => ?_)
  refine lv_icmp_eq (tgt := 1692) hx hb dL_law_1643 (by decide) (fun _ => ?_) (fun hc => absurd rfl hc)
  refine W.widen (k := cells + 1) (n := slots + 6) (by omega) (by omega) ?_
  exact kk _ _ _ _ _ _ I2 hH hl
theorem lc_restore {j : Nat} {ls : Array Slot} (C : lwC p l s m c b L xs D K cO cD lo) (I : lwI G) (hH : lwHp s D K cO cD lo G fo fd H locs) (hl : lv_has ls 9 (lwV b lo j)) (hj : 3 * j + 3 ≤ L) (hcs : cells + 1 ≤ room_1.cells ∧ slots + 6 ≤ room_1.slots) (kk : lwK p l e s m b below meth c D K cO cD lo Q cells slots j) : W p l e room_1 s m #[Value.ref b] below meth c H locs cells slots Q (F0 m 1648 ls []) := by
  have hx := C.1.1
  have hb := C.1.2.1
  obtain ⟨G1, G2, r, v, hM, hr, c2, hR, I2⟩ := lp_restore (D := D) (K := K) (lo := lo) C.2.2.2.2.2.2.2.1 I
  refine lv_aload_n hx hb dL_law_1648 rfl (lv_at hl 4 rfl) ?_
  refine lv_aload_n hx hb dL_law_1649 rfl (lv_at hl 2 rfl) ?_
  refine lwHelp (As := [Value.ref lo, Value.ref (lo + 139)]) (rest := []) (n := 2) (ix := 207) (zh_restore (cO := cO) (f := fo) hM hr) C hH ⟨rfl, rfl⟩ (List.forall_mem_cons.mpr ⟨gw_of 993 (by decide +kernel), List.forall_mem_cons.mpr ⟨gw_of 994 (by decide +kernel), List.forall_mem_cons.mpr ⟨gw_of 0 (by decide +kernel), List.forall_mem_cons.mpr ⟨gw_of 995 (by decide +kernel), fun _ h => h⟩⟩⟩⟩) ⟨by decide, by decide, by decide +kernel⟩ ⟨Nat.le_of_ble_eq_true rfl, Nat.le_of_ble_eq_true rfl⟩ rfl hl.1 hcs (Nat.zero_le _) dL_law_1650 (fun H1 L1 hH => ?_)
  refine lv_istore (lv' := (6, .int _) :: lwV b lo j) hx hb dL_law_1653 hl (by decide) rfl (fun ls hl => ?_)
  refine lv_aload_n hx hb dL_law_1655 rfl (lv_at hl 4 rfl) ?_
  refine lwMod (as := []) (a := 122) (ci := 8) (ix := 209) (n := 0) (rest := []) c2 (Nat.le_of_ble_eq_true rfl) C hH (by decide) rfl rfl rfl hl.1 (List.forall_mem_cons.mpr ⟨gw_of 1371 (by decide +kernel), List.forall_mem_cons.mpr ⟨gw_of 1372 (by decide +kernel), List.forall_mem_cons.mpr ⟨gw_of 1373 (by decide +kernel), List.forall_mem_cons.mpr ⟨gw_of 9 (by decide +kernel), zwl_in (gw_of 1374 (by decide +kernel))⟩⟩⟩⟩) ⟨rfl, by decide, by decide, by decide +kernel⟩ (Nat.le_of_ble_eq_true rfl) (Nat.le_of_ble_eq_true rfl) hcs (Nat.zero_le _) dL_law_1656 (fun H1 L1 hH => ?_)
  refine lv_istore (lv' := (7, .int v) :: (6, .int _) :: lwV b lo j) hx hb dL_law_1659 hl (by decide) rfl (fun ls hl => ?_)
  exact lwTail C I2 hH hl hR hcs dL_law_1661 dL_law_1662 dL_law_1665 dL_law_1667 dL_law_1672 dL_law_1674 dL_law_1677 dL_law_1678 dL_law_1679 dL_law_1680 dL_law_1682 dL_law_1683 dL_law_1684 dL_law_1689 (by decide) kk
end ZLAWC
