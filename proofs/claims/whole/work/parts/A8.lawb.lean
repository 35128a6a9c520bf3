/-! ===== the law's body: what its calls keep ===== -/
section ZLAWB
variable {l : Launch} {D : va_G} {K : Nat → ClassId} {lo : Nat} {cO cD : ClassId}
theorem M_thrown (G : Nat → Nat → Int32) : zcal zTT jM_thrown [.ref 122] (zhp G) = some (some (.int (G 122 6)), zhp G) := by
  refine zgo zMt_M_thrown (show zEv zTT (zco mM_thrown) kM_thrown_0 [.ref 122] [] _ _ from ?_)
  simp only [kM_thrown_0, ev_iload, ev_aload, ev_istore, ev_astore, ev_iconst, ev_null, ev_iinc, ev_iadd, ev_isub, ev_imul, ev_iand, ev_ior, ev_ixor, ev_ishl, ev_ishr, ev_iushr, ev_idiv, ev_irem, ev_icmp, ev_if, ev_ifnull, ev_ifnullN, ev_goto, ev_dupi, ev_dupr, ev_dup2, ev_pop, ev_getf, ev_puti, ev_putr, ev_iald, ev_cald, ev_aald, ev_iast, ev_cast, ev_alen, ev_tsw, ev_lsw, ev_max, ev_min, ev_obj, ev_cp, ev_throw, ev_iret, ev_aret, ev_aretN, ev_ret, ev_new, ev_newa, ev_anew, ev_is0, ev_is1, ev_is2, ev_is3, ev_is4, ev_iv1, ev_iv2, ev_iv3, ev_iv4, ev_iv5, ev_ip1, ev_ip2, zlg_0, zls_0, zlg_1, zls_1, zlg_2, zls_2, zlg_3, zls_3, zlg_4, zls_4, zlg_5, zls_5, zlg_6, zls_6, zlg_7, zls_7, zlg_8, zls_8, zlg_9, zls_9, zlg_10, zls_10, zlg_11, zls_11, ev_jif, zLI_i, zLR_r, zOV_s, List.length_cons, List.length_nil, zcd, decide_eq_true_eq, true_and, and_true, Option.toList_some, Option.toList_none, List.cons_append, List.nil_append, zrf, if_true, if_false, true_or, or_true, false_or, or_false, and_self, zwr_w, zG_hp, Nat.reduceAdd, Nat.reduceLT, Nat.reduceLeDiff, Nat.zero_le, reduceIte, not_true_eq_false, not_false_eq_true, Prod.mk.injEq, Sum.inl.injEq, Option.some.injEq, Value.int.injEq, Value.ref.injEq, zsw, ev_jif, zB01, Bool.false_eq_true, one_ne, zero_eqone, nI_1, gT0_0, gT0_1, gT0_2, gT0_3, gT0_4, gT0_5, gT0_6, gT0_7, oT0, aT1, aT2, aT3, aT4, aT5, aT6, gT7_0, pgT7_0, gT7_1, gT7_2, pgT7_2, oT7, aT8, gT9_0, pgT9_0, gT9_1, gT9_2, pgT9_2, oT9, aT10, gP0_0, gP0_1, gP0_2, gP0_3, gP0_4, gP0_5, gP0_6, gP0_7, pgP0_7, gP0_8, pgP0_8, oP0, aP1, aP2, aP3, aP4, aP5, aP6, gR0_0, pgR0_0, gR0_1, gR0_2, pgR0_2, oR0, aR1, g0_0, g0_1, g0_2, g0_3, g0_4, g0_5, g0_6, g0_7, pg0_7, g0_8, pg0_8, o0, g34_0, g34_1, pg34_1, g34_2, pg34_2, o34, g102_0, g102_1, pg102_1, g102_2, pg102_2, g102_3, g102_4, g102_5, g102_6, pg102_6, o102, g122_0, g122_1, g122_2, g122_3, pg122_3, g122_4, g122_5, pg122_5, g122_6, pg122_6, g122_7, g122_8, g122_9, pg122_9, g122_10, g122_11, g122_12, g122_13, g122_14, g122_15, g122_16, g122_17, g122_18, pg122_18, g122_19, g122_20, pg122_20, g122_21, pg122_21, g122_22, pg122_22, g122_23, o122, a103, a104, a105, a106, a107, a123, a124, a125, a126, a127, a128, a129, a130, a131, a132, a133, a134, a135, a136, a137, a138, q35, zisT_1, zisT_12, zisT_23, zisT_36, zisT_47, zisT_58, zisT_69, zisT_80, zisT_91, zisP_108, zisP_115, zisR_8, zisR_10, zisR_19, zisR_21, zisR_30, zisR_32, zisR_43, zisR_45, zisR_54, zisR_56, zisR_65, zisR_67, zisR_76, zisR_78, zisR_87, zisR_89, zisR_98, zisR_100, id zisT_1, id zisT_12, id zisT_23, id zisP_108, id zisP_115, id (zisR_T7 zisT_1), id (zisR_T9 zisT_1)]
/-- class and reference hold the same -/
def lwI (G : Nat → Nat → Int32) : Prop := ∃ A T, zCP G A ∧ zST G T ∧ (∃ Cs, zSD G Cs) ∧ zMZ G A T ∧ zGA A
theorem zMZ.up {G G1 : Nat → Nat → Int32} {A : zCA} {T : List Int32} (h : zMZ G A T) (e : ∀ a, 122 ≤ a → G1 a = G a) : zMZ G1 A T := by
  obtain ⟨h1, h2, h3, ⟨q1, q2, q3, q4⟩, h5, h6, ⟨t1, t2, t3⟩⟩ := h
  exact ⟨by rw [e 123 (by omega)]; exact h1, by rw [e 124 (by omega)]; exact h2, by rw [e 122 (by omega)]; exact h3, ⟨by rw [e 122 (by omega)]; exact q1, q2, q3, by rw [e 126 (by omega)]; exact q4⟩, by intro s hs; rw [e 127 (by omega)]; exact h5 s hs, by intro s hs; rw [e 128 (by omega)]; exact h6 s hs, ⟨by rw [e 122 (by omega)]; exact t1, t2, by rw [e 137 (by omega)]; exact t3⟩⟩
theorem zST.cg {G G1 : Nat → Nat → Int32} {T : List Int32} (h : zST G T) (e : ∀ a, 102 ≤ a → a ≤ 106 → G1 a = G a) : zST G1 T := by
  obtain ⟨t1, t2, t3⟩ := h
  exact ⟨by rw [e 102 (by omega) (by omega)]; exact t1, t2, by rw [e 103 (by omega) (by omega)]; exact t3⟩
theorem zSD.cg {G G1 : Nat → Nat → Int32} {Cs : List zCm} (h : zSD G Cs) (e : ∀ a, 102 ≤ a → a ≤ 106 → G1 a = G a) : zSD G1 Cs := by
  obtain ⟨t1, t2, t3⟩ := h
  exact ⟨by rw [e 102 (by omega) (by omega)]; exact t1, t2, by rw [e 104 (by omega) (by omega), e 105 (by omega) (by omega), e 106 (by omega) (by omega)]; exact t3⟩
theorem lwI_of {G G1 G2 : Nat → Nat → Int32} {A' : zCA} {T : List Int32} (p1 : zCP G1 A') (f1 : ∀ a, 102 ≤ a → (a ≤ 106 ∨ 122 ≤ a) → G1 a = G a) (hs : zST G T) (hd : ∃ Cs, zSD G Cs) (z2 : zMZ G2 A' T) (f2 : ∀ a, a < 122 → G2 a = G1 a) (g : zGA A') : lwI G2 := by
  have f3 : ∀ a, 102 ≤ a → a ≤ 106 → G2 a = G a := fun a h1 h2 => (f2 a (by omega)).trans (f1 a h1 (Or.inl h2))
  obtain ⟨Cs, hd⟩ := hd
  exact ⟨A', T, zCO.eq p1 (fun a ha => f2 a (by omega)), hs.cg f3, ⟨Cs, hd.cg f3⟩, z2, g⟩
theorem lwI_of2 {G1 G2 : Nat → Nat → Int32} {A' : zCA} {T : List Int32} (p1 : zCP G1 A') (hs : zST G1 T) (hd : ∃ Cs, zSD G1 Cs) (z2 : zMZ G2 A' T) (f2 : ∀ a, a < 122 → G2 a = G1 a) (g : zGA A') : lwI G2 := by
  obtain ⟨Cs, hd⟩ := hd
  exact ⟨A', T, zCO.eq p1 (fun a ha => f2 a (by omega)), hs.cg (fun a h1 h2 => f2 a (by omega)), ⟨Cs, hd.cg (fun a h1 h2 => f2 a (by omega))⟩, z2, g⟩
theorem zMZ.c6 {G : Nat → Nat → Int32} {A : zCA} {T : List Int32} (h : zMZ G A T) : cC A ≤ 6 ∧ cN A < 6 := ⟨h.2.2.2.1.2.1, h.2.2.2.1.2.2.1⟩
/-- one pair of calls: class through its helper, reference -/
def lwP (l : Launch) (D : va_G) (K : Nat → ClassId) (lo : Nat) (m : zMe) (j : Nat) (as : List Value) (hr : zRt → Prop) (f : Nat → Int32) (G : Nat → Nat → Int32) : Prop :=
  ∃ (G1 G2 : Nat → Nat → Int32) (r : zRt) (v : Int32), zxM zGw zNs l D vwCl K zxB zxSt lo (some 139) m (.ref 0 :: as) (zhp G) r (zhp G1) ∧ hr r ∧ zcal zTT j (.ref 122 :: as) (zhp G1) = some (some (.int v), zhp G2) ∧ zRf r f v (G2 122 6) ∧ lwI G2
/-- what a law's run stands on -/
def lwC (p : Program) (l : Launch) (s : State) (m : MethodId) (c : Code) (b L : Nat) (xs : Nat → Int32) (D : va_G) (K : Nat → ClassId) (cO cD : ClassId) (lo : Nat) : Prop :=
  CallFix p m c cL_law 9 s #[Value.ref b] zGw "ShardRebalancerLaw" ∧ va_X b L xs s s.heap ∧ b < s.heap.size ∧ zKK D vwCl K zNs s ∧ va_K D vwCl [(cO, .long)] s ∧ va_K D vwCl [(cD, .double)] s ∧ zxW zxB zxSt lo none s ∧ l.stackTraces = false ∧ lo = s.heap.size ∧ L ≤ 1536
def lwHp (s : State) (D : va_G) (K : Nat → ClassId) (cO cD : ClassId) (lo : Nat) (G : Nat → Nat → Int32) (fo : Nat → Int64) (fd : Nat → UInt64) (H : Heap) (locs : List Loc) : Prop :=
  zWd D vwCl lo K (zhp G) H ∧ zOu D cO lo fo H ∧ zOd D cD lo fd H ∧ va_S (zA lo none) s.heap H locs
abbrev lwV (b lo j : Nat) : List (Nat × Value) := [(5, .int (nI (3 * j))), (4, .ref (lo + 140)), (3, .ref (lo + 139)), (2, .ref (lo + 122)), (1, .ref lo), (0, .ref b)]
theorem zvp' {n k : Nat} (h : n < k) (hk : k < 4096) : vp_in (nI n) k := zvp h hk
theorem zA_none {n q : Nat} (h : zA lo (some n) q) : zA lo none q := ⟨h.1, fun k hk => nomatch hk⟩
theorem zA_lo {q : Nat} (h : lo ≤ q) : zA lo none q := ⟨h, fun k hk => nomatch hk⟩
section
variable {p : Program} {e : Env} {s : State} {m : MethodId} {below : List Frame} {meth : Method} {c : Code} {b L : Nat} {xs : Nat → Int32} {H : Heap} {locs : List Loc} {Q : State → Prop} {cells slots : Nat} {G : Nat → Nat → Int32} {fo : Nat → Int64} {fd : Nat → UInt64}
theorem lwPc (C : lwC p l s m c b L xs D K cO cD lo) (hH : lwHp s D K cO cD lo G fo fd H locs) {U : State} (hU : U.heap = H) (hW : s.WarmedH U.vm) : zxPc zNs D vwCl K zxB zxSt lo (some 139) (zhp G) U := by
  obtain ⟨-, -, -, hKK, -, -, ⟨w1, w2, w3, w4, w5⟩, -⟩ := C
  obtain ⟨h1, -, -, hS⟩ := hH
  refine ⟨⟨by rw [hU]; exact h1, zKK.moved hW hKK, fun h => by cases h⟩, zxV_warm hW w1, fun q hq => va_Nc.moved hW.alike (w2 q hq), fun q hq => ?_, ?_, ?_⟩
  · obtain ⟨sa, x⟩ := w3 q hq
    exact ⟨sa, vk_R.warm hW x⟩
  · rw [hU]
    exact vx_Zq.moved hW.alike ((w4.kept hS.2.1).narrow (fun q hq => zA_none hq))
  · rw [hU]
    exact vx_Zq.moved hW.alike ((w5.kept hS.2.1).narrow (fun q hq => zA_none hq))
/-- a helper's call -/
theorem lwHelp {y : MethodName} {bytes : ByteArray} {maxL : Nat} {hh : List (Nat × Nat × Nat × Nat)} {rm : Room} {As rest : List Value} {G' : Nat → Nat → Int32} {f' : Nat → Int64} {k : Int32} {ix pc n : Nat} {ls : Array Slot}
    (hM : vx_Met l y (Jvm.Cond.codeWith y bytes maxL (some .int) hh :: zGw) rm (va_Pc As (zhPc D K lo cO fo (zhp G))) (zhQc D K lo cO f' (zhp G') k) (fun _ _ _ => False) 1 6 (zA lo (some 140)))
    (C : lwC p l s m c b L xs D K cO cD lo) (hH : lwHp s D K cO cD lo G fo fd H locs) (hrm : rm.cells = 1 ∧ rm.slots = 6) (hws : ∀ w ∈ va_wsS "ShardRebalancerLaw" ix y (Jvm.Cond.codeWith y bytes maxL (some .int) hh :: zGw), w ∈ zGw)
    (hd : y.cls ≠ "java/lang/invoke/MethodHandle" ∧ y.cls ≠ "java/lang/invoke/VarHandle" ∧ (parseMethodDescriptor y.desc).map (fun d => d.parameters.length) = some n) (hR : rm.frames + 1 ≤ room_1.frames ∧ 8 + (maxL + 11) + rm.locals ≤ room_1.locals) (hn : As.length = n) (hsize : ls.size = 9) (hcs : cells + 1 ≤ room_1.cells ∧ slots + 6 ≤ room_1.slots) (hsum : (rest.map fun v => v.category).sum ≤ 8) (hdg : decode cL_law pc = .ok (.invokestatic ix, 3))
    (kk : ∀ (H1 : Heap) (locs1 : List Loc), lwHp s D K cO cD lo G' f' fd H1 locs1 → W p l e room_1 s m #[Value.ref b] below meth c H1 locs1 (cells + 1) (slots + 6) Q (F0 m (pc + 3) ls (.int k :: rest))) : W p l e room_1 s m #[Value.ref b] below meth c H locs cells slots Q (F0 m pc ls (As.reverse ++ rest)) := by
  have hC := C
  obtain ⟨fix, -, -, hKK, hKO, hKD, -⟩ := C
  have hts := fix.2.2.2.2
  have hr := vx_runSX (R := room_1) (l := l) (e := e) (below := below) (meth := meth) (H := H) (locs := locs) (cells := cells) (slots := slots) (As := As) (rest := rest) (g := F0 m pc ls (As.reverse ++ rest)) fix hM
    (vx_cwSW n hts (zGood zGw_good hws) rfl hrm.1 hrm.2 hd hR) ⟨zhBlind, fun U hU hW' => ⟨rfl, lwPc hC hH hU hW', by rw [hU]; exact hH.2.1, va_K.moved hW'.alike hKO⟩⟩ rfl hn hsize rfl (by show 2 * 0 + _ ≤ 8; omega) hdg hcs
  intro T hT X
  rcases hr T hT X with ⟨v', st₀, t, T', L9, h0, X', hL, e1, e2, hq, st⟩ | ⟨q, st₀, t, T', L9, E1, ce, h0, X', hL, e1, e2, hxc, hce, hcv, hcl, st⟩
  · obtain ⟨hv, hw, ⟨hz, hk⟩, hO⟩ := hq
    injection hv with hv
    subst hv
    rw [h0] at hz hk
    have hS := hH.2.2.2
    have hk2 : ∀ q : Nat, q < H.size → ¬ zA lo (some 140) q → T'.heap[q]? = H[q]? := fun q h1 h2 => by rw [e1]; exact hk q h1 h2
    obtain ⟨t2, a1, b1⟩ := kk T'.heap (locs ++ L9) ⟨by rw [e1]; exact hw, by rw [e1]; exact hO, zOd_fr (fun q h1 h2 => hk2 q h1 (fun h3 => by have h4 := h3.2 140 rfl; omega)) hH.2.2.1, Nat.le_trans hS.1 (by rw [e1]; exact hz), fun q h1 h2 => by rw [hk2 q (Nat.lt_of_lt_of_le h1 hS.1) (fun h3 => h2 (zA_none h3))]; exact hS.2.1 q h1 h2, fun q hq => by
      rcases List.mem_append.mp hq with h | h
      · exact hS.2.2 q h
      · exact zA_none (hL q h)⟩ T' rfl X'
    exact ⟨t2, st t2 a1, b1⟩
  · exact hxc.elim
/-- the helper's call for greatestFill -/
theorem lwHelpG {rm : Room} {rest : List Value} {G' : Nat → Nat → Int32} {f' : Nat → UInt64} {k : Int32} {pc : Nat} {ls : Array Slot}
    (hM : vx_Met l yL_greatestFill (Jvm.Cond.codeWith yL_greatestFill cL_greatestFill 3 (some .int) [(0, 7, 10, 66)] :: zGw) rm (va_Pc [Value.ref lo, Value.ref (lo + 140)] (zgPc D K lo cD fd (zhp G))) (zgQc D K lo cD f' (zhp G') k) (fun _ _ _ => False) 1 6 (zAdd lo))
    (C : lwC p l s m c b L xs D K cO cD lo) (hH : lwHp s D K cO cD lo G fo fd H locs) (hrm : rm.cells = 1 ∧ rm.slots = 6) (hws : ∀ w ∈ va_wsS "ShardRebalancerLaw" 163 yL_greatestFill (Jvm.Cond.codeWith yL_greatestFill cL_greatestFill 3 (some .int) [(0, 7, 10, 66)] :: zGw), w ∈ zGw)
    (hR : rm.frames + 1 ≤ room_1.frames ∧ 8 + (3 + 11) + rm.locals ≤ room_1.locals) (hsize : ls.size = 9) (hcs : cells + 1 ≤ room_1.cells ∧ slots + 6 ≤ room_1.slots) (hsum : (rest.map fun v => v.category).sum ≤ 8) (hdg : decode cL_law pc = .ok (.invokestatic 163, 3))
    (kk : ∀ (H1 : Heap) (locs1 : List Loc), lwHp s D K cO cD lo G' fo f' H1 locs1 → W p l e room_1 s m #[Value.ref b] below meth c H1 locs1 (cells + 1) (slots + 6) Q (F0 m (pc + 3) ls (.int k :: rest))) : W p l e room_1 s m #[Value.ref b] below meth c H locs cells slots Q (F0 m pc ls (.ref (lo + 140) :: .ref lo :: rest)) := by
  have hC := C
  obtain ⟨fix, -, -, hKK, hKO, hKD, -⟩ := C
  have hts := fix.2.2.2.2
  have hr := vx_runSX (R := room_1) (l := l) (e := e) (below := below) (meth := meth) (H := H) (locs := locs) (cells := cells) (slots := slots) (As := [Value.ref lo, Value.ref (lo + 140)]) (rest := rest) (g := F0 m pc ls (.ref (lo + 140) :: .ref lo :: rest)) fix hM
    (vx_cwSW 2 hts (zGood zGw_good hws) rfl hrm.1 hrm.2 ⟨by decide, by decide, by decide +kernel⟩ hR) ⟨zgBlind, fun U hU hW' => ⟨rfl, lwPc hC hH hU hW', by rw [hU]; exact hH.2.2.1, va_K.moved hW'.alike hKD⟩⟩ rfl rfl hsize rfl (by show 2 * 0 + _ ≤ 8; omega) hdg hcs
  intro T hT X
  rcases hr T hT X with ⟨v', st₀, t, T', L9, h0, X', hL, e1, e2, hq, st⟩ | ⟨q, st₀, t, T', L9, E1, ce, h0, X', hL, e1, e2, hxc, hce, hcv, hcl, st⟩
  · obtain ⟨hv, hw, ⟨hz, hk⟩, hO⟩ := hq
    injection hv with hv
    subst hv
    rw [h0] at hz hk
    have hS := hH.2.2.2
    have hk2 : ∀ q : Nat, q < H.size → ¬ zAdd lo q → T'.heap[q]? = H[q]? := fun q h1 h2 => by rw [e1]; exact hk q h1 h2
    have hA : ∀ q, zAdd lo q → zA lo none q := fun q hq => by
      rcases hq with h | h
      · exact zA_none h
      · exact zA_lo (by omega)
    obtain ⟨t2, a1, b1⟩ := kk T'.heap (locs ++ L9) ⟨by rw [e1]; exact hw, zOu_fr (fun q h1 h2 => hk2 q h1 (fun h3 => by
        rcases h3 with h3 | h3
        · have h4 := h3.2 139 rfl; omega
        · omega)) hH.2.1, by rw [e1]; exact hO, Nat.le_trans hS.1 (by rw [e1]; exact hz), fun q h1 h2 => by rw [hk2 q (Nat.lt_of_lt_of_le h1 hS.1) (fun h3 => h2 (hA q h3))]; exact hS.2.1 q h1 h2, fun q hq => by
      rcases List.mem_append.mp hq with h | h
      · exact hS.2.2 q h
      · exact hA _ (hL q h)⟩ T' rfl X'
    exact ⟨t2, st t2 a1, b1⟩
  · exact hxc.elim
/-- a call of a method of the walk in the law: the reference's (a = 122) or the class's (a = 0) -/
theorem lwMod {j9 a ci : Nat} {as rest : List Value} {fs : List (Option (Option Nat))} {G' : Nat → Nat → Int32} {v : Option Value} {ix pc n : Nat} {ls : Array Slot} (h : zcal zTT j9 (.ref a :: as) (zhp G) = some (v, zhp G')) (hlen : as.length < zmL (zMt j9))
    (C : lwC p l s m c b L xs D K cO cD lo) (hH : lwHp s D K cO cD lo G fo fd H locs) (ha : a < 139) (hsa : zSP a = .inr (.inr (ci, fs))) {Ty : u_T} {Nm : Nat} (hci : vwCl[ci]? = some (zOw (zMt j9), Ty, Nm)) (hn : as.length = n) (hsize : ls.size = 9)
    (hws : ∀ w ∈ wsV "ShardRebalancerLaw" ix (zOw (zMt j9)) (zy (zMt j9)) (zwl zGw (zMt j9)), w ∈ zGw) (hd : (zy (zMt j9)).cls = zOw (zMt j9) ∧ zOw (zMt j9) ≠ "java/lang/invoke/MethodHandle" ∧ zOw (zMt j9) ≠ "java/lang/invoke/VarHandle" ∧ (parseMethodDescriptor (zy (zMt j9)).desc).map (fun d => d.parameters.length) = some n) (hfr : zfr (zMt j9) + 1 ≤ room_1.frames) (hlo : 8 + (zmL (zMt j9) + 11) + zlo (zMt j9) ≤ room_1.locals) (hcs : cells ≤ room_1.cells ∧ slots ≤ room_1.slots)
    (hsum : (rest.map fun v => v.category).sum ≤ 8) (hdg : decode cL_law pc = .ok (.invokevirtual ix, 3))
    (kk : ∀ (H1 : Heap) (locs1 : List Loc), lwHp s D K cO cD lo G' fo fd H1 locs1 → W p l e room_1 s m #[Value.ref b] below meth c H1 locs1 cells slots Q (F0 m (pc + 3) ls ((v.map (zc lo)).toList ++ rest))) :
    W p l e room_1 s m #[Value.ref b] below meth c H locs cells slots Q (F0 m pc ls ((as.map (zc lo)).reverse ++ .ref (lo + a) :: rest)) := by
  obtain ⟨fix, -, -, hKK, -⟩ := C
  refine zhV (own := "ShardRebalancerLaw") (nb := some 139) h hlen (fun n hn => by cases hn; decide) fix hH.1 hKK hH.2.2.2 (fun q hq => zA_none hq) ha hsa hci hn hsize hws hd hfr hlo hcs hsum hdg (fun H1 L1 hW hz hk hS => kk H1 L1 ⟨hW, zOu_fr (fun q h1 h2 => hk q h1 (fun h3 => by have h4 := h3.2 139 rfl; omega)) hH.2.1, zOd_fr (fun q h1 h2 => hk q h1 (fun h3 => by have h4 := h3.2 139 rfl; omega)) hH.2.2.1, hS⟩)
/-- the script's int at i + k -/
theorem lwArg {j q k : Nat} {z : Int} {ls : Array Slot} {rest : List Value} (C : lwC p l s m c b L xs D K cO cD lo) (hH : lwHp s D K cO cD lo G fo fd H locs) (hj : 3 * j + k < L) (hz : Int32.ofInt z = nI k) (h0 : ls[0]? = some (.val (.ref b))) (h5 : ls[5]? = some (.val (.int (nI (3 * j)))))
    (d0 : decode cL_law q = .ok (.aload_n 0, 1)) (d1 : decode cL_law (q + 1) = .ok (.iload 5, 2)) (d2 : decode cL_law (q + 1 + 2) = .ok (.iconst z, 1)) (d3 : decode cL_law (q + 1 + 2 + 1) = .ok (.iadd, 1)) (d4 : decode cL_law (q + 1 + 2 + 1 + 1) = .ok (.iaload, 1))
    (kk : W p l e room_1 s m #[Value.ref b] below meth c H locs cells slots Q (F0 m (q + 1 + 2 + 1 + 1 + 1) ls (.int (xs (3 * j + k)) :: rest))) : W p l e room_1 s m #[Value.ref b] below meth c H locs cells slots Q (F0 m q ls rest) := by
  obtain ⟨⟨hx, hb, hml, hown, hts⟩, hX, hbl, -, -, -, -, -, hlo, hL⟩ := C
  have hbA : ¬ zA lo none b := fun h => by have := h.1; omega
  refine lv_aload_n hx hb d0 rfl h0 ?_
  refine lv_iload hx hb d1 h5 ?_
  refine lv_iconst (v := nI k) hx hb d2 hz ?_
  refine lv_iadd hx hb d3 ?_
  rw [nI_add]
  refine va_sld hx hb hX hbl hbA hH.2.2.2 (i := nI (3 * j + k)) (zvp' hj (by omega)) d4 ?_
  rw [show (nI (3 * j + k)).toNatClampNeg = 3 * j + k from zcl_n (by omega)]
  exact kk
end
end ZLAWB
