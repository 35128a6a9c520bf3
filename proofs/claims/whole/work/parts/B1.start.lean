/-! THE CLAIM OUT OF ONE WALK OF THE LAW'S BODY. Your part is whole_start (and what it stands on); all else here is the same for every law, but numbers. -/
def R_law : String := "ShardRebalancerLaw"
def lw_P (b : Addr) (xs : List Int32) (args : Array Value) (s : State) : Prop := args = #[.ref b] ∧ s.IntsAt b xs ∧ xs.length ≤ 1536 ∧ (Jvm.Cond.and given_1 narrow_1).before args s = true
/-- what a walk over the start with the record d0 says of its end, said of the start itself -/
theorem lw_closed {s t : State} {o : Outcome} {d0 : Drawn} {L : List Loc} {k n : Nat} (hd0 : s.drawn.sameBut d0 lw_cs) (hv : ∃ v, o = .returned v) (hW : (s.setDrawn d0).WarmedH t.vm) (hs : (s.setDrawn d0).sameButNew ({ t with vm := s.vm } : State) L k n) : State.butDraws s t lw_cs (fun t1 => Framed s o t1 L k n) := by
  have h2 : t.drawn = d0 := congrArg State.drawn hs.1
  refine ⟨⟨hv, hW, State.sameButNew.setDrawn hs s.drawn⟩, ?_, by decide⟩
  rw [h2]
  exact hd0
def lw_Q (_ : Array Value) (s : State) (o : Outcome) (t : State) : Prop := o = .returned (some (.int 1)) ∧ State.butDraws s t lw_cs (fun t1 => Framed s o t1 [] 603072 7186538)
def lw_Z (below : List Frame) (a : Array Value) (s : State) : State → Prop := fun t => ∃ o, t.status = .running ∧ Ended t below o ∧ lw_Q a s o t
/-- the law's own end, with 1 on the stack, nothing written that was there before, its room as the claim has it; d0: the record of draws at this point (at the entry s.drawn: begin with 'refine W.base ?_' and 'have hd0 := Drawn.sameBut.refl s.drawn lw_cs') -/
theorem lw_ret {p : Program} {l : Launch} {e : Env} {s : State} {m : MethodId} {below : List Frame} {meth : Method} {c : Code} {b : Nat} {d0 : Drawn} (hd0 : s.drawn.sameBut d0 lw_cs) (hx : p.tables.exec = Jvm.exec) (hb : c.code = code) (hr : meth.sig.returnType = ret) (hlocks : meth.locks = false) {pc : Nat} {H : Heap} {ls : Array Slot} (hdg : decode code pc = .ok (.ireturn, 1)) : W p l e room_1 (s.setDrawn d0) m #[Value.ref b] below meth c H [] 603072 7186538 (lw_Z below #[Value.ref b] s) (F0 m pc ls [.int 1]) := by
  intro T hT X
  obtain ⟨fs, hret, hrun, hended, hW, hframe⟩ := X.leave (v := some (.int 1)) (hlocks := hlocks) (fun h => by rw [hr] at h; cases h)
  have hmeth' : T.vm.method? m = some meth := X.method'
  refine ⟨T.setFrames fs, ?_, .returned (some (.int 1)), hrun, hended, rfl, lw_closed hd0 ⟨_, rfl⟩ hW hframe⟩
  jvm_step X.here [X.here.top, hx, hb, hdg, hmeth', hr, ret, narrow_b1]
  (try refine ⟨rfl, ?_⟩); (try refine ⟨rfl, ?_⟩)
  first | (intro acts; rw [hret _ acts rfl rfl rfl]) | rw [hret _ _ rfl rfl rfl]
  exact Steps.refl _
/-- what holds at the law's entry: the machine, the code, the tables' words (any of lw_tbl by 'hts w (by decide +kernel)'), the script of L ints xs at the cell b, what the Statement gives of the start (any of its parts by flat_of_before) -/
def lw_At (p : Program) (s : State) (m : MethodId) (meth : Method) (c : Code) (b L : Nat) (xs : Nat → Int32) : Prop :=
  p.tables.exec = Jvm.exec ∧ c.code = code ∧ meth.sig.returnType = ret ∧ c.maxLocals = 9 ∧ s.vm.findClass R_law = some m.cls ∧ (∀ w ∈ lw_tbl, w.before #[Value.ref b] s = true) ∧ va_X b L xs s s.heap ∧ b < s.heap.size ∧ meth.locks = false ∧ (Jvm.Cond.and given_1 narrow_1).before #[Value.ref b] s = true
section ZLAWS
variable {p : Program} {l : Launch} {e : Env} {s : State} {m : MethodId} {below : List Frame} {meth : Method} {c : Code} {b L : Nat} {xs : Nat → Int32} {D : va_G} {K : Nat → ClassId} {cO cD : ClassId} {lo : Nat} {H : Heap} {locs : List Loc} {Q : State → Prop} {cells slots : Nat} {G : Nat → Nat → Int32} {fo : Nat → Int64} {fd : Nat → UInt64}
theorem lwModG {G' : Nat → Nat → Int32} {v : UInt64} {rest : List Value} {pc : Nat} {ls : Array Slot} (hM : Met l yX7_greatestFill (zwl zGw mM_gf) (zrm mM_gf 0 0) (va_Pc [.ref (lo + 122)] (zPc false zNs D vwCl K lo (zhp G))) (fun _ st o t => o = .returned (some (.double v)) ∧ zWd D vwCl lo K (zhp G') t.heap ∧ va_F (zA lo (some 139)) st t) 0 0 (zA lo (some 139)))
    (C : lwC p l s m c b L xs D K cO cD lo) (hH : lwHp s D K cO cD lo G fo fd H locs) (hsize : ls.size = 9) (hcs : cells ≤ room_1.cells ∧ slots ≤ room_1.slots) (hsum : (rest.map fun v => v.category).sum ≤ 8) (hdg : decode cL_law pc = .ok (.invokevirtual 166, 3))
    (kk : ∀ (H1 : Heap) (locs1 : List Loc), lwHp s D K cO cD lo G' fo fd H1 locs1 → W p l e room_1 s m #[Value.ref b] below meth c H1 locs1 cells slots Q (F0 m (pc + 3) ls (.double v :: rest))) : W p l e room_1 s m #[Value.ref b] below meth c H locs cells slots Q (F0 m pc ls (.ref (lo + 122) :: rest)) := by
  obtain ⟨fix, -, -, hKK, -⟩ := C
  have hts := fix.2.2.2.2
  have hW := hH.1
  have hS := hH.2.2.2
  have hws : ∀ w ∈ wsV "ShardRebalancerLaw" 166 "ShardRebalancerModel" yX7_greatestFill (zwl zGw mM_gf), w ∈ zGw := List.forall_mem_cons.mpr ⟨gw_of 1295 (by decide +kernel), List.forall_mem_cons.mpr ⟨gw_of 1296 (by decide +kernel), List.forall_mem_cons.mpr ⟨gw_of 1297 (by decide +kernel), List.forall_mem_cons.mpr ⟨gw_of 9 (by decide +kernel), zwl_in (gw_of 1298 (by decide +kernel))⟩⟩⟩⟩
  have hat := zws_get (lo := lo) (K := K) (E := zhp G) (p := 122) (Nat.le_of_ble_eq_true rfl)
  have hr := va_runV (R := room_1) (l := l) (e := e) (below := below) (meth := meth) (H := H) (locs := locs) (cells := cells) (slots := slots) (C := "ShardRebalancerModel") (b := lo + 122) (As := []) (rest := rest) (g := F0 m pc ls (.ref (lo + 122) :: rest)) fix hM
    (cwV 0 hts (zGood zGw_good hws) rfl rfl rfl ⟨rfl, by decide, by decide, by decide +kernel⟩ ⟨Nat.le_of_ble_eq_true rfl, Nat.le_of_ble_eq_true rfl⟩)
    ⟨zBlind, va_recv hKK.1 hW.1 (ci := 8) rfl hat, fun U hU hW' => ⟨rfl, by rw [hU]; exact hW, zKK.moved hW' hKK, fun h => absurd h (by decide)⟩⟩ rfl rfl hsize rfl (lv_room hsum) hdg hcs
  intro T hT X
  obtain ⟨v', st₀, t, T', L9, h0, X', hL, e1, e2, ⟨hv, hw, hz, hk⟩, st⟩ := hr T hT X
  injection hv with hv
  subst hv
  rw [h0] at hz hk
  have hk2 : ∀ q : Nat, q < H.size → ¬ zA lo (some 139) q → T'.heap[q]? = H[q]? := fun q h1 h2 => by rw [e1]; exact hk q h1 h2
  obtain ⟨t2, a1, b1⟩ := kk T'.heap (locs ++ L9) ⟨by rw [e1]; exact hw, zOu_fr (fun q h1 h2 => hk2 q h1 (fun h3 => by have h4 := h3.2 139 rfl; omega)) hH.2.1, zOd_fr (fun q h1 h2 => hk2 q h1 (fun h3 => by have h4 := h3.2 139 rfl; omega)) hH.2.2.1, Nat.le_trans hS.1 (by rw [e1]; exact hz), fun q h1 h2 => by rw [hk2 q (Nat.lt_of_lt_of_le h1 hS.1) (fun h3 => h2 (zA_none h3))]; exact hS.2.1 q h1 h2, fun q hq => by
    rcases List.mem_append.mp hq with h | h
    · exact hS.2.2 q h
    · exact zA_none (hL q h)⟩ T' rfl X'
  exact ⟨t2, st t2 a1, b1⟩
theorem vf_upd_0 (f : Nat → UInt64) (x : UInt64) : vf_upd f (0 : Int32).toNatClampNeg x (0 : Int32).toNatClampNeg = x := by unfold vf_upd; rw [if_pos rfl]
theorem lc_greatestFill {j : Nat} {ls : Array Slot} (C : lwC p l s m c b L xs D K cO cD lo) (I : lwI G) (hH : lwHp s D K cO cD lo G fo fd H locs) (hl : lv_has ls 9 (lwV b lo j)) (hj : 3 * j + 3 ≤ L) (hcs : cells + 1 ≤ room_1.cells ∧ slots + 6 ≤ room_1.slots) (kk : lwK p l e s m b below meth c D K cO cD lo Q cells slots j) : W p l e room_1 s m #[Value.ref b] below meth c H locs cells slots Q (F0 m 1050 ls []) := by
  have hx := C.1.1
  have hb := C.1.2.1
  obtain ⟨A, T, hC, hs, ⟨Cs, hd⟩, hZ, hA⟩ := I
  obtain ⟨G1, p1, f1, hM⟩ := zh_greatestFill (l := l) (D := D) (K := K) (lo := lo) (cD := cD) C.2.2.2.2.2.2.2.1 (f := fd) hC hA.1
  have hZ1 : zMZ G1 A T := hZ.up (fun a ha => f1 a (by omega) (Or.inr ha))
  obtain ⟨G2, v, z2, hor, f2, hMm⟩ := zm_greatestFill (l := l) (D := D) (K := K) (lo := lo) hZ1 hA.1
  have I2 : lwI G2 := lwI_of p1 f1 hs ⟨Cs, hd⟩ z2 f2 hA
  refine lv_aload_n hx hb dL_law_1050 rfl (lv_at hl 4 rfl) ?_
  refine lv_aload hx hb dL_law_1051 (lv_at hl 1 rfl) ?_
  refine lwHelpG (rest := []) hM C hH ⟨rfl, rfl⟩ (List.forall_mem_cons.mpr ⟨gw_of 725 (by decide +kernel), List.forall_mem_cons.mpr ⟨gw_of 726 (by decide +kernel), List.forall_mem_cons.mpr ⟨gw_of 0 (by decide +kernel), List.forall_mem_cons.mpr ⟨gw_of 727 (by decide +kernel), fun _ h => h⟩⟩⟩⟩) ⟨Nat.le_of_ble_eq_true rfl, Nat.le_of_ble_eq_true rfl⟩ hl.1 hcs (Nat.zero_le _) dL_law_1053 (fun H1 L1 hH => ?_)
  refine lv_istore (lv' := (6, .int _) :: lwV b lo j) hx hb dL_law_1056 hl (by decide) rfl (fun ls hl => ?_)
  refine lv_aload_n hx hb dL_law_1058 rfl (lv_at hl 4 rfl) ?_
  refine lwModG (rest := []) hMm C hH hl.1 hcs (Nat.zero_le _) dL_law_1059 (fun H1 L1 hH => ?_)
  refine lv_dstore (lv' := (7, .double v) :: (6, .int _) :: lwV b lo j) hx hb dL_law_1062 hl (by decide) rfl (fun ls hl => ?_)
  refine lv_aload_n hx hb dL_law_1064 rfl (lv_at hl 5 rfl) ?_
  refine lwThr C hH hl.1 hcs (Nat.zero_le _) dL_law_1065 (fun H1 L1 hH => ?_)
  refine lv_iload hx hb dL_law_1068 (lv_at hl 1 rfl) ?_
  have fin : ∀ (H2 : Heap) (L2 : List Loc), lwHp s D K cO cD lo G2 fo (if (cR A).length = 0 then fd else vf_upd fd (0 : Int32).toNatClampNeg (zGF (cS A) 8)) H2 L2 → W p l e room_1 s m #[Value.ref b] below meth c H2 L2 (cells + 1) (slots + 6) Q (F0 m 1112 ls []) := fun H2 L2 h2 => lv_goto (tgt := 1692) hx hb dL_law_1112 (by decide) (kk G2 _ _ _ _ _ I2 h2 (lv_sub hl [2, 3, 4, 5, 6, 7] rfl))
  have he : G2 122 6 = if (cR A).length = 0 then 1 else 0 := by
    rcases hor with ⟨h0, h1, -⟩ | ⟨h0, h1⟩
    · rw [if_neg h0, h1]
    · rw [if_pos h0, h1]
  refine lv_icmp_eq (tgt := 1075) hx hb dL_law_1070 (by decide) (fun _ => ?_) (fun hc => absurd he hc)
  refine lv_iload hx hb dL_law_1075 (lv_at hl 1 rfl) ?_
  refine lv_if_ne (tgt := 1112) hx hb dL_law_1077 (by decide) (fun _ => fin _ _ hH) (fun hc => ?_)
  rcases hor with ⟨h0, h1, hv⟩ | ⟨h0, h1⟩
  · subst hv
    refine lv_aload hx hb dL_law_1080 (lv_at hl 3 rfl) ?_
    refine lv_iconst (v := 0) hx hb dL_law_1082 rfl ?_
    refine va_dald hx hb C.2.2.2.2.2.1 hH.2.2.1 0 0 rfl rfl (by unfold vp_in; decide) dL_law_1083 ?_
    rw [if_neg h0, vf_upd_0]
    refine lv_dload hx hb dL_law_1084 (lv_at hl 0 rfl) ?_
    refine lv_dcmp hx hb dL_law_1086 ?_
    rw [(zGF_v hA.1 8 (Nat.le_refl _)).e]
    exact lv_if_eq (tgt := 1112) hx hb dL_law_1087 (by decide) (fun _ => fin _ _ hH) (fun hc => absurd rfl hc)
  · rw [if_pos h0] at hc
    exact absurd hc (by decide)
theorem zand_31 (y : Int32) : ∃ j, j < 32 ∧ y &&& nI 31 = nI j := by
  have e1 : (nI 31).toBitVec = 31#32 := by decide
  refine ⟨(y.toBitVec &&& 31#32).toNat, ?_, ?_⟩
  · rw [BitVec.toNat_and]
    exact Nat.lt_of_le_of_lt Nat.and_le_right (by decide)
  · apply Int32.toBitVec_inj.mp
    rw [Int32.toBitVec_and, e1]
    unfold nI
    rw [Int32.toBitVec_ofNat']
    apply BitVec.eq_of_toNat_eq
    rw [BitVec.toNat_ofNat, Nat.mod_eq_of_lt (BitVec.isLt _)]
set_option maxRecDepth 100000 in
theorem law_sw {j : Nat} {ls : Array Slot} {y : Int32} (C : lwC p l s m c b L xs D K cO cD lo) (I : lwI G) (hH : lwHp s D K cO cD lo G fo fd H locs) (hl : lv_has ls 9 (lwV b lo j)) (h3 : 3 * j + 3 ≤ L) (hcs : cells + 1 ≤ room_1.cells ∧ slots + 6 ≤ room_1.slots) (kk : lwK p l e s m b below meth c D K cO cD lo Q cells slots j) (hy : ∃ k, k < 32 ∧ y = nI k) : W p l e room_1 s m #[Value.ref b] below meth c H locs cells slots Q (F0 m 44 ls [.int y]) := by
  have hx := C.1.1
  have hb := C.1.2.1
  obtain ⟨k, hk, rfl⟩ := hy
  have hk2 : k = 0 ∨ k = 1 ∨ k = 2 ∨ k = 3 ∨ k = 4 ∨ k = 5 ∨ k = 6 ∨ k = 7 ∨ k = 8 ∨ k = 9 ∨ k = 10 ∨ k = 11 ∨ k = 12 ∨ k = 13 ∨ k = 14 ∨ k = 15 ∨ k = 16 ∨ k = 17 ∨ k = 18 ∨ k = 19 ∨ k = 20 ∨ k = 21 ∨ k = 22 ∨ k = 23 ∨ k = 24 ∨ k = 25 ∨ k = 26 ∨ k = 27 ∨ k = 28 ∨ k = 29 ∨ k = 30 ∨ k = 31 := by omega
  rcases hk2 with rfl | rfl | rfl | rfl | rfl | rfl | rfl | rfl | rfl | rfl | rfl | rfl | rfl | rfl | rfl | rfl | rfl | rfl | rfl | rfl | rfl | rfl | rfl | rfl | rfl | rfl | rfl | rfl | rfl | rfl | rfl | rfl
  · exact lv_tableIn (tgt := 180) hx hb dL_law_44 (by decide) (by decide) (show _ = some (136 : Int) from by decide) (by decide) (lc_addNode C I hH hl h3 hcs kk)
  · exact lv_tableIn (tgt := 236) hx hb dL_law_44 (by decide) (by decide) (show _ = some (192 : Int) from by decide) (by decide) (lc_drain C I hH hl h3 hcs kk)
  · exact lv_tableIn (tgt := 292) hx hb dL_law_44 (by decide) (by decide) (show _ = some (248 : Int) from by decide) (by decide) (lc_fail C I hH hl h3 hcs kk)
  · exact lv_tableIn (tgt := 348) hx hb dL_law_44 (by decide) (by decide) (show _ = some (304 : Int) from by decide) (by decide) (lc_recover C I hH hl h3 hcs kk)
  · exact lv_tableIn (tgt := 404) hx hb dL_law_44 (by decide) (by decide) (show _ = some (360 : Int) from by decide) (by decide) (lc_setWeight C I hH hl h3 hcs kk)
  · exact lv_tableIn (tgt := 472) hx hb dL_law_44 (by decide) (by decide) (show _ = some (428 : Int) from by decide) (by decide) (lc_node C I hH hl h3 hcs kk)
  · exact lv_tableIn (tgt := 540) hx hb dL_law_44 (by decide) (by decide) (show _ = some (496 : Int) from by decide) (by decide) (lc_nodes C I hH hl h3 hcs kk)
  · exact lv_tableIn (tgt := 596) hx hb dL_law_44 (by decide) (by decide) (show _ = some (552 : Int) from by decide) (by decide) (lc_set C I hH hl h3 hcs kk)
  · exact lv_tableIn (tgt := 664) hx hb dL_law_44 (by decide) (by decide) (show _ = some (620 : Int) from by decide) (by decide) (lc_points C I hH hl h3 hcs kk)
  · exact lv_tableIn (tgt := 677) hx hb dL_law_44 (by decide) (by decide) (show _ = some (633 : Int) from by decide) (by decide) (lc_point C I hH hl h3 hcs kk)
  · exact lv_tableIn (tgt := 745) hx hb dL_law_44 (by decide) (by decide) (show _ = some (701 : Int) from by decide) (by decide) (lc_successor C I hH hl h3 hcs kk)
  · exact lv_tableIn (tgt := 801) hx hb dL_law_44 (by decide) (by decide) (show _ = some (757 : Int) from by decide) (by decide) (lc_shard C I hH hl h3 hcs kk)
  · exact lv_tableIn (tgt := 869) hx hb dL_law_44 (by decide) (by decide) (show _ = some (825 : Int) from by decide) (by decide) (lc_route C I hH hl h3 hcs kk)
  · exact lv_tableIn (tgt := 925) hx hb dL_law_44 (by decide) (by decide) (show _ = some (881 : Int) from by decide) (by decide) (lc_pending C I hH hl h3 hcs kk)
  · exact lv_tableIn (tgt := 938) hx hb dL_law_44 (by decide) (by decide) (show _ = some (894 : Int) from by decide) (by decide) (lc_changedIf C I hH hl h3 hcs kk)
  · exact lv_tableIn (tgt := 1006) hx hb dL_law_44 (by decide) (by decide) (show _ = some (962 : Int) from by decide) (by decide) (lc_leastSlack C I hH hl h3 hcs kk)
  · exact lv_tableIn (tgt := 1050) hx hb dL_law_44 (by decide) (by decide) (show _ = some (1006 : Int) from by decide) (by decide) (lc_greatestFill C I hH hl h3 hcs kk)
  · exact lv_tableIn (tgt := 1115) hx hb dL_law_44 (by decide) (by decide) (show _ = some (1071 : Int) from by decide) (by decide) (lc_tick C I hH hl h3 hcs kk)
  · exact lv_tableIn (tgt := 1171) hx hb dL_law_44 (by decide) (by decide) (show _ = some (1127 : Int) from by decide) (by decide) (lc_moves C I hH hl h3 hcs kk)
  · exact lv_tableIn (tgt := 1184) hx hb dL_law_44 (by decide) (by decide) (show _ = some (1140 : Int) from by decide) (by decide) (lc_move C I hH hl h3 hcs kk)
  · exact lv_tableIn (tgt := 1252) hx hb dL_law_44 (by decide) (by decide) (show _ = some (1208 : Int) from by decide) (by decide) (lc_forecast C I hH hl h3 hcs kk)
  · exact lv_tableIn (tgt := 1296) hx hb dL_law_44 (by decide) (by decide) (show _ = some (1252 : Int) from by decide) (by decide) (lc_statistic C I hH hl h3 hcs kk)
  · exact lv_tableIn (tgt := 1352) hx hb dL_law_44 (by decide) (by decide) (show _ = some (1308 : Int) from by decide) (by decide) (lc_events C I hH hl h3 hcs kk)
  · exact lv_tableIn (tgt := 1365) hx hb dL_law_44 (by decide) (by decide) (show _ = some (1321 : Int) from by decide) (by decide) (lc_event C I hH hl h3 hcs kk)
  · exact lv_tableIn (tgt := 1433) hx hb dL_law_44 (by decide) (by decide) (show _ = some (1389 : Int) from by decide) (by decide) (lc_forget C I hH hl h3 hcs kk)
  · exact lv_tableIn (tgt := 1489) hx hb dL_law_44 (by decide) (by decide) (show _ = some (1445 : Int) from by decide) (by decide) (lc_feed C I hH hl h3 hcs kk)
  · exact lv_tableIn (tgt := 1547) hx hb dL_law_44 (by decide) (by decide) (show _ = some (1503 : Int) from by decide) (by decide) (lc_perform C I hH hl h3 hcs kk)
  · exact lv_tableIn (tgt := 1591) hx hb dL_law_44 (by decide) (by decide) (show _ = some (1547 : Int) from by decide) (by decide) (lc_undo C I hH hl h3 hcs kk)
  · exact lv_tableIn (tgt := 1635) hx hb dL_law_44 (by decide) (by decide) (show _ = some (1591 : Int) from by decide) (by decide) (lc_save C I hH hl h3 hcs kk)
  · exact lv_tableIn (tgt := 1648) hx hb dL_law_44 (by decide) (by decide) (show _ = some (1604 : Int) from by decide) (by decide) (lc_restore C I hH hl h3 hcs kk)
  · exact lv_tableOut (tgt := 1692) hx hb dL_law_44 (Or.inr (by decide)) (by decide) (W.widen (k := cells + 1) (n := slots + 6) (by omega) (by omega) (kk _ _ _ _ _ _ I hH hl))
  · exact lv_tableOut (tgt := 1692) hx hb dL_law_44 (Or.inr (by decide)) (by decide) (W.widen (k := cells + 1) (n := slots + 6) (by omega) (by omega) (kk _ _ _ _ _ _ I hH hl))
theorem law_loop (C : lwC p l s m c b L xs D K cO cD lo) (hr : meth.sig.returnType = ret) (hlocks : meth.locks = false) : ∀ (n j : Nat), L ≤ 3 * j + n → 3 * j ≤ L → ∀ (G : Nat → Nat → Int32) (fo : Nat → Int64) (fd : Nat → UInt64) (H : Heap) (locs : List Loc) (ls : Array Slot), lwI G → lwHp s D K cO cD lo G fo fd H locs → lv_has ls 9 (lwV b lo j) → W p l e room_1 s m #[Value.ref b] below meth c H locs (141 + j) (7105 + 6 * j) (lw_Z below #[Value.ref b] s) (F0 m 28 ls []) := by
  have hx := C.1.1
  have hb := C.1.2.1
  have hX := C.2.1
  have hbl := C.2.2.1
  have hlo := C.2.2.2.2.2.2.2.2.1
  have hL := C.2.2.2.2.2.2.2.2.2
  have hbA : ¬ zA lo none b := fun h => by have := h.1; omega
  have hdone : ∀ (j : Nat), 3 * j ≤ L → ∀ (H : Heap) (locs : List Loc) (ls : Array Slot), va_S (zA lo none) s.heap H locs → W p l e room_1 s m #[Value.ref b] below meth c H locs (141 + j) (7105 + 6 * j) (lw_Z below #[Value.ref b] s) (F0 m 1698 ls []) := by
    intro j hj H locs ls hS
    refine lv_iconst (v := 1) hx hb dL_law_1698 rfl ?_
    refine W.widen (k := 603072) (n := 7186538) (by omega) (by omega) ?_
    refine va_forget (fun q hq => by have h9 := (hS.2.2 q hq).1; omega) ?_
    exact W.base (lw_ret (Drawn.sameBut.refl s.drawn lw_cs) hx hb hr hlocks dL_law_1699)
  intro n
  induction n with
  | zero =>
    intro j hn hj G fo fd H locs ls I hH hl
    refine lv_iload hx hb dL_law_28 (lv_at hl 0 rfl) ?_
    refine lv_aload_n hx hb dL_law_30 rfl (lv_at hl 5 rfl) ?_
    refine va_slen hx hb hX hbl hbA hH.2.2.2 dL_law_31 ?_
    refine lv_iconst (v := nI 3) hx hb dL_law_32 (by decide) ?_
    refine lv_isub hx hb dL_law_33 ?_
    refine lv_icmp_gt (tgt := 1698) hx hb dL_law_34 (by decide) (fun _ => hdone j hj _ _ _ hH.2.2.2) (fun hc => absurd ?_ hc)
    show nI L - nI 3 < nI (3 * j)
    have hLj : L = 3 * j := by omega
    by_cases h3 : 3 ≤ L
    · rw [zsub (a := L) (b := 3) h3]
      exact nI_lt (by omega) (by omega)
    · have : j = 0 := by omega
      subst this
      subst hLj
      decide
  | succ n ih =>
    intro j hn hj G fo fd H locs ls I hH hl
    refine lv_iload hx hb dL_law_28 (lv_at hl 0 rfl) ?_
    refine lv_aload_n hx hb dL_law_30 rfl (lv_at hl 5 rfl) ?_
    refine va_slen hx hb hX hbl hbA hH.2.2.2 dL_law_31 ?_
    refine lv_iconst (v := nI 3) hx hb dL_law_32 (by decide) ?_
    refine lv_isub hx hb dL_law_33 ?_
    by_cases h3 : 3 * j + 3 ≤ L
    · refine lv_icmp_gt (tgt := 1698) hx hb dL_law_34 (by decide) (fun hc => absurd hc ?_) (fun _ => ?_)
      · show ¬ nI L - nI 3 < nI (3 * j)
        rw [zsub (a := L) (b := 3) (by omega)]
        exact nI_nlt (by omega) (by omega)
      · refine lv_aload_n hx hb dL_law_37 rfl (lv_at hl 5 rfl) ?_
        refine lv_iload hx hb dL_law_38 (lv_at hl 0 rfl) ?_
        refine va_sld hx hb hX hbl hbA hH.2.2.2 (i := nI (3 * j)) (zvp' (by omega) (by omega)) dL_law_40 ?_
        refine lv_bipush (v := nI 31) hx hb dL_law_41 (by decide) ?_
        refine lv_iand hx hb dL_law_43 ?_
        refine law_sw C I hH hl h3 ⟨?_, ?_⟩ ?_ (zand_31 _)
        · show 141 + j + 1 ≤ 603072
          omega
        · show 7105 + 6 * j + 6 ≤ 7186538
          omega
        · intro G' fo' fd' H' locs' ls' I' hH' hl'
          refine lv_iinc (v := nI (3 * (j + 1))) (lv' := lwV b lo (j + 1)) hx hb dL_law_1692 hl' (k := 0) rfl (nI_add (3 * j) 3) (by decide) rfl (fun ls hl => ?_)
          refine lv_goto (tgt := 28) hx hb dL_law_1695 (by decide) ?_
          have k9 := ih (j + 1) (by omega) (by omega) G' fo' fd' H' locs' ls I' hH' hl
          rw [show 7105 + 6 * (j + 1) = 7105 + 6 * j + 6 by omega, show 141 + (j + 1) = 141 + j + 1 by omega] at k9
          exact k9
    · refine lv_icmp_gt (tgt := 1698) hx hb dL_law_34 (by decide) (fun _ => hdone j hj _ _ _ hH.2.2.2) (fun hc => absurd ?_ hc)
      show nI L - nI 3 < nI (3 * j)
      by_cases h4 : 3 ≤ L
      · rw [zsub (a := L) (b := 3) h4]
        exact nI_lt (by omega) (by omega)
      · have : j = 0 := by omega
        subst this
        rcases (show L = 0 ∨ L = 1 ∨ L = 2 by omega) with rfl | rfl | rfl <;> decide
theorem gu_J0 : ∀ w ∈ u_ws RJ0 TJ0 2, w ∈ zGw := gl_of [490, 492] (by decide +kernel)
theorem gu_JA : ∀ w ∈ u_ws RJx00060 TJx00060 6, w ∈ zGw := gl_of [478, 479, 480, 481, 482, 483] (by decide +kernel)
theorem zNs_tab : ∀ w ∈ zNs, w ∈ tables_1 := by decide +kernel
theorem zxV_tab : ∀ w ∈ zxV, w ∈ tables_1 := by decide +kernel
theorem lw_str {args : Array Value} {k : Nat} {tx : String} (h1 : (Jvm.Cond.stringRef "ShardRebalancer" k tx).before args s = true) (h2 : (Jvm.Cond.exactly (Jvm.Term.string "ShardRebalancer" k) "java/lang/String").before args s = true) : ∃ sa, vk_R "ShardRebalancer" k tx sa s := by
  obtain ⟨a, c9, cA, kA, q1, -⟩ := Cond.exactly_spec (args := args) (first := s) (o := none) (s := s) (idx := []) (t := .string "ShardRebalancer" k) (cls := "java/lang/String") h2
  exact ⟨a, vk_R.of h1 q1⟩
theorem lw_qn {cl : List vw_C} {ws : va_W} {n q : Nat} {v : va_E} {H1 : Heap} (hl : ws.length = n) (hi : ∀ i, i < n → ∃ e, ws[i]? = some (lo + i, e)) (hP : va_P D cl (ws ++ [(q, v)]) H1) (hD : va_D (zA lo none) (ws ++ [(q, v)])) (hz : H1.size ≤ lo + n + 1) : q = lo + n := by
  have hat : (ws ++ [(q, v)])[n]? = some (q, v) := by
    rw [List.getElem?_append_right (by omega), hl, Nat.sub_self]; rfl
  have h1 := vx_lt hP hat
  have h2 := hD.2 _ _ hat
  apply Classical.byContradiction
  intro ne
  dsimp only at h1
  have h3 : lo ≤ q := h2.1
  have h4 : q - lo < n := by omega
  obtain ⟨e9, h5⟩ := hi _ h4
  have h5 : (ws ++ [(q, v)])[q - lo]? = some (lo + (q - lo), e9) := by
    rw [List.getElem?_append_left (by omega)]; exact h5
  have h6 := hD.1 (q - lo) n _ _ h5 hat (by dsimp only; omega)
  omega
/-- a constructor's call in the law, its object just made -/
theorem lwNew {j9 a ix pc n : Nat} {as rest : List Value} {E E' : zHp} {ls : Array Slot} (h : zcal zTT j9 (.ref a :: as) E = some (none, E')) (hlen : as.length < zmL (zMt j9)) (fix : CallFix p m c cL_law 9 s #[Value.ref b] zGw "ShardRebalancerLaw") (hW : zWd D vwCl lo K E H) (hKK : zKK D vwCl K zNs s) (hS : va_S (zA lo none) s.heap H locs) (hlo : lo = s.heap.size) (hn : as.length = n) (hsize : ls.size = 9)
    (hrt : zrT (zMt j9) = none) (hw4 : Jvm.Cond.initialized (zy (zMt j9)).cls ∈ zGw ∧ Jvm.Cond.methodLink "ShardRebalancerLaw" ix (zy (zMt j9)) ∈ zGw ∧ Jvm.Cond.instanceMethod (zy (zMt j9)) ∈ zGw ∧ Jvm.Cond.code (zy (zMt j9)) (zb (zMt j9)) (zmL (zMt j9)) (zrT (zMt j9)) ∈ zGw) (hnm : (zy (zMt j9)).name = "<init>") (hd : (zy (zMt j9)).cls ≠ "java/lang/invoke/MethodHandle" ∧ (zy (zMt j9)).cls ≠ "java/lang/invoke/VarHandle" ∧ (parseMethodDescriptor (zy (zMt j9)).desc).map (fun d => d.parameters.length) = some n)
    (hR : zfr (zMt j9) + 1 ≤ room_1.frames ∧ 8 + (zmL (zMt j9) + 11) + zlo (zMt j9) ≤ room_1.locals) (hfit : zN E' ≤ room_1.cells ∧ zM E' ≤ room_1.slots) (hle : zN E ≤ zN E' ∧ zM E ≤ zM E') (hsum : (rest.map fun v => v.category).sum ≤ 8) (hdg : decode cL_law pc = .ok (.invokespecial ix, 3))
    (kk : ∀ (H1 : Heap) (locs1 : List Loc), zWd D vwCl lo K E' H1 → va_S (zA lo none) s.heap H1 locs1 → W p l e room_1 s m #[Value.ref b] below meth c H1 locs1 (zN E') (zM E') Q (F0 m (pc + 3) ls rest)) : W p l e room_1 s m #[Value.ref b] below meth c H locs (zN E) (zM E) Q (F0 m pc ls ((as.map (zc lo)).reverse ++ .ref (lo + a) :: rest)) := by
  obtain ⟨n9, hn9⟩ := zcal_to h
  have hM : zMet zGw zNs l D vwCl K lo none true (zMt j9) (.ref a :: as) E none E' := zmet (fun _ => rfl) zGw_good zok zNs_in n9 j9 (.ref a :: as) E E' none (by rw [List.length_cons]; omega) hn9 (Or.inl rfl) (fun k hk => nomatch hk)
  have hts := fix.2.2.2.2
  have hwl : zwl zGw (zMt j9) = Jvm.Cond.code (zy (zMt j9)) (zb (zMt j9)) (zmL (zMt j9)) none :: zGw := by rw [zwl, hrt]
  refine zW_sz (fun hsz => ?_)
  refine zcallL (va_runI (b := lo + a) (As := as.map (zc lo)) (rest := rest) fix hM (cwI n hts (zGood zGw_good (zwl_in hw4.2.2.2)) hwl rfl rfl (hts _ hw4.1) (hts _ hw4.2.1) (hts _ hw4.2.2.1) hnm hd hR) ⟨zBlind, fun U hU hW' => ⟨rfl, by rw [hU]; exact hW, zKK.moved hW' hKK, fun _ => by rw [hU]; have := hW.2; omega⟩⟩ rfl (by rw [List.length_map]; exact hn) hsize rfl (lv_room hsum) hdg ⟨by omega, by omega⟩) hS (fun q hq => hq) (fun H1 L1 hW1 _ _ hS1 => ?_)
  rw [show zN E + (zN E' - zN E) = zN E' by omega, show zM E + (zM E' - zM E) = zM E' by omega]
  exact kk H1 L1 hW1 hS1
def zkd6 : List (Option (Option Nat)) := [some none, some none, some none, some none, some none, some none, some none, none, none]
def zkd7 : List (Option (Option Nat)) := [some none, some none, some none, none, some none, none, none, some none, some none, none, some none, some none, some none, some none, some none, some none, some none, some none, none, some none, none, none, none, some none]
set_option maxRecDepth 100000 in
set_option maxHeartbeats 4000000 in
/-- from the entry, for every script of at most 1536 ints, the law comes to its end with true -/
theorem whole_start {p : Program} {e : Env} {s : State} {m : MethodId} {below : List Frame} {meth : Method} {c : Code} (l : Launch) (hflags : l.flags = flags0) {b L : Nat} {xs : Nat → Int32} (hL : L ≤ 1536) (C0 : lw_At p s m meth c b L xs) : W p l e room_1 s m #[Value.ref b] below meth c s.heap [] 0 0 (lw_Z below #[Value.ref b] s) (entryFrame m ([Value.ref b] : List Value).toArray 9) := by
  obtain ⟨hx, hb, hr, hml, hown, hts, hX, hbl, hlocks, hgv⟩ := C0
  have hst : l.stackTraces = false := by unfold Launch.stackTraces; rw [hflags]; decide
  have htsT : ∀ w ∈ tables_1, w.before #[Value.ref b] s = true := fun w hw => hts w (List.mem_append_right _ hw)
  have htsG : ∀ w ∈ zGw, w.before #[Value.ref b] s = true := fun w hw => hts w (List.mem_filter.mp hw).1
  have hnar := flat_of_before _ hgv
  have hown : s.vm.findClass "ShardRebalancerLaw" = some m.cls := hown
  obtain ⟨c0, i0, hKn0⟩ := u_known (C := RJ0) (T := TJ0) (N := 2) (n := 4) htsG gu_J0 (htsG _ (gw_of 489 (by decide +kernel)))
  obtain ⟨c1, i1, hKn1⟩ := u_known (C := RJx00060) (T := TJx00060) (N := 6) (n := 6) htsG gu_JA (htsG _ (gw_of 471 (by decide +kernel)))
  obtain ⟨c2, i2, hKn2⟩ := u_known (C := RX0) (T := TX0) (N := 3) (n := 3) htsG gu_X0 (htsG _ (gw_of 97 (by decide +kernel)))
  obtain ⟨c3, i3, hKn3⟩ := u_known (C := RX1) (T := TX1) (N := 9) (n := 9) htsG gu_X1 (htsG _ (gw_of 161 (by decide +kernel)))
  obtain ⟨c4, i4, hKn4⟩ := u_known (C := RX2) (T := TX2) (N := 3) (n := 3) htsG gu_X2 (htsG _ (gw_of 39 (by decide +kernel)))
  obtain ⟨c5, i5, hKn5⟩ := u_known (C := RX3) (T := TX3) (N := 7) (n := 7) htsG gu_X3 (htsG _ (gw_of 117 (by decide +kernel)))
  obtain ⟨c6, i6, hKn6⟩ := u_known (C := RX4) (T := TX4) (N := 8) (n := 8) htsG gu_X4 (htsG _ (gw_of 33 (by decide +kernel)))
  obtain ⟨c7, i7, hKn7⟩ := u_known (C := RX6) (T := TX6) (N := 9) (n := 9) htsG gu_X6 (htsG _ (gw_of 25 (by decide +kernel)))
  obtain ⟨c8, i8, hKn8⟩ := u_known (C := RX7) (T := TX7) (N := 24) (n := 24) htsG gu_X7 (htsG _ (gw_of 1006 (by decide +kernel)))
  obtain ⟨dC, dI, hKc⟩ : ∃ (dC : Nat → ClassId) (dI : Nat → Nat → Nat), ∀ (k : Nat) (q : vw_C), vwCl[k]? = some q → u_Kn s q.1 q.2.1 q.2.2 (dC k) (dI k) := by
    refine ⟨fun k => [c0, c1, c2, c3, c4, c5, c6, c7, c8].getD k c0, fun k => [i0, i1, i2, i3, i4, i5, i6, i7, i8].getD k i0, ?_⟩
    intro k q hq
    match k, hq with
    | 0, hq => cases hq; exact hKn0
    | 1, hq => cases hq; exact hKn1
    | 2, hq => cases hq; exact hKn2
    | 3, hq => cases hq; exact hKn3
    | 4, hq => cases hq; exact hKn4
    | 5, hq => cases hq; exact hKn5
    | 6, hq => cases hq; exact hKn6
    | 7, hq => cases hq; exact hKn7
    | 8, hq => cases hq; exact hKn8
    | k + 9, hq => simp [vwCl] at hq
  obtain ⟨kI, kaI, coI, hI1, hI2, hI3⟩ := Cond.arrayClass_spec (htsT (Jvm.Cond.arrayClass .int) (List.mem_of_getElem? (i := 59) (by decide +kernel)))
  obtain ⟨kC, kaC, coC, hC1, hC2, hC3⟩ := Cond.arrayClass_spec (htsT (Jvm.Cond.arrayClass .char) (List.mem_of_getElem? (i := 148) (by decide +kernel)))
  have hover := htsT (Jvm.Cond.arrayOver (.object "ShardRebalancer$Store")) (List.mem_of_getElem? (i := 103) (by decide +kernel))
  obtain ⟨coS, kS, kaS, hS1, hS2, hS3, hS4, hS5⟩ := Cond.arrayOver_spec hover
  obtain ⟨K, hK0, hK1, hK2⟩ : ∃ K : Nat → ClassId, K 0 = kI ∧ K 1 = kC ∧ K 2 = kS := ⟨fun i => if i = 0 then kI else if i = 1 then kC else kS, rfl, rfl, rfl⟩
  have hKK : zKK (dC, dI) vwCl K zNs s := by
    refine ⟨⟨hKc, fun k q hk => ?_⟩, va_AO.of hover, fun w hw => ?_⟩
    · rw [hK0, hK1, hK2] at hk
      match k, hk with
      | 0, hk => cases hk; exact ⟨fun n z => ⟨fun k h => (by cases h), kaI, hI2, coI, hI3⟩, hI1⟩
      | 1, hk => cases hk; exact ⟨fun n z => ⟨fun k h => (by cases h), kaC, hC2, coC, hC3⟩, hC1⟩
      | 2, hk => cases hk; exact ⟨fun n z => ⟨fun k h => (by cases h), kaS, hS3, coS, hS4⟩, kaS, coS, hS3, hS4, hS1, hS5⟩
      | k + 3, hk => simp at hk
    · obtain ⟨a, i, x9, h9, rfl⟩ := zNs_in w hw
      exact ⟨a, i, x9, h9, rfl, va_Nw.of rfl (htsT _ (zNs_tab _ hw))⟩
  obtain ⟨lo, hlo⟩ : ∃ lo, lo = s.heap.size := ⟨_, rfl⟩
  have hnA : ∀ a : Nat, a < s.heap.size → ¬ zA lo none a := fun a ha h9 => by have := h9.1; omega
  have hxW : zxW zxB zxSt lo none s := by
    refine ⟨fun w hw => va_Nw.of (zxV_t w hw) (htsT w (zxV_tab w hw)), ?_, ?_, vx_Zqof (htsT _ (List.mem_of_getElem? (i := 377) (by decide +kernel))) (htsT _ (List.mem_of_getElem? (i := 10) (by decide +kernel))) (hnar _ (by decide +kernel)) hnA, vx_Zqof (htsT _ (List.mem_of_getElem? (i := 379) (by decide +kernel))) (htsT _ (List.mem_of_getElem? (i := 10) (by decide +kernel))) (hnar _ (by decide +kernel)) hnA⟩
    · unfold zxB
      exact List.forall_mem_cons.mpr ⟨va_Nc.of (hnar _ (by decide +kernel)), List.forall_mem_cons.mpr ⟨va_Nc.of (hnar _ (by decide +kernel)), List.forall_mem_cons.mpr ⟨va_Nc.of (hnar _ (by decide +kernel)), List.forall_mem_cons.mpr ⟨va_Nc.of (hnar _ (by decide +kernel)), List.forall_mem_cons.mpr ⟨va_Nc.of (hnar _ (by decide +kernel)), fun _ h => nomatch h⟩⟩⟩⟩⟩
    · unfold zxSt
      exact List.forall_mem_cons.mpr ⟨lw_str (htsT _ (List.mem_of_getElem? (i := 395) (by decide +kernel))) (hnar _ (by decide +kernel)), List.forall_mem_cons.mpr ⟨lw_str (htsT _ (List.mem_of_getElem? (i := 435) (by decide +kernel))) (hnar _ (by decide +kernel)), List.forall_mem_cons.mpr ⟨lw_str (htsT _ (List.mem_of_getElem? (i := 512) (by decide +kernel))) (hnar _ (by decide +kernel)), List.forall_mem_cons.mpr ⟨lw_str (htsT _ (List.mem_of_getElem? (i := 520) (by decide +kernel))) (hnar _ (by decide +kernel)), List.forall_mem_cons.mpr ⟨lw_str (htsT _ (List.mem_of_getElem? (i := 537) (by decide +kernel))) (hnar _ (by decide +kernel)), List.forall_mem_cons.mpr ⟨lw_str (htsT _ (List.mem_of_getElem? (i := 549) (by decide +kernel))) (hnar _ (by decide +kernel)), List.forall_mem_cons.mpr ⟨lw_str (htsT _ (List.mem_of_getElem? (i := 592) (by decide +kernel))) (hnar _ (by decide +kernel)), List.forall_mem_cons.mpr ⟨lw_str (htsT _ (List.mem_of_getElem? (i := 600) (by decide +kernel))) (hnar _ (by decide +kernel)), List.forall_mem_cons.mpr ⟨lw_str (htsT _ (List.mem_of_getElem? (i := 612) (by decide +kernel))) (hnar _ (by decide +kernel)), List.forall_mem_cons.mpr ⟨lw_str (htsT _ (List.mem_of_getElem? (i := 620) (by decide +kernel))) (hnar _ (by decide +kernel)), List.forall_mem_cons.mpr ⟨lw_str (htsT _ (List.mem_of_getElem? (i := 633) (by decide +kernel))) (hnar _ (by decide +kernel)), List.forall_mem_cons.mpr ⟨lw_str (htsT _ (List.mem_of_getElem? (i := 643) (by decide +kernel))) (hnar _ (by decide +kernel)), List.forall_mem_cons.mpr ⟨lw_str (htsT _ (List.mem_of_getElem? (i := 659) (by decide +kernel))) (hnar _ (by decide +kernel)), List.forall_mem_cons.mpr ⟨lw_str (htsT _ (List.mem_of_getElem? (i := 692) (by decide +kernel))) (hnar _ (by decide +kernel)), List.forall_mem_cons.mpr ⟨lw_str (htsT _ (List.mem_of_getElem? (i := 715) (by decide +kernel))) (hnar _ (by decide +kernel)), List.forall_mem_cons.mpr ⟨lw_str (htsT _ (List.mem_of_getElem? (i := 724) (by decide +kernel))) (hnar _ (by decide +kernel)), List.forall_mem_cons.mpr ⟨lw_str (htsT _ (List.mem_of_getElem? (i := 758) (by decide +kernel))) (hnar _ (by decide +kernel)), List.forall_mem_cons.mpr ⟨lw_str (htsT _ (List.mem_of_getElem? (i := 850) (by decide +kernel))) (hnar _ (by decide +kernel)), List.forall_mem_cons.mpr ⟨lw_str (htsT _ (List.mem_of_getElem? (i := 867) (by decide +kernel))) (hnar _ (by decide +kernel)), List.forall_mem_cons.mpr ⟨lw_str (htsT _ (List.mem_of_getElem? (i := 882) (by decide +kernel))) (hnar _ (by decide +kernel)), List.forall_mem_cons.mpr ⟨lw_str (htsT _ (List.mem_of_getElem? (i := 906) (by decide +kernel))) (hnar _ (by decide +kernel)), List.forall_mem_cons.mpr ⟨lw_str (htsT _ (List.mem_of_getElem? (i := 974) (by decide +kernel))) (hnar _ (by decide +kernel)), List.forall_mem_cons.mpr ⟨lw_str (htsT _ (List.mem_of_getElem? (i := 988) (by decide +kernel))) (hnar _ (by decide +kernel)), List.forall_mem_cons.mpr ⟨lw_str (htsT _ (List.mem_of_getElem? (i := 1000) (by decide +kernel))) (hnar _ (by decide +kernel)), fun _ h => nomatch h⟩⟩⟩⟩⟩⟩⟩⟩⟩⟩⟩⟩⟩⟩⟩⟩⟩⟩⟩⟩⟩⟩⟩⟩
  have fix : CallFix p m c cL_law 9 s #[Value.ref b] zGw "ShardRebalancerLaw" := ⟨hx, hb, hml, hown, htsG⟩
  have hS : va_S (zA lo none) s.heap s.heap [] := va_S.rf
  have hA : ∀ q, s.heap.size ≤ q → zA lo none q := fun q h => zA_lo (by omega)
  have hDz : ∀ E : zHp, va_D (zA lo none) (zws lo K E) := fun E => zws_D lo none K E (fun n hn => nomatch hn)
  have hW0 : zWd (dC, dI) vwCl lo K (0, 0, zSP, fun _ _ => 0) s.heap := ⟨fun k q hk => by rw [show zws lo K (0, 0, zSP, fun _ _ => 0) = [] from rfl] at hk; simp at hk, Nat.le_of_eq hlo⟩
  have hl := lv_entry ([.ref b]) (n := 9) (Nat.le_of_ble_eq_true rfl)
  rw [lg_entry_eq]
  generalize (lg_sl ([.ref b]) ++ List.replicate (9 - (lg_sl ([.ref b])).length) Slot.unset).toArray = ls at hl ⊢
  have hl : lv_has ls 9 [(0, .ref b)] := hl
  refine va_new (ci := 7) (fs := zfs lo (fun _ => 0) zkd6 0) hx hb htsG gu_X6 tyX6 tyX6_ok hown (htsG _ (gw_of 24 (by decide +kernel))) (htsG _ (gw_of 25 (by decide +kernel))) (htsG _ (gw_of 1 (by decide +kernel))) hKK.1 hW0.1 (hDz _) hS hA rfl (fun j hj => gd_X6 lo (fun _ => 0) j hj rfl) (Nat.le_of_ble_eq_true rfl) (Nat.le_of_ble_eq_true rfl) dL_law_0 (fun q H1 hP1 hD1 hS => ?_)
  refine zW_sz (fun hz => ?_)
  obtain ⟨hq, hW1⟩ := zWd.new (nb := none) (E := (0, 0, zSP, fun _ _ => 0)) (s' := .inr (.inr (7, zkd6))) (n := 9) rfl hP1 hD1 (by show H1.size ≤ lo + 0 + 1; omega)
  have hq : q = lo := hq
  subst hq
  have hW1 : zWd (dC, dI) vwCl q K (1, 9, va_up zSP 0 zf0, va_up (fun _ _ => 0) 0 (fun _ => 0)) H1 := hW1
  refine lv_dup hx hb dL_law_3 rfl ?_
  obtain ⟨G1, ci1, cp1, st1, sd1⟩ := C_init (G := va_up (fun _ _ => 0) 0 (fun _ => 0))
  refine lwNew (as := []) (a := 0) (ix := 101) (n := 0) (rest := [.ref q]) (E := (1, 9, va_up zSP 0 zf0, va_up (fun _ _ => 0) 0 (fun _ => 0))) ci1 (Nat.le_of_ble_eq_true rfl) fix hW1 hKK hS hlo rfl hl.1 rfl ⟨gw_of 1 (by decide +kernel), gw_of 26 (by decide +kernel), gw_of 27 (by decide +kernel), gw_of 28 (by decide +kernel)⟩ rfl ⟨by decide, by decide, by decide +kernel⟩ ⟨Nat.le_of_ble_eq_true rfl, Nat.le_of_ble_eq_true rfl⟩ ⟨Nat.le_of_ble_eq_true rfl, Nat.le_of_ble_eq_true rfl⟩ ⟨Nat.le_of_ble_eq_true rfl, Nat.le_of_ble_eq_true rfl⟩ (Nat.le_of_ble_eq_true rfl) dL_law_4 (fun H2 L2 hW2 hS => ?_)
  refine lv_astore_n (lv' := [(1, .ref q), (0, .ref b)]) hx hb dL_law_7 rfl hl (by decide) rfl (fun ls hl => ?_)
  refine va_new (ci := 8) (fs := zfs q (fun _ => 0) zkd7 0) hx hb htsG gu_X7 tyX7 tyX7_ok hown (htsG _ (gw_of 1005 (by decide +kernel))) (htsG _ (gw_of 1006 (by decide +kernel))) (htsG _ (gw_of 9 (by decide +kernel))) hKK.1 hW2.1 (hDz _) hS hA rfl (fun j hj => gd_X7 q (fun _ => 0) j hj rfl) (Nat.le_of_ble_eq_true rfl) (Nat.le_of_ble_eq_true rfl) dL_law_8 (fun q2 H3 hP3 hD3 hS => ?_)
  refine zW_sz (fun hz => ?_)
  obtain ⟨hq2, hW3⟩ := zWd.new (nb := none) (E := (122, 3123, zSP, G1)) (s' := .inr (.inr (8, zkd7))) (n := 24) rfl hP3 hD3 (by have hz : H3.size ≤ s.heap.size + (122 + 1) := hz; show H3.size ≤ q + 122 + 1; omega)
  have hq2 : q2 = q + 122 := hq2
  subst hq2
  have hW3 : zWd (dC, dI) vwCl q K (123, 3147, va_up zSP 122 (.inr (.inr (8, zkd7))), va_up G1 122 (fun _ => 0)) H3 := hW3
  refine lv_dup hx hb dL_law_11 rfl ?_
  obtain ⟨G2, ci2, z2, f2⟩ := M_init (G := G1) (x0 := .inr (.inr (8, zkd7))) rfl
  refine lwNew (as := []) (a := 122) (ix := 104) (n := 0) (rest := [.ref (q + 122)]) (E := (123, 3147, va_up zSP 122 (.inr (.inr (8, zkd7))), va_up G1 122 (fun _ => 0))) ci2 (Nat.le_of_ble_eq_true rfl) fix hW3 hKK hS hlo rfl hl.1 rfl ⟨gw_of 9 (by decide +kernel), gw_of 1007 (by decide +kernel), gw_of 1008 (by decide +kernel), gw_of 1009 (by decide +kernel)⟩ rfl ⟨by decide, by decide, by decide +kernel⟩ ⟨Nat.le_of_ble_eq_true rfl, Nat.le_of_ble_eq_true rfl⟩ ⟨Nat.le_of_ble_eq_true rfl, Nat.le_of_ble_eq_true rfl⟩ ⟨Nat.le_of_ble_eq_true rfl, Nat.le_of_ble_eq_true rfl⟩ (Nat.le_of_ble_eq_true rfl) dL_law_12 (fun H4 L4 hW4 hS => ?_)
  refine lv_astore_n (lv' := [(2, .ref (q + 122)), (1, .ref q), (0, .ref b)]) hx hb dL_law_15 rfl hl (by decide) rfl (fun ls hl => ?_)
  refine lv_iconst (v := 1) hx hb dL_law_16 (by decide) ?_
  refine va_newa (atype := .long) (N' := 1) (a0 := (1, .inr (.inl (fun _ => 0)))) hx hb (htsT _ (List.mem_of_getElem? (i := 1375) (by decide +kernel))) rfl hKK.1 hW4.1 (hDz _) hS hA (fun _ => rfl) (by decide) (by decide) (Nat.le_of_ble_eq_true rfl) (Nat.le_of_ble_eq_true rfl) (Nat.le_of_ble_eq_true rfl) dL_law_17 (fun q3 cO H5 hK5 hP5 hD5 hS => ?_)
  refine zW_sz (fun hz => ?_)
  have hq3 : q3 = q + 139 := lw_qn (ws := zws q K (zhp G2)) (by rw [zws_len]; rfl) (fun i hi => ⟨_, zws_get (E := zhp G2) hi⟩) hP5 hD5 (by have hz : H5.size ≤ s.heap.size + (139 + 1) := hz; omega)
  subst hq3
  refine lv_astore_n (lv' := [(3, .ref (q + 139)), (2, .ref (q + 122)), (1, .ref q), (0, .ref b)]) hx hb dL_law_19 rfl hl (by decide) rfl (fun ls hl => ?_)
  refine lv_iconst (v := 1) hx hb dL_law_20 (by decide) ?_
  refine va_newa (atype := .double) (N' := 1) (a0 := (1, .inr (.inr (.inr (.inl (fun _ => 0)))))) hx hb (htsT _ (List.mem_of_getElem? (i := 1376) (by decide +kernel))) rfl hK5 hP5 hD5 hS hA (fun _ => rfl) (by decide) (by decide) (Nat.le_of_ble_eq_true rfl) (Nat.le_of_ble_eq_true rfl) (Nat.le_of_ble_eq_true rfl) dL_law_21 (fun q4 cD H6 hK6 hP6 hD6 hS => ?_)
  refine zW_sz (fun hz => ?_)
  have hlen : (zws q K (zhp G2)).length = 139 := by rw [zws_len]; rfl
  have hq4 : q4 = q + 140 := lw_qn (ws := zws q K (zhp G2) ++ [(q + 139, .inl (cO, 1, .inr (.inl (fun _ => 0))))]) (by rw [List.length_append, hlen]; rfl) (fun i hi => by
      by_cases h9 : i < 139
      · exact ⟨_, by rw [List.getElem?_append_left (by omega)]; exact zws_get (E := zhp G2) h9⟩
      · have h9 : i = 139 := by omega
        subst h9
        exact ⟨_, by rw [List.getElem?_append_right (by omega), hlen]; rfl⟩) hP6 hD6 (by have hz : H6.size ≤ s.heap.size + (140 + 1) := hz; omega)
  subst hq4
  have hW6 : zWd (dC, dI) vwCl q K (zhp G2) H6 := by
    refine ⟨fun k x hk => hP6 k x (by rw [List.getElem?_append_left (by rw [List.length_append, hlen]; have := (List.getElem?_eq_some_iff.mp hk).1; rw [hlen] at this; exact Nat.lt_of_lt_of_le this (Nat.le_add_right _ _)), List.getElem?_append_left (List.getElem?_eq_some_iff.mp hk).1]; exact hk), ?_⟩
    have h9 := vx_lt hP6 (k := 140) (q := (q + 140, _)) (by rw [List.getElem?_append_right (by rw [List.length_append, hlen]; exact Nat.le_refl _), List.length_append, hlen]; rfl)
    show q + 139 ≤ H6.size
    have h9 : q + 140 < H6.size := h9
    omega
  have hO6 : zOu (dC, dI) cO q (fun _ => 0) H6 := fun k x hk => hP6 (139 + k) x (by
    have hk1 : k < 1 := (List.getElem?_eq_some_iff.mp hk).1
    rw [List.getElem?_append_left (by rw [List.length_append, hlen]; show 139 + k < 139 + 1; omega), List.getElem?_append_right (by omega), hlen, Nat.add_sub_cancel_left]
    exact hk)
  have hD6 : zOd (dC, dI) cD q (fun _ => 0) H6 := fun k x hk => hP6 (140 + k) x (by
    rw [List.getElem?_append_right (by rw [List.length_append, hlen]; show 139 + 1 ≤ 140 + k; omega), List.length_append, hlen, show 140 + k - (139 + [(q + 139, (Sum.inl (cO, 1, .inr (.inl (fun _ => 0))) : va_E))].length) = k from Nat.add_sub_cancel_left (n := 140) (m := k)]
    exact hk)
  refine lv_astore (lv' := [(4, .ref (q + 140)), (3, .ref (q + 139)), (2, .ref (q + 122)), (1, .ref q), (0, .ref b)]) hx hb dL_law_23 hl (by decide) rfl (fun ls hl => ?_)
  refine lv_iconst (v := nI (3 * 0)) hx hb dL_law_25 (by decide) ?_
  refine lv_istore (lv' := lwV b q 0) hx hb dL_law_26 hl (by decide) rfl (fun ls hl => ?_)
  have I2 : lwI G2 := ⟨zA0, [], zCO.eq cp1 (fun a ha => f2 a (by omega)), st1.cg (fun a h1 h2 => f2 a (by omega)), by obtain ⟨Cs, sd1⟩ := sd1; exact ⟨Cs, sd1.cg (fun a h1 h2 => f2 a (by omega))⟩, z2, zGA_0⟩
  have C : lwC p l s m c b L xs (dC, dI) K cO cD q := ⟨fix, hX, hbl, hKK, hK6.sub [3] rfl, hK6.sub [4] rfl, hxW, hst, hlo, hL⟩
  exact law_loop C hr hlocks L 0 (by omega) (Nat.zero_le _) G2 _ _ H6 _ ls I2 ⟨hW6, hO6, hD6, hS⟩ hl

end ZLAWS
