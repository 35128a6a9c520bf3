section ZHELPS
variable {l : Launch} {D : va_G} {K : Nat → ClassId} {lo : Nat} {cO : ClassId}
theorem dL_addNode_0 : decode cL_addNode 0 = .ok (.aload_n 2, 1) := by decide +kernel
theorem dL_addNode_1 : decode cL_addNode 1 = .ok (.iconst 0, 1) := by decide +kernel
theorem dL_addNode_2 : decode cL_addNode 2 = .ok (.aload_n 0, 1) := by decide +kernel
theorem dL_addNode_3 : decode cL_addNode 3 = .ok (.iload_n 1, 1) := by decide +kernel
theorem dL_addNode_4 : decode cL_addNode 4 = .ok (.invokevirtual 7, 3) := by decide +kernel
theorem dL_addNode_7 : decode cL_addNode 7 = .ok (.i2l, 1) := by decide +kernel
theorem dL_addNode_8 : decode cL_addNode 8 = .ok (.lastore, 1) := by decide +kernel
theorem dL_addNode_9 : decode cL_addNode 9 = .ok (.goto 9, 3) := by decide +kernel
theorem dL_addNode_12 : decode cL_addNode 12 = .ok (.astore_n 3, 1) := by decide +kernel
theorem dL_addNode_13 : decode cL_addNode 13 = .ok (.iconst 1, 1) := by decide +kernel
theorem dL_addNode_14 : decode cL_addNode 14 = .ok (.ireturn, 1) := by decide +kernel
theorem dL_addNode_15 : decode cL_addNode 15 = .ok (.astore_n 3, 1) := by decide +kernel
theorem dL_addNode_16 : decode cL_addNode 16 = .ok (.iconst 2, 1) := by decide +kernel
theorem dL_addNode_17 : decode cL_addNode 17 = .ok (.ireturn, 1) := by decide +kernel
theorem dL_addNode_18 : decode cL_addNode 18 = .ok (.iconst 0, 1) := by decide +kernel
theorem dL_addNode_19 : decode cL_addNode 19 = .ok (.ireturn, 1) := by decide +kernel
theorem zh_addNode {f : Nat → Int64} {G G' : Nat → Nat → Int32} {r : zRt} {x1 : Int32} (hM : zxM zGw zNs l D vwCl K zxB zxSt lo (some 139) mC_addNode [.ref 0, .int x1] (zhp G) r (zhp G')) (hr : (∃ v, r = .inl (some (.int v))) ∨ r = .inr 0 ∨ r = .inr 1) :
    vx_Met l yL_addNode (Jvm.Cond.codeWith yL_addNode cL_addNode 4 (some .int) [(0, 9, 12, 13), (0, 9, 15, 15)] :: zGw) (zhrm mC_addNode) (va_Pc [Value.ref lo, Value.int x1, Value.ref (lo + 139)] (zhPc D K lo cO f (zhp G))) (zhQc D K lo cO (zhf f r) (zhp G') (zhk (zk2 0 1) r)) (fun _ _ _ => False) 1 6 (zA lo (some 140)) := by
  refine vx_ofWH (cc := cL_addNode) (maxL := 4) (ret := some .int) (hh := [(0, 9, 12, 13), (0, 9, 15, 15)]) (ws' := zGw) (by decide) rfl ?_
  intro p e s m args below meth c s₁ BL hml hv
  obtain ⟨rfl, hX, hO, hKO⟩ := hv
  have hts0 := atoms_spec (ws := Jvm.Cond.codeWith yL_addNode cL_addNode 4 (some .int) [(0, 9, 12, 13), (0, 9, 15, 15)] :: zGw) BL.pre
  have hts : ∀ w ∈ zGw, w.before ([Value.ref lo, Value.int x1, Value.ref (lo + 139)]).toArray s = true := fun w hw => hts0 w (List.mem_cons_of_mem _ hw)
  have htab : c.exceptionTable.toList = tableOf [(0, 9, 12, 13), (0, 9, 15, 15)] := vx_table (x := yL_addNode) BL (hts0 _ List.mem_cons_self)
  have hown : s.vm.findClass "ShardRebalancerLaw" = some m.cls := findClass_of_methodNamed BL.named
  have hlv := lv_entry [Value.ref lo, Value.int x1, Value.ref (lo + 139)] (n := 4) (Nat.le_of_ble_eq_true rfl)
  rw [lg_entry_eq]
  generalize (lg_sl [Value.ref lo, Value.int x1, Value.ref (lo + 139)] ++ List.replicate (4 - (lg_sl [Value.ref lo, Value.int x1, Value.ref (lo + 139)]).length) Slot.unset).toArray = ls at hlv ⊢
  have hx := BL.exec
  have hb := BL.bytes
  have hret := BL.returns
  have hlk := BL.notSynchronized
  refine lv_aload_n hx hb dL_addNode_0 rfl (hlv.2.2 (2, .ref (lo + 139)) (List.mem_of_getElem? (i := 2) rfl)) ?_
  refine lv_iconst (v := 0) hx hb dL_addNode_1 rfl ?_
  refine lv_aload_n hx hb dL_addNode_2 rfl (hlv.2.2 (0, .ref lo) (List.mem_of_getElem? (i := 0) rfl)) ?_
  refine lv_iload_n hx hb dL_addNode_3 rfl (hlv.2.2 (1, .int x1) (List.mem_of_getElem? (i := 1) rfl)) ?_
  refine zhcall (as := [.int x1]) (ci := 7) (ix := 7) (n := 1) (nL := 4) (rest := [.int 0, .ref (lo + 139)]) hM ⟨hx, hb, hml, hown, hts⟩ hX (zob_o (by decide) rfl) rfl rfl hlv.1 rfl ?_ ⟨rfl, by decide +kernel⟩ rfl (Nat.le_of_ble_eq_true rfl) dL_addNode_4 (fun v H1 L1 hv hw hs => ?_) (fun x H1 L1 q ce hv hw hs hce hcv hcl => ?_)
  · exact List.forall_mem_cons.mpr ⟨gw_of 343 (by decide +kernel), List.forall_mem_cons.mpr ⟨gw_of 344 (by decide +kernel), List.forall_mem_cons.mpr ⟨gw_of 345 (by decide +kernel), List.forall_mem_cons.mpr ⟨gw_of 1 (by decide +kernel), zwl_in (gw_of 346 (by decide +kernel))⟩⟩⟩⟩
  · subst hv
    rcases hr with ⟨v0, hr⟩ | hr | hr
    · cases hr
      exact zhend hx hb dL_addNode_7 dL_addNode_8 dL_addNode_9 (by decide) dL_addNode_18 dL_addNode_19 rfl hret hlk hw rfl hX.1.1.2 hs hO hKO
    · cases hr
    · cases hr
  · subst hv
    rcases hr with ⟨v0, hr⟩ | hr | hr
    · cases hr
    · cases hr
      refine vx_catch (own := "ShardRebalancerLaw") (name := zxE 0) (E := zxE 0) hown [] ⟨0, 9, 12, 13⟩ [⟨0, 9, 15, 15⟩] htab (fun z hz => nomatch hz) (by decide) (by decide) (hts _ (gw_of 341 (by decide +kernel))) (va_Nw.use rfl (hX.2.1 (.castable (zxE 0) (zxE 0)) (List.mem_of_getElem? (i := 3) rfl))) hce hcv hcl ?_
      exact zhcatN hx hb dL_addNode_12 rfl hlv (by decide) dL_addNode_13 (by decide) dL_addNode_14 hret hlk hw hs hO
    · cases hr
      refine vx_catch (own := "ShardRebalancerLaw") (name := zxE 1) (E := zxE 1) hown [⟨0, 9, 12, 13⟩] ⟨0, 9, 15, 15⟩ [] htab (List.forall_mem_cons.mpr ⟨Or.inr ⟨by decide, zxE 0, hts _ (gw_of 341 (by decide +kernel)), hX.2.2.1 (1, 0) (by decide)⟩, fun z hz => nomatch hz⟩) (by decide) (by decide) (hts _ (gw_of 342 (by decide +kernel))) (va_Nw.use rfl (hX.2.1 (.castable (zxE 1) (zxE 1)) (List.mem_of_getElem? (i := 4) rfl))) hce hcv hcl ?_
      exact zhcatN hx hb dL_addNode_15 rfl hlv (by decide) dL_addNode_16 (by decide) dL_addNode_17 hret hlk hw hs hO
theorem dL_drain_0 : decode cL_drain 0 = .ok (.aload_n 2, 1) := by decide +kernel
theorem dL_drain_1 : decode cL_drain 1 = .ok (.iconst 0, 1) := by decide +kernel
theorem dL_drain_2 : decode cL_drain 2 = .ok (.aload_n 0, 1) := by decide +kernel
theorem dL_drain_3 : decode cL_drain 3 = .ok (.iload_n 1, 1) := by decide +kernel
theorem dL_drain_4 : decode cL_drain 4 = .ok (.invokevirtual 17, 3) := by decide +kernel
theorem dL_drain_7 : decode cL_drain 7 = .ok (.i2l, 1) := by decide +kernel
theorem dL_drain_8 : decode cL_drain 8 = .ok (.lastore, 1) := by decide +kernel
theorem dL_drain_9 : decode cL_drain 9 = .ok (.goto 9, 3) := by decide +kernel
theorem dL_drain_12 : decode cL_drain 12 = .ok (.astore_n 3, 1) := by decide +kernel
theorem dL_drain_13 : decode cL_drain 13 = .ok (.iconst 1, 1) := by decide +kernel
theorem dL_drain_14 : decode cL_drain 14 = .ok (.ireturn, 1) := by decide +kernel
theorem dL_drain_15 : decode cL_drain 15 = .ok (.astore_n 3, 1) := by decide +kernel
theorem dL_drain_16 : decode cL_drain 16 = .ok (.iconst 2, 1) := by decide +kernel
theorem dL_drain_17 : decode cL_drain 17 = .ok (.ireturn, 1) := by decide +kernel
theorem dL_drain_18 : decode cL_drain 18 = .ok (.iconst 0, 1) := by decide +kernel
theorem dL_drain_19 : decode cL_drain 19 = .ok (.ireturn, 1) := by decide +kernel
theorem zh_drain {f : Nat → Int64} {G G' : Nat → Nat → Int32} {r : zRt} {x1 : Int32} (hM : zxM zGw zNs l D vwCl K zxB zxSt lo (some 139) mC_drain [.ref 0, .int x1] (zhp G) r (zhp G')) (hr : (∃ v, r = .inl (some (.int v))) ∨ r = .inr 2 ∨ r = .inr 1) :
    vx_Met l yL_drain (Jvm.Cond.codeWith yL_drain cL_drain 4 (some .int) [(0, 9, 12, 20), (0, 9, 15, 15)] :: zGw) (zhrm mC_drain) (va_Pc [Value.ref lo, Value.int x1, Value.ref (lo + 139)] (zhPc D K lo cO f (zhp G))) (zhQc D K lo cO (zhf f r) (zhp G') (zhk (zk2 2 1) r)) (fun _ _ _ => False) 1 6 (zA lo (some 140)) := by
  refine vx_ofWH (cc := cL_drain) (maxL := 4) (ret := some .int) (hh := [(0, 9, 12, 20), (0, 9, 15, 15)]) (ws' := zGw) (by decide) rfl ?_
  intro p e s m args below meth c s₁ BL hml hv
  obtain ⟨rfl, hX, hO, hKO⟩ := hv
  have hts0 := atoms_spec (ws := Jvm.Cond.codeWith yL_drain cL_drain 4 (some .int) [(0, 9, 12, 20), (0, 9, 15, 15)] :: zGw) BL.pre
  have hts : ∀ w ∈ zGw, w.before ([Value.ref lo, Value.int x1, Value.ref (lo + 139)]).toArray s = true := fun w hw => hts0 w (List.mem_cons_of_mem _ hw)
  have htab : c.exceptionTable.toList = tableOf [(0, 9, 12, 20), (0, 9, 15, 15)] := vx_table (x := yL_drain) BL (hts0 _ List.mem_cons_self)
  have hown : s.vm.findClass "ShardRebalancerLaw" = some m.cls := findClass_of_methodNamed BL.named
  have hlv := lv_entry [Value.ref lo, Value.int x1, Value.ref (lo + 139)] (n := 4) (Nat.le_of_ble_eq_true rfl)
  rw [lg_entry_eq]
  generalize (lg_sl [Value.ref lo, Value.int x1, Value.ref (lo + 139)] ++ List.replicate (4 - (lg_sl [Value.ref lo, Value.int x1, Value.ref (lo + 139)]).length) Slot.unset).toArray = ls at hlv ⊢
  have hx := BL.exec
  have hb := BL.bytes
  have hret := BL.returns
  have hlk := BL.notSynchronized
  refine lv_aload_n hx hb dL_drain_0 rfl (hlv.2.2 (2, .ref (lo + 139)) (List.mem_of_getElem? (i := 2) rfl)) ?_
  refine lv_iconst (v := 0) hx hb dL_drain_1 rfl ?_
  refine lv_aload_n hx hb dL_drain_2 rfl (hlv.2.2 (0, .ref lo) (List.mem_of_getElem? (i := 0) rfl)) ?_
  refine lv_iload_n hx hb dL_drain_3 rfl (hlv.2.2 (1, .int x1) (List.mem_of_getElem? (i := 1) rfl)) ?_
  refine zhcall (as := [.int x1]) (ci := 7) (ix := 17) (n := 1) (nL := 4) (rest := [.int 0, .ref (lo + 139)]) hM ⟨hx, hb, hml, hown, hts⟩ hX (zob_o (by decide) rfl) rfl rfl hlv.1 rfl ?_ ⟨rfl, by decide +kernel⟩ rfl (Nat.le_of_ble_eq_true rfl) dL_drain_4 (fun v H1 L1 hv hw hs => ?_) (fun x H1 L1 q ce hv hw hs hce hcv hcl => ?_)
  · exact List.forall_mem_cons.mpr ⟨gw_of 494 (by decide +kernel), List.forall_mem_cons.mpr ⟨gw_of 495 (by decide +kernel), List.forall_mem_cons.mpr ⟨gw_of 496 (by decide +kernel), List.forall_mem_cons.mpr ⟨gw_of 1 (by decide +kernel), zwl_in (gw_of 497 (by decide +kernel))⟩⟩⟩⟩
  · subst hv
    rcases hr with ⟨v0, hr⟩ | hr | hr
    · cases hr
      exact zhend hx hb dL_drain_7 dL_drain_8 dL_drain_9 (by decide) dL_drain_18 dL_drain_19 rfl hret hlk hw rfl hX.1.1.2 hs hO hKO
    · cases hr
    · cases hr
  · subst hv
    rcases hr with ⟨v0, hr⟩ | hr | hr
    · cases hr
    · cases hr
      refine vx_catch (own := "ShardRebalancerLaw") (name := zxE 2) (E := zxE 2) hown [] ⟨0, 9, 12, 20⟩ [⟨0, 9, 15, 15⟩] htab (fun z hz => nomatch hz) (by decide) (by decide) (hts _ (gw_of 470 (by decide +kernel))) (va_Nw.use rfl (hX.2.1 (.castable (zxE 2) (zxE 2)) (List.mem_of_getElem? (i := 5) rfl))) hce hcv hcl ?_
      exact zhcatN hx hb dL_drain_12 rfl hlv (by decide) dL_drain_13 (by decide) dL_drain_14 hret hlk hw hs hO
    · cases hr
      refine vx_catch (own := "ShardRebalancerLaw") (name := zxE 1) (E := zxE 1) hown [⟨0, 9, 12, 20⟩] ⟨0, 9, 15, 15⟩ [] htab (List.forall_mem_cons.mpr ⟨Or.inr ⟨by decide, zxE 2, hts _ (gw_of 470 (by decide +kernel)), hX.2.2.1 (1, 2) (by decide)⟩, fun z hz => nomatch hz⟩) (by decide) (by decide) (hts _ (gw_of 342 (by decide +kernel))) (va_Nw.use rfl (hX.2.1 (.castable (zxE 1) (zxE 1)) (List.mem_of_getElem? (i := 4) rfl))) hce hcv hcl ?_
      exact zhcatN hx hb dL_drain_15 rfl hlv (by decide) dL_drain_16 (by decide) dL_drain_17 hret hlk hw hs hO
theorem dL_fail_0 : decode cL_fail 0 = .ok (.aload_n 2, 1) := by decide +kernel
theorem dL_fail_1 : decode cL_fail 1 = .ok (.iconst 0, 1) := by decide +kernel
theorem dL_fail_2 : decode cL_fail 2 = .ok (.aload_n 0, 1) := by decide +kernel
theorem dL_fail_3 : decode cL_fail 3 = .ok (.iload_n 1, 1) := by decide +kernel
theorem dL_fail_4 : decode cL_fail 4 = .ok (.invokevirtual 22, 3) := by decide +kernel
theorem dL_fail_7 : decode cL_fail 7 = .ok (.i2l, 1) := by decide +kernel
theorem dL_fail_8 : decode cL_fail 8 = .ok (.lastore, 1) := by decide +kernel
theorem dL_fail_9 : decode cL_fail 9 = .ok (.goto 9, 3) := by decide +kernel
theorem dL_fail_12 : decode cL_fail 12 = .ok (.astore_n 3, 1) := by decide +kernel
theorem dL_fail_13 : decode cL_fail 13 = .ok (.iconst 1, 1) := by decide +kernel
theorem dL_fail_14 : decode cL_fail 14 = .ok (.ireturn, 1) := by decide +kernel
theorem dL_fail_15 : decode cL_fail 15 = .ok (.astore_n 3, 1) := by decide +kernel
theorem dL_fail_16 : decode cL_fail 16 = .ok (.iconst 2, 1) := by decide +kernel
theorem dL_fail_17 : decode cL_fail 17 = .ok (.ireturn, 1) := by decide +kernel
theorem dL_fail_18 : decode cL_fail 18 = .ok (.iconst 0, 1) := by decide +kernel
theorem dL_fail_19 : decode cL_fail 19 = .ok (.ireturn, 1) := by decide +kernel
theorem zh_fail {f : Nat → Int64} {G G' : Nat → Nat → Int32} {r : zRt} {x1 : Int32} (hM : zxM zGw zNs l D vwCl K zxB zxSt lo (some 139) mC_fail [.ref 0, .int x1] (zhp G) r (zhp G')) (hr : (∃ v, r = .inl (some (.int v))) ∨ r = .inr 2 ∨ r = .inr 1) :
    vx_Met l yL_fail (Jvm.Cond.codeWith yL_fail cL_fail 4 (some .int) [(0, 9, 12, 20), (0, 9, 15, 15)] :: zGw) (zhrm mC_fail) (va_Pc [Value.ref lo, Value.int x1, Value.ref (lo + 139)] (zhPc D K lo cO f (zhp G))) (zhQc D K lo cO (zhf f r) (zhp G') (zhk (zk2 2 1) r)) (fun _ _ _ => False) 1 6 (zA lo (some 140)) := by
  refine vx_ofWH (cc := cL_fail) (maxL := 4) (ret := some .int) (hh := [(0, 9, 12, 20), (0, 9, 15, 15)]) (ws' := zGw) (by decide) rfl ?_
  intro p e s m args below meth c s₁ BL hml hv
  obtain ⟨rfl, hX, hO, hKO⟩ := hv
  have hts0 := atoms_spec (ws := Jvm.Cond.codeWith yL_fail cL_fail 4 (some .int) [(0, 9, 12, 20), (0, 9, 15, 15)] :: zGw) BL.pre
  have hts : ∀ w ∈ zGw, w.before ([Value.ref lo, Value.int x1, Value.ref (lo + 139)]).toArray s = true := fun w hw => hts0 w (List.mem_cons_of_mem _ hw)
  have htab : c.exceptionTable.toList = tableOf [(0, 9, 12, 20), (0, 9, 15, 15)] := vx_table (x := yL_fail) BL (hts0 _ List.mem_cons_self)
  have hown : s.vm.findClass "ShardRebalancerLaw" = some m.cls := findClass_of_methodNamed BL.named
  have hlv := lv_entry [Value.ref lo, Value.int x1, Value.ref (lo + 139)] (n := 4) (Nat.le_of_ble_eq_true rfl)
  rw [lg_entry_eq]
  generalize (lg_sl [Value.ref lo, Value.int x1, Value.ref (lo + 139)] ++ List.replicate (4 - (lg_sl [Value.ref lo, Value.int x1, Value.ref (lo + 139)]).length) Slot.unset).toArray = ls at hlv ⊢
  have hx := BL.exec
  have hb := BL.bytes
  have hret := BL.returns
  have hlk := BL.notSynchronized
  refine lv_aload_n hx hb dL_fail_0 rfl (hlv.2.2 (2, .ref (lo + 139)) (List.mem_of_getElem? (i := 2) rfl)) ?_
  refine lv_iconst (v := 0) hx hb dL_fail_1 rfl ?_
  refine lv_aload_n hx hb dL_fail_2 rfl (hlv.2.2 (0, .ref lo) (List.mem_of_getElem? (i := 0) rfl)) ?_
  refine lv_iload_n hx hb dL_fail_3 rfl (hlv.2.2 (1, .int x1) (List.mem_of_getElem? (i := 1) rfl)) ?_
  refine zhcall (as := [.int x1]) (ci := 7) (ix := 22) (n := 1) (nL := 4) (rest := [.int 0, .ref (lo + 139)]) hM ⟨hx, hb, hml, hown, hts⟩ hX (zob_o (by decide) rfl) rfl rfl hlv.1 rfl ?_ ⟨rfl, by decide +kernel⟩ rfl (Nat.le_of_ble_eq_true rfl) dL_fail_4 (fun v H1 L1 hv hw hs => ?_) (fun x H1 L1 q ce hv hw hs hce hcv hcl => ?_)
  · exact List.forall_mem_cons.mpr ⟨gw_of 529 (by decide +kernel), List.forall_mem_cons.mpr ⟨gw_of 530 (by decide +kernel), List.forall_mem_cons.mpr ⟨gw_of 531 (by decide +kernel), List.forall_mem_cons.mpr ⟨gw_of 1 (by decide +kernel), zwl_in (gw_of 532 (by decide +kernel))⟩⟩⟩⟩
  · subst hv
    rcases hr with ⟨v0, hr⟩ | hr | hr
    · cases hr
      exact zhend hx hb dL_fail_7 dL_fail_8 dL_fail_9 (by decide) dL_fail_18 dL_fail_19 rfl hret hlk hw rfl hX.1.1.2 hs hO hKO
    · cases hr
    · cases hr
  · subst hv
    rcases hr with ⟨v0, hr⟩ | hr | hr
    · cases hr
    · cases hr
      refine vx_catch (own := "ShardRebalancerLaw") (name := zxE 2) (E := zxE 2) hown [] ⟨0, 9, 12, 20⟩ [⟨0, 9, 15, 15⟩] htab (fun z hz => nomatch hz) (by decide) (by decide) (hts _ (gw_of 470 (by decide +kernel))) (va_Nw.use rfl (hX.2.1 (.castable (zxE 2) (zxE 2)) (List.mem_of_getElem? (i := 5) rfl))) hce hcv hcl ?_
      exact zhcatN hx hb dL_fail_12 rfl hlv (by decide) dL_fail_13 (by decide) dL_fail_14 hret hlk hw hs hO
    · cases hr
      refine vx_catch (own := "ShardRebalancerLaw") (name := zxE 1) (E := zxE 1) hown [⟨0, 9, 12, 20⟩] ⟨0, 9, 15, 15⟩ [] htab (List.forall_mem_cons.mpr ⟨Or.inr ⟨by decide, zxE 2, hts _ (gw_of 470 (by decide +kernel)), hX.2.2.1 (1, 2) (by decide)⟩, fun z hz => nomatch hz⟩) (by decide) (by decide) (hts _ (gw_of 342 (by decide +kernel))) (va_Nw.use rfl (hX.2.1 (.castable (zxE 1) (zxE 1)) (List.mem_of_getElem? (i := 4) rfl))) hce hcv hcl ?_
      exact zhcatN hx hb dL_fail_15 rfl hlv (by decide) dL_fail_16 (by decide) dL_fail_17 hret hlk hw hs hO
theorem dL_recover_0 : decode cL_recover 0 = .ok (.aload_n 2, 1) := by decide +kernel
theorem dL_recover_1 : decode cL_recover 1 = .ok (.iconst 0, 1) := by decide +kernel
theorem dL_recover_2 : decode cL_recover 2 = .ok (.aload_n 0, 1) := by decide +kernel
theorem dL_recover_3 : decode cL_recover 3 = .ok (.iload_n 1, 1) := by decide +kernel
theorem dL_recover_4 : decode cL_recover 4 = .ok (.invokevirtual 25, 3) := by decide +kernel
theorem dL_recover_7 : decode cL_recover 7 = .ok (.i2l, 1) := by decide +kernel
theorem dL_recover_8 : decode cL_recover 8 = .ok (.lastore, 1) := by decide +kernel
theorem dL_recover_9 : decode cL_recover 9 = .ok (.goto 9, 3) := by decide +kernel
theorem dL_recover_12 : decode cL_recover 12 = .ok (.astore_n 3, 1) := by decide +kernel
theorem dL_recover_13 : decode cL_recover 13 = .ok (.iconst 1, 1) := by decide +kernel
theorem dL_recover_14 : decode cL_recover 14 = .ok (.ireturn, 1) := by decide +kernel
theorem dL_recover_15 : decode cL_recover 15 = .ok (.astore_n 3, 1) := by decide +kernel
theorem dL_recover_16 : decode cL_recover 16 = .ok (.iconst 2, 1) := by decide +kernel
theorem dL_recover_17 : decode cL_recover 17 = .ok (.ireturn, 1) := by decide +kernel
theorem dL_recover_18 : decode cL_recover 18 = .ok (.iconst 0, 1) := by decide +kernel
theorem dL_recover_19 : decode cL_recover 19 = .ok (.ireturn, 1) := by decide +kernel
theorem zh_recover {f : Nat → Int64} {G G' : Nat → Nat → Int32} {r : zRt} {x1 : Int32} (hM : zxM zGw zNs l D vwCl K zxB zxSt lo (some 139) mC_recover [.ref 0, .int x1] (zhp G) r (zhp G')) (hr : (∃ v, r = .inl (some (.int v))) ∨ r = .inr 2 ∨ r = .inr 1) :
    vx_Met l yL_recover (Jvm.Cond.codeWith yL_recover cL_recover 4 (some .int) [(0, 9, 12, 20), (0, 9, 15, 15)] :: zGw) (zhrm mC_recover) (va_Pc [Value.ref lo, Value.int x1, Value.ref (lo + 139)] (zhPc D K lo cO f (zhp G))) (zhQc D K lo cO (zhf f r) (zhp G') (zhk (zk2 2 1) r)) (fun _ _ _ => False) 1 6 (zA lo (some 140)) := by
  refine vx_ofWH (cc := cL_recover) (maxL := 4) (ret := some .int) (hh := [(0, 9, 12, 20), (0, 9, 15, 15)]) (ws' := zGw) (by decide) rfl ?_
  intro p e s m args below meth c s₁ BL hml hv
  obtain ⟨rfl, hX, hO, hKO⟩ := hv
  have hts0 := atoms_spec (ws := Jvm.Cond.codeWith yL_recover cL_recover 4 (some .int) [(0, 9, 12, 20), (0, 9, 15, 15)] :: zGw) BL.pre
  have hts : ∀ w ∈ zGw, w.before ([Value.ref lo, Value.int x1, Value.ref (lo + 139)]).toArray s = true := fun w hw => hts0 w (List.mem_cons_of_mem _ hw)
  have htab : c.exceptionTable.toList = tableOf [(0, 9, 12, 20), (0, 9, 15, 15)] := vx_table (x := yL_recover) BL (hts0 _ List.mem_cons_self)
  have hown : s.vm.findClass "ShardRebalancerLaw" = some m.cls := findClass_of_methodNamed BL.named
  have hlv := lv_entry [Value.ref lo, Value.int x1, Value.ref (lo + 139)] (n := 4) (Nat.le_of_ble_eq_true rfl)
  rw [lg_entry_eq]
  generalize (lg_sl [Value.ref lo, Value.int x1, Value.ref (lo + 139)] ++ List.replicate (4 - (lg_sl [Value.ref lo, Value.int x1, Value.ref (lo + 139)]).length) Slot.unset).toArray = ls at hlv ⊢
  have hx := BL.exec
  have hb := BL.bytes
  have hret := BL.returns
  have hlk := BL.notSynchronized
  refine lv_aload_n hx hb dL_recover_0 rfl (hlv.2.2 (2, .ref (lo + 139)) (List.mem_of_getElem? (i := 2) rfl)) ?_
  refine lv_iconst (v := 0) hx hb dL_recover_1 rfl ?_
  refine lv_aload_n hx hb dL_recover_2 rfl (hlv.2.2 (0, .ref lo) (List.mem_of_getElem? (i := 0) rfl)) ?_
  refine lv_iload_n hx hb dL_recover_3 rfl (hlv.2.2 (1, .int x1) (List.mem_of_getElem? (i := 1) rfl)) ?_
  refine zhcall (as := [.int x1]) (ci := 7) (ix := 25) (n := 1) (nL := 4) (rest := [.int 0, .ref (lo + 139)]) hM ⟨hx, hb, hml, hown, hts⟩ hX (zob_o (by decide) rfl) rfl rfl hlv.1 rfl ?_ ⟨rfl, by decide +kernel⟩ rfl (Nat.le_of_ble_eq_true rfl) dL_recover_4 (fun v H1 L1 hv hw hs => ?_) (fun x H1 L1 q ce hv hw hs hce hcv hcl => ?_)
  · exact List.forall_mem_cons.mpr ⟨gw_of 541 (by decide +kernel), List.forall_mem_cons.mpr ⟨gw_of 542 (by decide +kernel), List.forall_mem_cons.mpr ⟨gw_of 543 (by decide +kernel), List.forall_mem_cons.mpr ⟨gw_of 1 (by decide +kernel), zwl_in (gw_of 544 (by decide +kernel))⟩⟩⟩⟩
  · subst hv
    rcases hr with ⟨v0, hr⟩ | hr | hr
    · cases hr
      exact zhend hx hb dL_recover_7 dL_recover_8 dL_recover_9 (by decide) dL_recover_18 dL_recover_19 rfl hret hlk hw rfl hX.1.1.2 hs hO hKO
    · cases hr
    · cases hr
  · subst hv
    rcases hr with ⟨v0, hr⟩ | hr | hr
    · cases hr
    · cases hr
      refine vx_catch (own := "ShardRebalancerLaw") (name := zxE 2) (E := zxE 2) hown [] ⟨0, 9, 12, 20⟩ [⟨0, 9, 15, 15⟩] htab (fun z hz => nomatch hz) (by decide) (by decide) (hts _ (gw_of 470 (by decide +kernel))) (va_Nw.use rfl (hX.2.1 (.castable (zxE 2) (zxE 2)) (List.mem_of_getElem? (i := 5) rfl))) hce hcv hcl ?_
      exact zhcatN hx hb dL_recover_12 rfl hlv (by decide) dL_recover_13 (by decide) dL_recover_14 hret hlk hw hs hO
    · cases hr
      refine vx_catch (own := "ShardRebalancerLaw") (name := zxE 1) (E := zxE 1) hown [⟨0, 9, 12, 20⟩] ⟨0, 9, 15, 15⟩ [] htab (List.forall_mem_cons.mpr ⟨Or.inr ⟨by decide, zxE 2, hts _ (gw_of 470 (by decide +kernel)), hX.2.2.1 (1, 2) (by decide)⟩, fun z hz => nomatch hz⟩) (by decide) (by decide) (hts _ (gw_of 342 (by decide +kernel))) (va_Nw.use rfl (hX.2.1 (.castable (zxE 1) (zxE 1)) (List.mem_of_getElem? (i := 4) rfl))) hce hcv hcl ?_
      exact zhcatN hx hb dL_recover_15 rfl hlv (by decide) dL_recover_16 (by decide) dL_recover_17 hret hlk hw hs hO
theorem dL_setWeight_0 : decode cL_setWeight 0 = .ok (.aload_n 3, 1) := by decide +kernel
theorem dL_setWeight_1 : decode cL_setWeight 1 = .ok (.iconst 0, 1) := by decide +kernel
theorem dL_setWeight_2 : decode cL_setWeight 2 = .ok (.aload_n 0, 1) := by decide +kernel
theorem dL_setWeight_3 : decode cL_setWeight 3 = .ok (.iload_n 1, 1) := by decide +kernel
theorem dL_setWeight_4 : decode cL_setWeight 4 = .ok (.iload_n 2, 1) := by decide +kernel
theorem dL_setWeight_5 : decode cL_setWeight 5 = .ok (.invokevirtual 28, 3) := by decide +kernel
theorem dL_setWeight_8 : decode cL_setWeight 8 = .ok (.i2l, 1) := by decide +kernel
theorem dL_setWeight_9 : decode cL_setWeight 9 = .ok (.lastore, 1) := by decide +kernel
theorem dL_setWeight_10 : decode cL_setWeight 10 = .ok (.goto 11, 3) := by decide +kernel
theorem dL_setWeight_13 : decode cL_setWeight 13 = .ok (.astore 4, 2) := by decide +kernel
theorem dL_setWeight_15 : decode cL_setWeight 15 = .ok (.iconst 1, 1) := by decide +kernel
theorem dL_setWeight_16 : decode cL_setWeight 16 = .ok (.ireturn, 1) := by decide +kernel
theorem dL_setWeight_17 : decode cL_setWeight 17 = .ok (.astore 4, 2) := by decide +kernel
theorem dL_setWeight_19 : decode cL_setWeight 19 = .ok (.iconst 2, 1) := by decide +kernel
theorem dL_setWeight_20 : decode cL_setWeight 20 = .ok (.ireturn, 1) := by decide +kernel
theorem dL_setWeight_21 : decode cL_setWeight 21 = .ok (.iconst 0, 1) := by decide +kernel
theorem dL_setWeight_22 : decode cL_setWeight 22 = .ok (.ireturn, 1) := by decide +kernel
theorem zh_setWeight {f : Nat → Int64} {G G' : Nat → Nat → Int32} {r : zRt} {x1 x2 : Int32} (hM : zxM zGw zNs l D vwCl K zxB zxSt lo (some 139) mC_setWeight [.ref 0, .int x1, .int x2] (zhp G) r (zhp G')) (hr : (∃ v, r = .inl (some (.int v))) ∨ r = .inr 2 ∨ r = .inr 0) :
    vx_Met l yL_setWeight (Jvm.Cond.codeWith yL_setWeight cL_setWeight 5 (some .int) [(0, 10, 13, 20), (0, 10, 17, 13)] :: zGw) (zhrm mC_setWeight) (va_Pc [Value.ref lo, Value.int x1, Value.int x2, Value.ref (lo + 139)] (zhPc D K lo cO f (zhp G))) (zhQc D K lo cO (zhf f r) (zhp G') (zhk (zk2 2 0) r)) (fun _ _ _ => False) 1 6 (zA lo (some 140)) := by
  refine vx_ofWH (cc := cL_setWeight) (maxL := 5) (ret := some .int) (hh := [(0, 10, 13, 20), (0, 10, 17, 13)]) (ws' := zGw) (by decide) rfl ?_
  intro p e s m args below meth c s₁ BL hml hv
  obtain ⟨rfl, hX, hO, hKO⟩ := hv
  have hts0 := atoms_spec (ws := Jvm.Cond.codeWith yL_setWeight cL_setWeight 5 (some .int) [(0, 10, 13, 20), (0, 10, 17, 13)] :: zGw) BL.pre
  have hts : ∀ w ∈ zGw, w.before ([Value.ref lo, Value.int x1, Value.int x2, Value.ref (lo + 139)]).toArray s = true := fun w hw => hts0 w (List.mem_cons_of_mem _ hw)
  have htab : c.exceptionTable.toList = tableOf [(0, 10, 13, 20), (0, 10, 17, 13)] := vx_table (x := yL_setWeight) BL (hts0 _ List.mem_cons_self)
  have hown : s.vm.findClass "ShardRebalancerLaw" = some m.cls := findClass_of_methodNamed BL.named
  have hlv := lv_entry [Value.ref lo, Value.int x1, Value.int x2, Value.ref (lo + 139)] (n := 5) (Nat.le_of_ble_eq_true rfl)
  rw [lg_entry_eq]
  generalize (lg_sl [Value.ref lo, Value.int x1, Value.int x2, Value.ref (lo + 139)] ++ List.replicate (5 - (lg_sl [Value.ref lo, Value.int x1, Value.int x2, Value.ref (lo + 139)]).length) Slot.unset).toArray = ls at hlv ⊢
  have hx := BL.exec
  have hb := BL.bytes
  have hret := BL.returns
  have hlk := BL.notSynchronized
  refine lv_aload_n hx hb dL_setWeight_0 rfl (hlv.2.2 (3, .ref (lo + 139)) (List.mem_of_getElem? (i := 3) rfl)) ?_
  refine lv_iconst (v := 0) hx hb dL_setWeight_1 rfl ?_
  refine lv_aload_n hx hb dL_setWeight_2 rfl (hlv.2.2 (0, .ref lo) (List.mem_of_getElem? (i := 0) rfl)) ?_
  refine lv_iload_n hx hb dL_setWeight_3 rfl (hlv.2.2 (1, .int x1) (List.mem_of_getElem? (i := 1) rfl)) ?_
  refine lv_iload_n hx hb dL_setWeight_4 rfl (hlv.2.2 (2, .int x2) (List.mem_of_getElem? (i := 2) rfl)) ?_
  refine zhcall (as := [.int x1, .int x2]) (ci := 7) (ix := 28) (n := 2) (nL := 5) (rest := [.int 0, .ref (lo + 139)]) hM ⟨hx, hb, hml, hown, hts⟩ hX (zob_o (by decide) rfl) rfl rfl hlv.1 rfl ?_ ⟨rfl, by decide +kernel⟩ rfl (Nat.le_of_ble_eq_true rfl) dL_setWeight_5 (fun v H1 L1 hv hw hs => ?_) (fun x H1 L1 q ce hv hw hs hce hcv hcl => ?_)
  · exact List.forall_mem_cons.mpr ⟨gw_of 554 (by decide +kernel), List.forall_mem_cons.mpr ⟨gw_of 555 (by decide +kernel), List.forall_mem_cons.mpr ⟨gw_of 556 (by decide +kernel), List.forall_mem_cons.mpr ⟨gw_of 1 (by decide +kernel), zwl_in (gw_of 557 (by decide +kernel))⟩⟩⟩⟩
  · subst hv
    rcases hr with ⟨v0, hr⟩ | hr | hr
    · cases hr
      exact zhend hx hb dL_setWeight_8 dL_setWeight_9 dL_setWeight_10 (by decide) dL_setWeight_21 dL_setWeight_22 rfl hret hlk hw rfl hX.1.1.2 hs hO hKO
    · cases hr
    · cases hr
  · subst hv
    rcases hr with ⟨v0, hr⟩ | hr | hr
    · cases hr
    · cases hr
      refine vx_catch (own := "ShardRebalancerLaw") (name := zxE 2) (E := zxE 2) hown [] ⟨0, 10, 13, 20⟩ [⟨0, 10, 17, 13⟩] htab (fun z hz => nomatch hz) (by decide) (by decide) (hts _ (gw_of 470 (by decide +kernel))) (va_Nw.use rfl (hX.2.1 (.castable (zxE 2) (zxE 2)) (List.mem_of_getElem? (i := 5) rfl))) hce hcv hcl ?_
      exact zhcatW hx hb dL_setWeight_13 hlv (by decide) dL_setWeight_15 (by decide) dL_setWeight_16 hret hlk hw hs hO
    · cases hr
      refine vx_catch (own := "ShardRebalancerLaw") (name := zxE 0) (E := zxE 0) hown [⟨0, 10, 13, 20⟩] ⟨0, 10, 17, 13⟩ [] htab (List.forall_mem_cons.mpr ⟨Or.inr ⟨by decide, zxE 2, hts _ (gw_of 470 (by decide +kernel)), hX.2.2.1 (0, 2) (by decide)⟩, fun z hz => nomatch hz⟩) (by decide) (by decide) (hts _ (gw_of 341 (by decide +kernel))) (va_Nw.use rfl (hX.2.1 (.castable (zxE 0) (zxE 0)) (List.mem_of_getElem? (i := 3) rfl))) hce hcv hcl ?_
      exact zhcatW hx hb dL_setWeight_17 hlv (by decide) dL_setWeight_19 (by decide) dL_setWeight_20 hret hlk hw hs hO
theorem dL_node_0 : decode cL_node 0 = .ok (.aload_n 3, 1) := by decide +kernel
theorem dL_node_1 : decode cL_node 1 = .ok (.iconst 0, 1) := by decide +kernel
theorem dL_node_2 : decode cL_node 2 = .ok (.aload_n 0, 1) := by decide +kernel
theorem dL_node_3 : decode cL_node 3 = .ok (.iload_n 1, 1) := by decide +kernel
theorem dL_node_4 : decode cL_node 4 = .ok (.iload_n 2, 1) := by decide +kernel
theorem dL_node_5 : decode cL_node 5 = .ok (.invokevirtual 32, 3) := by decide +kernel
theorem dL_node_8 : decode cL_node 8 = .ok (.i2l, 1) := by decide +kernel
theorem dL_node_9 : decode cL_node 9 = .ok (.lastore, 1) := by decide +kernel
theorem dL_node_10 : decode cL_node 10 = .ok (.goto 11, 3) := by decide +kernel
theorem dL_node_13 : decode cL_node 13 = .ok (.astore 4, 2) := by decide +kernel
theorem dL_node_15 : decode cL_node 15 = .ok (.iconst 1, 1) := by decide +kernel
theorem dL_node_16 : decode cL_node 16 = .ok (.ireturn, 1) := by decide +kernel
theorem dL_node_17 : decode cL_node 17 = .ok (.astore 4, 2) := by decide +kernel
theorem dL_node_19 : decode cL_node 19 = .ok (.iconst 2, 1) := by decide +kernel
theorem dL_node_20 : decode cL_node 20 = .ok (.ireturn, 1) := by decide +kernel
theorem dL_node_21 : decode cL_node 21 = .ok (.iconst 0, 1) := by decide +kernel
theorem dL_node_22 : decode cL_node 22 = .ok (.ireturn, 1) := by decide +kernel
theorem zh_node {f : Nat → Int64} {G G' : Nat → Nat → Int32} {r : zRt} {x1 x2 : Int32} (hM : zxM zGw zNs l D vwCl K zxB zxSt lo (some 139) mC_node [.ref 0, .int x1, .int x2] (zhp G) r (zhp G')) (hr : (∃ v, r = .inl (some (.int v))) ∨ r = .inr 2 ∨ r = .inr 0) :
    vx_Met l yL_node (Jvm.Cond.codeWith yL_node cL_node 5 (some .int) [(0, 10, 13, 20), (0, 10, 17, 13)] :: zGw) (zhrm mC_node) (va_Pc [Value.ref lo, Value.int x1, Value.int x2, Value.ref (lo + 139)] (zhPc D K lo cO f (zhp G))) (zhQc D K lo cO (zhf f r) (zhp G') (zhk (zk2 2 0) r)) (fun _ _ _ => False) 1 6 (zA lo (some 140)) := by
  refine vx_ofWH (cc := cL_node) (maxL := 5) (ret := some .int) (hh := [(0, 10, 13, 20), (0, 10, 17, 13)]) (ws' := zGw) (by decide) rfl ?_
  intro p e s m args below meth c s₁ BL hml hv
  obtain ⟨rfl, hX, hO, hKO⟩ := hv
  have hts0 := atoms_spec (ws := Jvm.Cond.codeWith yL_node cL_node 5 (some .int) [(0, 10, 13, 20), (0, 10, 17, 13)] :: zGw) BL.pre
  have hts : ∀ w ∈ zGw, w.before ([Value.ref lo, Value.int x1, Value.int x2, Value.ref (lo + 139)]).toArray s = true := fun w hw => hts0 w (List.mem_cons_of_mem _ hw)
  have htab : c.exceptionTable.toList = tableOf [(0, 10, 13, 20), (0, 10, 17, 13)] := vx_table (x := yL_node) BL (hts0 _ List.mem_cons_self)
  have hown : s.vm.findClass "ShardRebalancerLaw" = some m.cls := findClass_of_methodNamed BL.named
  have hlv := lv_entry [Value.ref lo, Value.int x1, Value.int x2, Value.ref (lo + 139)] (n := 5) (Nat.le_of_ble_eq_true rfl)
  rw [lg_entry_eq]
  generalize (lg_sl [Value.ref lo, Value.int x1, Value.int x2, Value.ref (lo + 139)] ++ List.replicate (5 - (lg_sl [Value.ref lo, Value.int x1, Value.int x2, Value.ref (lo + 139)]).length) Slot.unset).toArray = ls at hlv ⊢
  have hx := BL.exec
  have hb := BL.bytes
  have hret := BL.returns
  have hlk := BL.notSynchronized
  refine lv_aload_n hx hb dL_node_0 rfl (hlv.2.2 (3, .ref (lo + 139)) (List.mem_of_getElem? (i := 3) rfl)) ?_
  refine lv_iconst (v := 0) hx hb dL_node_1 rfl ?_
  refine lv_aload_n hx hb dL_node_2 rfl (hlv.2.2 (0, .ref lo) (List.mem_of_getElem? (i := 0) rfl)) ?_
  refine lv_iload_n hx hb dL_node_3 rfl (hlv.2.2 (1, .int x1) (List.mem_of_getElem? (i := 1) rfl)) ?_
  refine lv_iload_n hx hb dL_node_4 rfl (hlv.2.2 (2, .int x2) (List.mem_of_getElem? (i := 2) rfl)) ?_
  refine zhcall (as := [.int x1, .int x2]) (ci := 7) (ix := 32) (n := 2) (nL := 5) (rest := [.int 0, .ref (lo + 139)]) hM ⟨hx, hb, hml, hown, hts⟩ hX (zob_o (by decide) rfl) rfl rfl hlv.1 rfl ?_ ⟨rfl, by decide +kernel⟩ rfl (Nat.le_of_ble_eq_true rfl) dL_node_5 (fun v H1 L1 hv hw hs => ?_) (fun x H1 L1 q ce hv hw hs hce hcv hcl => ?_)
  · exact List.forall_mem_cons.mpr ⟨gw_of 563 (by decide +kernel), List.forall_mem_cons.mpr ⟨gw_of 564 (by decide +kernel), List.forall_mem_cons.mpr ⟨gw_of 565 (by decide +kernel), List.forall_mem_cons.mpr ⟨gw_of 1 (by decide +kernel), zwl_in (gw_of 566 (by decide +kernel))⟩⟩⟩⟩
  · subst hv
    rcases hr with ⟨v0, hr⟩ | hr | hr
    · cases hr
      exact zhend hx hb dL_node_8 dL_node_9 dL_node_10 (by decide) dL_node_21 dL_node_22 rfl hret hlk hw rfl hX.1.1.2 hs hO hKO
    · cases hr
    · cases hr
  · subst hv
    rcases hr with ⟨v0, hr⟩ | hr | hr
    · cases hr
    · cases hr
      refine vx_catch (own := "ShardRebalancerLaw") (name := zxE 2) (E := zxE 2) hown [] ⟨0, 10, 13, 20⟩ [⟨0, 10, 17, 13⟩] htab (fun z hz => nomatch hz) (by decide) (by decide) (hts _ (gw_of 470 (by decide +kernel))) (va_Nw.use rfl (hX.2.1 (.castable (zxE 2) (zxE 2)) (List.mem_of_getElem? (i := 5) rfl))) hce hcv hcl ?_
      exact zhcatW hx hb dL_node_13 hlv (by decide) dL_node_15 (by decide) dL_node_16 hret hlk hw hs hO
    · cases hr
      refine vx_catch (own := "ShardRebalancerLaw") (name := zxE 0) (E := zxE 0) hown [⟨0, 10, 13, 20⟩] ⟨0, 10, 17, 13⟩ [] htab (List.forall_mem_cons.mpr ⟨Or.inr ⟨by decide, zxE 2, hts _ (gw_of 470 (by decide +kernel)), hX.2.2.1 (0, 2) (by decide)⟩, fun z hz => nomatch hz⟩) (by decide) (by decide) (hts _ (gw_of 341 (by decide +kernel))) (va_Nw.use rfl (hX.2.1 (.castable (zxE 0) (zxE 0)) (List.mem_of_getElem? (i := 3) rfl))) hce hcv hcl ?_
      exact zhcatW hx hb dL_node_17 hlv (by decide) dL_node_19 (by decide) dL_node_20 hret hlk hw hs hO
theorem dL_nodes_0 : decode cL_nodes 0 = .ok (.aload_n 2, 1) := by decide +kernel
theorem dL_nodes_1 : decode cL_nodes 1 = .ok (.iconst 0, 1) := by decide +kernel
theorem dL_nodes_2 : decode cL_nodes 2 = .ok (.aload_n 0, 1) := by decide +kernel
theorem dL_nodes_3 : decode cL_nodes 3 = .ok (.iload_n 1, 1) := by decide +kernel
theorem dL_nodes_4 : decode cL_nodes 4 = .ok (.invokevirtual 35, 3) := by decide +kernel
theorem dL_nodes_7 : decode cL_nodes 7 = .ok (.i2l, 1) := by decide +kernel
theorem dL_nodes_8 : decode cL_nodes 8 = .ok (.lastore, 1) := by decide +kernel
theorem dL_nodes_9 : decode cL_nodes 9 = .ok (.goto 6, 3) := by decide +kernel
theorem dL_nodes_12 : decode cL_nodes 12 = .ok (.astore_n 3, 1) := by decide +kernel
theorem dL_nodes_13 : decode cL_nodes 13 = .ok (.iconst 1, 1) := by decide +kernel
theorem dL_nodes_14 : decode cL_nodes 14 = .ok (.ireturn, 1) := by decide +kernel
theorem dL_nodes_15 : decode cL_nodes 15 = .ok (.iconst 0, 1) := by decide +kernel
theorem dL_nodes_16 : decode cL_nodes 16 = .ok (.ireturn, 1) := by decide +kernel
theorem zh_nodes {f : Nat → Int64} {G G' : Nat → Nat → Int32} {r : zRt} {x1 : Int32} (hM : zxM zGw zNs l D vwCl K zxB zxSt lo (some 139) mC_nodes [.ref 0, .int x1] (zhp G) r (zhp G')) (hr : (∃ v, r = .inl (some (.int v))) ∨ r = .inr 0) :
    vx_Met l yL_nodes (Jvm.Cond.codeWith yL_nodes cL_nodes 4 (some .int) [(0, 9, 12, 13)] :: zGw) (zhrm mC_nodes) (va_Pc [Value.ref lo, Value.int x1, Value.ref (lo + 139)] (zhPc D K lo cO f (zhp G))) (zhQc D K lo cO (zhf f r) (zhp G') (zhk (zk1 0) r)) (fun _ _ _ => False) 1 6 (zA lo (some 140)) := by
  refine vx_ofWH (cc := cL_nodes) (maxL := 4) (ret := some .int) (hh := [(0, 9, 12, 13)]) (ws' := zGw) (by decide) rfl ?_
  intro p e s m args below meth c s₁ BL hml hv
  obtain ⟨rfl, hX, hO, hKO⟩ := hv
  have hts0 := atoms_spec (ws := Jvm.Cond.codeWith yL_nodes cL_nodes 4 (some .int) [(0, 9, 12, 13)] :: zGw) BL.pre
  have hts : ∀ w ∈ zGw, w.before ([Value.ref lo, Value.int x1, Value.ref (lo + 139)]).toArray s = true := fun w hw => hts0 w (List.mem_cons_of_mem _ hw)
  have htab : c.exceptionTable.toList = tableOf [(0, 9, 12, 13)] := vx_table (x := yL_nodes) BL (hts0 _ List.mem_cons_self)
  have hown : s.vm.findClass "ShardRebalancerLaw" = some m.cls := findClass_of_methodNamed BL.named
  have hlv := lv_entry [Value.ref lo, Value.int x1, Value.ref (lo + 139)] (n := 4) (Nat.le_of_ble_eq_true rfl)
  rw [lg_entry_eq]
  generalize (lg_sl [Value.ref lo, Value.int x1, Value.ref (lo + 139)] ++ List.replicate (4 - (lg_sl [Value.ref lo, Value.int x1, Value.ref (lo + 139)]).length) Slot.unset).toArray = ls at hlv ⊢
  have hx := BL.exec
  have hb := BL.bytes
  have hret := BL.returns
  have hlk := BL.notSynchronized
  refine lv_aload_n hx hb dL_nodes_0 rfl (hlv.2.2 (2, .ref (lo + 139)) (List.mem_of_getElem? (i := 2) rfl)) ?_
  refine lv_iconst (v := 0) hx hb dL_nodes_1 rfl ?_
  refine lv_aload_n hx hb dL_nodes_2 rfl (hlv.2.2 (0, .ref lo) (List.mem_of_getElem? (i := 0) rfl)) ?_
  refine lv_iload_n hx hb dL_nodes_3 rfl (hlv.2.2 (1, .int x1) (List.mem_of_getElem? (i := 1) rfl)) ?_
  refine zhcall (as := [.int x1]) (ci := 7) (ix := 35) (n := 1) (nL := 4) (rest := [.int 0, .ref (lo + 139)]) hM ⟨hx, hb, hml, hown, hts⟩ hX (zob_o (by decide) rfl) rfl rfl hlv.1 rfl ?_ ⟨rfl, by decide +kernel⟩ rfl (Nat.le_of_ble_eq_true rfl) dL_nodes_4 (fun v H1 L1 hv hw hs => ?_) (fun x H1 L1 q ce hv hw hs hce hcv hcl => ?_)
  · exact List.forall_mem_cons.mpr ⟨gw_of 596 (by decide +kernel), List.forall_mem_cons.mpr ⟨gw_of 597 (by decide +kernel), List.forall_mem_cons.mpr ⟨gw_of 598 (by decide +kernel), List.forall_mem_cons.mpr ⟨gw_of 1 (by decide +kernel), zwl_in (gw_of 599 (by decide +kernel))⟩⟩⟩⟩
  · subst hv
    rcases hr with ⟨v0, hr⟩ | hr
    · cases hr
      exact zhend hx hb dL_nodes_7 dL_nodes_8 dL_nodes_9 (by decide) dL_nodes_15 dL_nodes_16 rfl hret hlk hw rfl hX.1.1.2 hs hO hKO
    · cases hr
  · subst hv
    rcases hr with ⟨v0, hr⟩ | hr
    · cases hr
    · cases hr
      refine vx_catch (own := "ShardRebalancerLaw") (name := zxE 0) (E := zxE 0) hown [] ⟨0, 9, 12, 13⟩ [] htab (fun z hz => nomatch hz) (by decide) (by decide) (hts _ (gw_of 341 (by decide +kernel))) (va_Nw.use rfl (hX.2.1 (.castable (zxE 0) (zxE 0)) (List.mem_of_getElem? (i := 3) rfl))) hce hcv hcl ?_
      exact zhcatN hx hb dL_nodes_12 rfl hlv (by decide) dL_nodes_13 (by decide) dL_nodes_14 hret hlk hw hs hO
theorem dL_set_0 : decode cL_set 0 = .ok (.aload_n 3, 1) := by decide +kernel
theorem dL_set_1 : decode cL_set 1 = .ok (.iconst 0, 1) := by decide +kernel
theorem dL_set_2 : decode cL_set 2 = .ok (.aload_n 0, 1) := by decide +kernel
theorem dL_set_3 : decode cL_set 3 = .ok (.iload_n 1, 1) := by decide +kernel
theorem dL_set_4 : decode cL_set 4 = .ok (.iload_n 2, 1) := by decide +kernel
theorem dL_set_5 : decode cL_set 5 = .ok (.invokevirtual 38, 3) := by decide +kernel
theorem dL_set_8 : decode cL_set 8 = .ok (.i2l, 1) := by decide +kernel
theorem dL_set_9 : decode cL_set 9 = .ok (.lastore, 1) := by decide +kernel
theorem dL_set_10 : decode cL_set 10 = .ok (.goto 7, 3) := by decide +kernel
theorem dL_set_13 : decode cL_set 13 = .ok (.astore 4, 2) := by decide +kernel
theorem dL_set_15 : decode cL_set 15 = .ok (.iconst 1, 1) := by decide +kernel
theorem dL_set_16 : decode cL_set 16 = .ok (.ireturn, 1) := by decide +kernel
theorem dL_set_17 : decode cL_set 17 = .ok (.iconst 0, 1) := by decide +kernel
theorem dL_set_18 : decode cL_set 18 = .ok (.ireturn, 1) := by decide +kernel
theorem zh_set {f : Nat → Int64} {G G' : Nat → Nat → Int32} {r : zRt} {x1 x2 : Int32} (hM : zxM zGw zNs l D vwCl K zxB zxSt lo (some 139) mC_set [.ref 0, .int x1, .int x2] (zhp G) r (zhp G')) (hr : (∃ v, r = .inl (some (.int v))) ∨ r = .inr 0) :
    vx_Met l yL_set (Jvm.Cond.codeWith yL_set cL_set 5 (some .int) [(0, 10, 13, 13)] :: zGw) (zhrm mC_set) (va_Pc [Value.ref lo, Value.int x1, Value.int x2, Value.ref (lo + 139)] (zhPc D K lo cO f (zhp G))) (zhQc D K lo cO (zhf f r) (zhp G') (zhk (zk1 0) r)) (fun _ _ _ => False) 1 6 (zA lo (some 140)) := by
  refine vx_ofWH (cc := cL_set) (maxL := 5) (ret := some .int) (hh := [(0, 10, 13, 13)]) (ws' := zGw) (by decide) rfl ?_
  intro p e s m args below meth c s₁ BL hml hv
  obtain ⟨rfl, hX, hO, hKO⟩ := hv
  have hts0 := atoms_spec (ws := Jvm.Cond.codeWith yL_set cL_set 5 (some .int) [(0, 10, 13, 13)] :: zGw) BL.pre
  have hts : ∀ w ∈ zGw, w.before ([Value.ref lo, Value.int x1, Value.int x2, Value.ref (lo + 139)]).toArray s = true := fun w hw => hts0 w (List.mem_cons_of_mem _ hw)
  have htab : c.exceptionTable.toList = tableOf [(0, 10, 13, 13)] := vx_table (x := yL_set) BL (hts0 _ List.mem_cons_self)
  have hown : s.vm.findClass "ShardRebalancerLaw" = some m.cls := findClass_of_methodNamed BL.named
  have hlv := lv_entry [Value.ref lo, Value.int x1, Value.int x2, Value.ref (lo + 139)] (n := 5) (Nat.le_of_ble_eq_true rfl)
  rw [lg_entry_eq]
  generalize (lg_sl [Value.ref lo, Value.int x1, Value.int x2, Value.ref (lo + 139)] ++ List.replicate (5 - (lg_sl [Value.ref lo, Value.int x1, Value.int x2, Value.ref (lo + 139)]).length) Slot.unset).toArray = ls at hlv ⊢
  have hx := BL.exec
  have hb := BL.bytes
  have hret := BL.returns
  have hlk := BL.notSynchronized
  refine lv_aload_n hx hb dL_set_0 rfl (hlv.2.2 (3, .ref (lo + 139)) (List.mem_of_getElem? (i := 3) rfl)) ?_
  refine lv_iconst (v := 0) hx hb dL_set_1 rfl ?_
  refine lv_aload_n hx hb dL_set_2 rfl (hlv.2.2 (0, .ref lo) (List.mem_of_getElem? (i := 0) rfl)) ?_
  refine lv_iload_n hx hb dL_set_3 rfl (hlv.2.2 (1, .int x1) (List.mem_of_getElem? (i := 1) rfl)) ?_
  refine lv_iload_n hx hb dL_set_4 rfl (hlv.2.2 (2, .int x2) (List.mem_of_getElem? (i := 2) rfl)) ?_
  refine zhcall (as := [.int x1, .int x2]) (ci := 7) (ix := 38) (n := 2) (nL := 5) (rest := [.int 0, .ref (lo + 139)]) hM ⟨hx, hb, hml, hown, hts⟩ hX (zob_o (by decide) rfl) rfl rfl hlv.1 rfl ?_ ⟨rfl, by decide +kernel⟩ rfl (Nat.le_of_ble_eq_true rfl) dL_set_5 (fun v H1 L1 hv hw hs => ?_) (fun x H1 L1 q ce hv hw hs hce hcv hcl => ?_)
  · exact List.forall_mem_cons.mpr ⟨gw_of 605 (by decide +kernel), List.forall_mem_cons.mpr ⟨gw_of 606 (by decide +kernel), List.forall_mem_cons.mpr ⟨gw_of 607 (by decide +kernel), List.forall_mem_cons.mpr ⟨gw_of 1 (by decide +kernel), zwl_in (gw_of 608 (by decide +kernel))⟩⟩⟩⟩
  · subst hv
    rcases hr with ⟨v0, hr⟩ | hr
    · cases hr
      exact zhend hx hb dL_set_8 dL_set_9 dL_set_10 (by decide) dL_set_17 dL_set_18 rfl hret hlk hw rfl hX.1.1.2 hs hO hKO
    · cases hr
  · subst hv
    rcases hr with ⟨v0, hr⟩ | hr
    · cases hr
    · cases hr
      refine vx_catch (own := "ShardRebalancerLaw") (name := zxE 0) (E := zxE 0) hown [] ⟨0, 10, 13, 13⟩ [] htab (fun z hz => nomatch hz) (by decide) (by decide) (hts _ (gw_of 341 (by decide +kernel))) (va_Nw.use rfl (hX.2.1 (.castable (zxE 0) (zxE 0)) (List.mem_of_getElem? (i := 3) rfl))) hce hcv hcl ?_
      exact zhcatW hx hb dL_set_13 hlv (by decide) dL_set_15 (by decide) dL_set_16 hret hlk hw hs hO
theorem dL_point_0 : decode cL_point 0 = .ok (.aload_n 3, 1) := by decide +kernel
theorem dL_point_1 : decode cL_point 1 = .ok (.iconst 0, 1) := by decide +kernel
theorem dL_point_2 : decode cL_point 2 = .ok (.aload_n 0, 1) := by decide +kernel
theorem dL_point_3 : decode cL_point 3 = .ok (.iload_n 1, 1) := by decide +kernel
theorem dL_point_4 : decode cL_point 4 = .ok (.iload_n 2, 1) := by decide +kernel
theorem dL_point_5 : decode cL_point 5 = .ok (.invokevirtual 41, 3) := by decide +kernel
theorem dL_point_8 : decode cL_point 8 = .ok (.i2l, 1) := by decide +kernel
theorem dL_point_9 : decode cL_point 9 = .ok (.lastore, 1) := by decide +kernel
theorem dL_point_10 : decode cL_point 10 = .ok (.goto 11, 3) := by decide +kernel
theorem dL_point_13 : decode cL_point 13 = .ok (.astore 4, 2) := by decide +kernel
theorem dL_point_15 : decode cL_point 15 = .ok (.iconst 1, 1) := by decide +kernel
theorem dL_point_16 : decode cL_point 16 = .ok (.ireturn, 1) := by decide +kernel
theorem dL_point_17 : decode cL_point 17 = .ok (.astore 4, 2) := by decide +kernel
theorem dL_point_19 : decode cL_point 19 = .ok (.iconst 2, 1) := by decide +kernel
theorem dL_point_20 : decode cL_point 20 = .ok (.ireturn, 1) := by decide +kernel
theorem dL_point_21 : decode cL_point 21 = .ok (.iconst 0, 1) := by decide +kernel
theorem dL_point_22 : decode cL_point 22 = .ok (.ireturn, 1) := by decide +kernel
theorem zh_point {f : Nat → Int64} {G G' : Nat → Nat → Int32} {r : zRt} {x1 x2 : Int32} (hM : zxM zGw zNs l D vwCl K zxB zxSt lo (some 139) mC_point [.ref 0, .int x1, .int x2] (zhp G) r (zhp G')) (hr : (∃ v, r = .inl (some (.int v))) ∨ r = .inr 2 ∨ r = .inr 0) :
    vx_Met l yL_point (Jvm.Cond.codeWith yL_point cL_point 5 (some .int) [(0, 10, 13, 20), (0, 10, 17, 13)] :: zGw) (zhrm mC_point) (va_Pc [Value.ref lo, Value.int x1, Value.int x2, Value.ref (lo + 139)] (zhPc D K lo cO f (zhp G))) (zhQc D K lo cO (zhf f r) (zhp G') (zhk (zk2 2 0) r)) (fun _ _ _ => False) 1 6 (zA lo (some 140)) := by
  refine vx_ofWH (cc := cL_point) (maxL := 5) (ret := some .int) (hh := [(0, 10, 13, 20), (0, 10, 17, 13)]) (ws' := zGw) (by decide) rfl ?_
  intro p e s m args below meth c s₁ BL hml hv
  obtain ⟨rfl, hX, hO, hKO⟩ := hv
  have hts0 := atoms_spec (ws := Jvm.Cond.codeWith yL_point cL_point 5 (some .int) [(0, 10, 13, 20), (0, 10, 17, 13)] :: zGw) BL.pre
  have hts : ∀ w ∈ zGw, w.before ([Value.ref lo, Value.int x1, Value.int x2, Value.ref (lo + 139)]).toArray s = true := fun w hw => hts0 w (List.mem_cons_of_mem _ hw)
  have htab : c.exceptionTable.toList = tableOf [(0, 10, 13, 20), (0, 10, 17, 13)] := vx_table (x := yL_point) BL (hts0 _ List.mem_cons_self)
  have hown : s.vm.findClass "ShardRebalancerLaw" = some m.cls := findClass_of_methodNamed BL.named
  have hlv := lv_entry [Value.ref lo, Value.int x1, Value.int x2, Value.ref (lo + 139)] (n := 5) (Nat.le_of_ble_eq_true rfl)
  rw [lg_entry_eq]
  generalize (lg_sl [Value.ref lo, Value.int x1, Value.int x2, Value.ref (lo + 139)] ++ List.replicate (5 - (lg_sl [Value.ref lo, Value.int x1, Value.int x2, Value.ref (lo + 139)]).length) Slot.unset).toArray = ls at hlv ⊢
  have hx := BL.exec
  have hb := BL.bytes
  have hret := BL.returns
  have hlk := BL.notSynchronized
  refine lv_aload_n hx hb dL_point_0 rfl (hlv.2.2 (3, .ref (lo + 139)) (List.mem_of_getElem? (i := 3) rfl)) ?_
  refine lv_iconst (v := 0) hx hb dL_point_1 rfl ?_
  refine lv_aload_n hx hb dL_point_2 rfl (hlv.2.2 (0, .ref lo) (List.mem_of_getElem? (i := 0) rfl)) ?_
  refine lv_iload_n hx hb dL_point_3 rfl (hlv.2.2 (1, .int x1) (List.mem_of_getElem? (i := 1) rfl)) ?_
  refine lv_iload_n hx hb dL_point_4 rfl (hlv.2.2 (2, .int x2) (List.mem_of_getElem? (i := 2) rfl)) ?_
  refine zhcall (as := [.int x1, .int x2]) (ci := 7) (ix := 41) (n := 2) (nL := 5) (rest := [.int 0, .ref (lo + 139)]) hM ⟨hx, hb, hml, hown, hts⟩ hX (zob_o (by decide) rfl) rfl rfl hlv.1 rfl ?_ ⟨rfl, by decide +kernel⟩ rfl (Nat.le_of_ble_eq_true rfl) dL_point_5 (fun v H1 L1 hv hw hs => ?_) (fun x H1 L1 q ce hv hw hs hce hcv hcl => ?_)
  · exact List.forall_mem_cons.mpr ⟨gw_of 616 (by decide +kernel), List.forall_mem_cons.mpr ⟨gw_of 617 (by decide +kernel), List.forall_mem_cons.mpr ⟨gw_of 618 (by decide +kernel), List.forall_mem_cons.mpr ⟨gw_of 1 (by decide +kernel), zwl_in (gw_of 619 (by decide +kernel))⟩⟩⟩⟩
  · subst hv
    rcases hr with ⟨v0, hr⟩ | hr | hr
    · cases hr
      exact zhend hx hb dL_point_8 dL_point_9 dL_point_10 (by decide) dL_point_21 dL_point_22 rfl hret hlk hw rfl hX.1.1.2 hs hO hKO
    · cases hr
    · cases hr
  · subst hv
    rcases hr with ⟨v0, hr⟩ | hr | hr
    · cases hr
    · cases hr
      refine vx_catch (own := "ShardRebalancerLaw") (name := zxE 2) (E := zxE 2) hown [] ⟨0, 10, 13, 20⟩ [⟨0, 10, 17, 13⟩] htab (fun z hz => nomatch hz) (by decide) (by decide) (hts _ (gw_of 470 (by decide +kernel))) (va_Nw.use rfl (hX.2.1 (.castable (zxE 2) (zxE 2)) (List.mem_of_getElem? (i := 5) rfl))) hce hcv hcl ?_
      exact zhcatW hx hb dL_point_13 hlv (by decide) dL_point_15 (by decide) dL_point_16 hret hlk hw hs hO
    · cases hr
      refine vx_catch (own := "ShardRebalancerLaw") (name := zxE 0) (E := zxE 0) hown [⟨0, 10, 13, 20⟩] ⟨0, 10, 17, 13⟩ [] htab (List.forall_mem_cons.mpr ⟨Or.inr ⟨by decide, zxE 2, hts _ (gw_of 470 (by decide +kernel)), hX.2.2.1 (0, 2) (by decide)⟩, fun z hz => nomatch hz⟩) (by decide) (by decide) (hts _ (gw_of 341 (by decide +kernel))) (va_Nw.use rfl (hX.2.1 (.castable (zxE 0) (zxE 0)) (List.mem_of_getElem? (i := 3) rfl))) hce hcv hcl ?_
      exact zhcatW hx hb dL_point_17 hlv (by decide) dL_point_19 (by decide) dL_point_20 hret hlk hw hs hO
theorem dL_successor_0 : decode cL_successor 0 = .ok (.aload_n 2, 1) := by decide +kernel
theorem dL_successor_1 : decode cL_successor 1 = .ok (.iconst 0, 1) := by decide +kernel
theorem dL_successor_2 : decode cL_successor 2 = .ok (.aload_n 0, 1) := by decide +kernel
theorem dL_successor_3 : decode cL_successor 3 = .ok (.iload_n 1, 1) := by decide +kernel
theorem dL_successor_4 : decode cL_successor 4 = .ok (.invokevirtual 44, 3) := by decide +kernel
theorem dL_successor_7 : decode cL_successor 7 = .ok (.i2l, 1) := by decide +kernel
theorem dL_successor_8 : decode cL_successor 8 = .ok (.lastore, 1) := by decide +kernel
theorem dL_successor_9 : decode cL_successor 9 = .ok (.goto 9, 3) := by decide +kernel
theorem dL_successor_12 : decode cL_successor 12 = .ok (.astore_n 3, 1) := by decide +kernel
theorem dL_successor_13 : decode cL_successor 13 = .ok (.iconst 1, 1) := by decide +kernel
theorem dL_successor_14 : decode cL_successor 14 = .ok (.ireturn, 1) := by decide +kernel
theorem dL_successor_15 : decode cL_successor 15 = .ok (.astore_n 3, 1) := by decide +kernel
theorem dL_successor_16 : decode cL_successor 16 = .ok (.iconst 2, 1) := by decide +kernel
theorem dL_successor_17 : decode cL_successor 17 = .ok (.ireturn, 1) := by decide +kernel
theorem dL_successor_18 : decode cL_successor 18 = .ok (.iconst 0, 1) := by decide +kernel
theorem dL_successor_19 : decode cL_successor 19 = .ok (.ireturn, 1) := by decide +kernel
theorem zh_successor {f : Nat → Int64} {G G' : Nat → Nat → Int32} {r : zRt} {x1 : Int32} (hM : zxM zGw zNs l D vwCl K zxB zxSt lo (some 139) mC_successor [.ref 0, .int x1] (zhp G) r (zhp G')) (hr : (∃ v, r = .inl (some (.int v))) ∨ r = .inr 0 ∨ r = .inr 3) :
    vx_Met l yL_successor (Jvm.Cond.codeWith yL_successor cL_successor 4 (some .int) [(0, 9, 12, 13), (0, 9, 15, 47)] :: zGw) (zhrm mC_successor) (va_Pc [Value.ref lo, Value.int x1, Value.ref (lo + 139)] (zhPc D K lo cO f (zhp G))) (zhQc D K lo cO (zhf f r) (zhp G') (zhk (zk2 0 3) r)) (fun _ _ _ => False) 1 6 (zA lo (some 140)) := by
  refine vx_ofWH (cc := cL_successor) (maxL := 4) (ret := some .int) (hh := [(0, 9, 12, 13), (0, 9, 15, 47)]) (ws' := zGw) (by decide) rfl ?_
  intro p e s m args below meth c s₁ BL hml hv
  obtain ⟨rfl, hX, hO, hKO⟩ := hv
  have hts0 := atoms_spec (ws := Jvm.Cond.codeWith yL_successor cL_successor 4 (some .int) [(0, 9, 12, 13), (0, 9, 15, 47)] :: zGw) BL.pre
  have hts : ∀ w ∈ zGw, w.before ([Value.ref lo, Value.int x1, Value.ref (lo + 139)]).toArray s = true := fun w hw => hts0 w (List.mem_cons_of_mem _ hw)
  have htab : c.exceptionTable.toList = tableOf [(0, 9, 12, 13), (0, 9, 15, 47)] := vx_table (x := yL_successor) BL (hts0 _ List.mem_cons_self)
  have hown : s.vm.findClass "ShardRebalancerLaw" = some m.cls := findClass_of_methodNamed BL.named
  have hlv := lv_entry [Value.ref lo, Value.int x1, Value.ref (lo + 139)] (n := 4) (Nat.le_of_ble_eq_true rfl)
  rw [lg_entry_eq]
  generalize (lg_sl [Value.ref lo, Value.int x1, Value.ref (lo + 139)] ++ List.replicate (4 - (lg_sl [Value.ref lo, Value.int x1, Value.ref (lo + 139)]).length) Slot.unset).toArray = ls at hlv ⊢
  have hx := BL.exec
  have hb := BL.bytes
  have hret := BL.returns
  have hlk := BL.notSynchronized
  refine lv_aload_n hx hb dL_successor_0 rfl (hlv.2.2 (2, .ref (lo + 139)) (List.mem_of_getElem? (i := 2) rfl)) ?_
  refine lv_iconst (v := 0) hx hb dL_successor_1 rfl ?_
  refine lv_aload_n hx hb dL_successor_2 rfl (hlv.2.2 (0, .ref lo) (List.mem_of_getElem? (i := 0) rfl)) ?_
  refine lv_iload_n hx hb dL_successor_3 rfl (hlv.2.2 (1, .int x1) (List.mem_of_getElem? (i := 1) rfl)) ?_
  refine zhcall (as := [.int x1]) (ci := 7) (ix := 44) (n := 1) (nL := 4) (rest := [.int 0, .ref (lo + 139)]) hM ⟨hx, hb, hml, hown, hts⟩ hX (zob_o (by decide) rfl) rfl rfl hlv.1 rfl ?_ ⟨rfl, by decide +kernel⟩ rfl (Nat.le_of_ble_eq_true rfl) dL_successor_4 (fun v H1 L1 hv hw hs => ?_) (fun x H1 L1 q ce hv hw hs hce hcv hcl => ?_)
  · exact List.forall_mem_cons.mpr ⟨gw_of 629 (by decide +kernel), List.forall_mem_cons.mpr ⟨gw_of 630 (by decide +kernel), List.forall_mem_cons.mpr ⟨gw_of 631 (by decide +kernel), List.forall_mem_cons.mpr ⟨gw_of 1 (by decide +kernel), zwl_in (gw_of 632 (by decide +kernel))⟩⟩⟩⟩
  · subst hv
    rcases hr with ⟨v0, hr⟩ | hr | hr
    · cases hr
      exact zhend hx hb dL_successor_7 dL_successor_8 dL_successor_9 (by decide) dL_successor_18 dL_successor_19 rfl hret hlk hw rfl hX.1.1.2 hs hO hKO
    · cases hr
    · cases hr
  · subst hv
    rcases hr with ⟨v0, hr⟩ | hr | hr
    · cases hr
    · cases hr
      refine vx_catch (own := "ShardRebalancerLaw") (name := zxE 0) (E := zxE 0) hown [] ⟨0, 9, 12, 13⟩ [⟨0, 9, 15, 47⟩] htab (fun z hz => nomatch hz) (by decide) (by decide) (hts _ (gw_of 341 (by decide +kernel))) (va_Nw.use rfl (hX.2.1 (.castable (zxE 0) (zxE 0)) (List.mem_of_getElem? (i := 3) rfl))) hce hcv hcl ?_
      exact zhcatN hx hb dL_successor_12 rfl hlv (by decide) dL_successor_13 (by decide) dL_successor_14 hret hlk hw hs hO
    · cases hr
      refine vx_catch (own := "ShardRebalancerLaw") (name := zxE 3) (E := zxE 3) hown [⟨0, 9, 12, 13⟩] ⟨0, 9, 15, 47⟩ [] htab (List.forall_mem_cons.mpr ⟨Or.inr ⟨by decide, zxE 0, hts _ (gw_of 341 (by decide +kernel)), hX.2.2.1 (3, 0) (by decide)⟩, fun z hz => nomatch hz⟩) (by decide) (by decide) (hts _ (gw_of 628 (by decide +kernel))) (va_Nw.use rfl (hX.2.1 (.castable (zxE 3) (zxE 3)) (List.mem_of_getElem? (i := 6) rfl))) hce hcv hcl ?_
      exact zhcatN hx hb dL_successor_15 rfl hlv (by decide) dL_successor_16 (by decide) dL_successor_17 hret hlk hw hs hO
theorem dL_shard_0 : decode cL_shard 0 = .ok (.aload_n 3, 1) := by decide +kernel
theorem dL_shard_1 : decode cL_shard 1 = .ok (.iconst 0, 1) := by decide +kernel
theorem dL_shard_2 : decode cL_shard 2 = .ok (.aload_n 0, 1) := by decide +kernel
theorem dL_shard_3 : decode cL_shard 3 = .ok (.iload_n 1, 1) := by decide +kernel
theorem dL_shard_4 : decode cL_shard 4 = .ok (.iload_n 2, 1) := by decide +kernel
theorem dL_shard_5 : decode cL_shard 5 = .ok (.invokevirtual 49, 3) := by decide +kernel
theorem dL_shard_8 : decode cL_shard 8 = .ok (.i2l, 1) := by decide +kernel
theorem dL_shard_9 : decode cL_shard 9 = .ok (.lastore, 1) := by decide +kernel
theorem dL_shard_10 : decode cL_shard 10 = .ok (.goto 11, 3) := by decide +kernel
theorem dL_shard_13 : decode cL_shard 13 = .ok (.astore 4, 2) := by decide +kernel
theorem dL_shard_15 : decode cL_shard 15 = .ok (.iconst 1, 1) := by decide +kernel
theorem dL_shard_16 : decode cL_shard 16 = .ok (.ireturn, 1) := by decide +kernel
theorem dL_shard_17 : decode cL_shard 17 = .ok (.astore 4, 2) := by decide +kernel
theorem dL_shard_19 : decode cL_shard 19 = .ok (.iconst 2, 1) := by decide +kernel
theorem dL_shard_20 : decode cL_shard 20 = .ok (.ireturn, 1) := by decide +kernel
theorem dL_shard_21 : decode cL_shard 21 = .ok (.iconst 0, 1) := by decide +kernel
theorem dL_shard_22 : decode cL_shard 22 = .ok (.ireturn, 1) := by decide +kernel
theorem zh_shard {f : Nat → Int64} {G G' : Nat → Nat → Int32} {r : zRt} {x1 x2 : Int32} (hM : zxM zGw zNs l D vwCl K zxB zxSt lo (some 139) mC_shard [.ref 0, .int x1, .int x2] (zhp G) r (zhp G')) (hr : (∃ v, r = .inl (some (.int v))) ∨ r = .inr 2 ∨ r = .inr 0) :
    vx_Met l yL_shard (Jvm.Cond.codeWith yL_shard cL_shard 5 (some .int) [(0, 10, 13, 20), (0, 10, 17, 13)] :: zGw) (zhrm mC_shard) (va_Pc [Value.ref lo, Value.int x1, Value.int x2, Value.ref (lo + 139)] (zhPc D K lo cO f (zhp G))) (zhQc D K lo cO (zhf f r) (zhp G') (zhk (zk2 2 0) r)) (fun _ _ _ => False) 1 6 (zA lo (some 140)) := by
  refine vx_ofWH (cc := cL_shard) (maxL := 5) (ret := some .int) (hh := [(0, 10, 13, 20), (0, 10, 17, 13)]) (ws' := zGw) (by decide) rfl ?_
  intro p e s m args below meth c s₁ BL hml hv
  obtain ⟨rfl, hX, hO, hKO⟩ := hv
  have hts0 := atoms_spec (ws := Jvm.Cond.codeWith yL_shard cL_shard 5 (some .int) [(0, 10, 13, 20), (0, 10, 17, 13)] :: zGw) BL.pre
  have hts : ∀ w ∈ zGw, w.before ([Value.ref lo, Value.int x1, Value.int x2, Value.ref (lo + 139)]).toArray s = true := fun w hw => hts0 w (List.mem_cons_of_mem _ hw)
  have htab : c.exceptionTable.toList = tableOf [(0, 10, 13, 20), (0, 10, 17, 13)] := vx_table (x := yL_shard) BL (hts0 _ List.mem_cons_self)
  have hown : s.vm.findClass "ShardRebalancerLaw" = some m.cls := findClass_of_methodNamed BL.named
  have hlv := lv_entry [Value.ref lo, Value.int x1, Value.int x2, Value.ref (lo + 139)] (n := 5) (Nat.le_of_ble_eq_true rfl)
  rw [lg_entry_eq]
  generalize (lg_sl [Value.ref lo, Value.int x1, Value.int x2, Value.ref (lo + 139)] ++ List.replicate (5 - (lg_sl [Value.ref lo, Value.int x1, Value.int x2, Value.ref (lo + 139)]).length) Slot.unset).toArray = ls at hlv ⊢
  have hx := BL.exec
  have hb := BL.bytes
  have hret := BL.returns
  have hlk := BL.notSynchronized
  refine lv_aload_n hx hb dL_shard_0 rfl (hlv.2.2 (3, .ref (lo + 139)) (List.mem_of_getElem? (i := 3) rfl)) ?_
  refine lv_iconst (v := 0) hx hb dL_shard_1 rfl ?_
  refine lv_aload_n hx hb dL_shard_2 rfl (hlv.2.2 (0, .ref lo) (List.mem_of_getElem? (i := 0) rfl)) ?_
  refine lv_iload_n hx hb dL_shard_3 rfl (hlv.2.2 (1, .int x1) (List.mem_of_getElem? (i := 1) rfl)) ?_
  refine lv_iload_n hx hb dL_shard_4 rfl (hlv.2.2 (2, .int x2) (List.mem_of_getElem? (i := 2) rfl)) ?_
  refine zhcall (as := [.int x1, .int x2]) (ci := 7) (ix := 49) (n := 2) (nL := 5) (rest := [.int 0, .ref (lo + 139)]) hM ⟨hx, hb, hml, hown, hts⟩ hX (zob_o (by decide) rfl) rfl rfl hlv.1 rfl ?_ ⟨rfl, by decide +kernel⟩ rfl (Nat.le_of_ble_eq_true rfl) dL_shard_5 (fun v H1 L1 hv hw hs => ?_) (fun x H1 L1 q ce hv hw hs hce hcv hcl => ?_)
  · exact List.forall_mem_cons.mpr ⟨gw_of 654 (by decide +kernel), List.forall_mem_cons.mpr ⟨gw_of 655 (by decide +kernel), List.forall_mem_cons.mpr ⟨gw_of 656 (by decide +kernel), List.forall_mem_cons.mpr ⟨gw_of 1 (by decide +kernel), zwl_in (gw_of 657 (by decide +kernel))⟩⟩⟩⟩
  · subst hv
    rcases hr with ⟨v0, hr⟩ | hr | hr
    · cases hr
      exact zhend hx hb dL_shard_8 dL_shard_9 dL_shard_10 (by decide) dL_shard_21 dL_shard_22 rfl hret hlk hw rfl hX.1.1.2 hs hO hKO
    · cases hr
    · cases hr
  · subst hv
    rcases hr with ⟨v0, hr⟩ | hr | hr
    · cases hr
    · cases hr
      refine vx_catch (own := "ShardRebalancerLaw") (name := zxE 2) (E := zxE 2) hown [] ⟨0, 10, 13, 20⟩ [⟨0, 10, 17, 13⟩] htab (fun z hz => nomatch hz) (by decide) (by decide) (hts _ (gw_of 470 (by decide +kernel))) (va_Nw.use rfl (hX.2.1 (.castable (zxE 2) (zxE 2)) (List.mem_of_getElem? (i := 5) rfl))) hce hcv hcl ?_
      exact zhcatW hx hb dL_shard_13 hlv (by decide) dL_shard_15 (by decide) dL_shard_16 hret hlk hw hs hO
    · cases hr
      refine vx_catch (own := "ShardRebalancerLaw") (name := zxE 0) (E := zxE 0) hown [⟨0, 10, 13, 20⟩] ⟨0, 10, 17, 13⟩ [] htab (List.forall_mem_cons.mpr ⟨Or.inr ⟨by decide, zxE 2, hts _ (gw_of 470 (by decide +kernel)), hX.2.2.1 (0, 2) (by decide)⟩, fun z hz => nomatch hz⟩) (by decide) (by decide) (hts _ (gw_of 341 (by decide +kernel))) (va_Nw.use rfl (hX.2.1 (.castable (zxE 0) (zxE 0)) (List.mem_of_getElem? (i := 3) rfl))) hce hcv hcl ?_
      exact zhcatW hx hb dL_shard_17 hlv (by decide) dL_shard_19 (by decide) dL_shard_20 hret hlk hw hs hO
theorem dL_route_0 : decode cL_route 0 = .ok (.aload_n 2, 1) := by decide +kernel
theorem dL_route_1 : decode cL_route 1 = .ok (.iconst 0, 1) := by decide +kernel
theorem dL_route_2 : decode cL_route 2 = .ok (.aload_n 0, 1) := by decide +kernel
theorem dL_route_3 : decode cL_route 3 = .ok (.iload_n 1, 1) := by decide +kernel
theorem dL_route_4 : decode cL_route 4 = .ok (.invokevirtual 52, 3) := by decide +kernel
theorem dL_route_7 : decode cL_route 7 = .ok (.i2l, 1) := by decide +kernel
theorem dL_route_8 : decode cL_route 8 = .ok (.lastore, 1) := by decide +kernel
theorem dL_route_9 : decode cL_route 9 = .ok (.goto 6, 3) := by decide +kernel
theorem dL_route_12 : decode cL_route 12 = .ok (.astore_n 3, 1) := by decide +kernel
theorem dL_route_13 : decode cL_route 13 = .ok (.iconst 1, 1) := by decide +kernel
theorem dL_route_14 : decode cL_route 14 = .ok (.ireturn, 1) := by decide +kernel
theorem dL_route_15 : decode cL_route 15 = .ok (.iconst 0, 1) := by decide +kernel
theorem dL_route_16 : decode cL_route 16 = .ok (.ireturn, 1) := by decide +kernel
theorem zh_route {f : Nat → Int64} {G G' : Nat → Nat → Int32} {r : zRt} {x1 : Int32} (hM : zxM zGw zNs l D vwCl K zxB zxSt lo (some 139) mC_route [.ref 0, .int x1] (zhp G) r (zhp G')) (hr : (∃ v, r = .inl (some (.int v))) ∨ r = .inr 3) :
    vx_Met l yL_route (Jvm.Cond.codeWith yL_route cL_route 4 (some .int) [(0, 9, 12, 47)] :: zGw) (zhrm mC_route) (va_Pc [Value.ref lo, Value.int x1, Value.ref (lo + 139)] (zhPc D K lo cO f (zhp G))) (zhQc D K lo cO (zhf f r) (zhp G') (zhk (zk1 3) r)) (fun _ _ _ => False) 1 6 (zA lo (some 140)) := by
  refine vx_ofWH (cc := cL_route) (maxL := 4) (ret := some .int) (hh := [(0, 9, 12, 47)]) (ws' := zGw) (by decide) rfl ?_
  intro p e s m args below meth c s₁ BL hml hv
  obtain ⟨rfl, hX, hO, hKO⟩ := hv
  have hts0 := atoms_spec (ws := Jvm.Cond.codeWith yL_route cL_route 4 (some .int) [(0, 9, 12, 47)] :: zGw) BL.pre
  have hts : ∀ w ∈ zGw, w.before ([Value.ref lo, Value.int x1, Value.ref (lo + 139)]).toArray s = true := fun w hw => hts0 w (List.mem_cons_of_mem _ hw)
  have htab : c.exceptionTable.toList = tableOf [(0, 9, 12, 47)] := vx_table (x := yL_route) BL (hts0 _ List.mem_cons_self)
  have hown : s.vm.findClass "ShardRebalancerLaw" = some m.cls := findClass_of_methodNamed BL.named
  have hlv := lv_entry [Value.ref lo, Value.int x1, Value.ref (lo + 139)] (n := 4) (Nat.le_of_ble_eq_true rfl)
  rw [lg_entry_eq]
  generalize (lg_sl [Value.ref lo, Value.int x1, Value.ref (lo + 139)] ++ List.replicate (4 - (lg_sl [Value.ref lo, Value.int x1, Value.ref (lo + 139)]).length) Slot.unset).toArray = ls at hlv ⊢
  have hx := BL.exec
  have hb := BL.bytes
  have hret := BL.returns
  have hlk := BL.notSynchronized
  refine lv_aload_n hx hb dL_route_0 rfl (hlv.2.2 (2, .ref (lo + 139)) (List.mem_of_getElem? (i := 2) rfl)) ?_
  refine lv_iconst (v := 0) hx hb dL_route_1 rfl ?_
  refine lv_aload_n hx hb dL_route_2 rfl (hlv.2.2 (0, .ref lo) (List.mem_of_getElem? (i := 0) rfl)) ?_
  refine lv_iload_n hx hb dL_route_3 rfl (hlv.2.2 (1, .int x1) (List.mem_of_getElem? (i := 1) rfl)) ?_
  refine zhcall (as := [.int x1]) (ci := 7) (ix := 52) (n := 1) (nL := 4) (rest := [.int 0, .ref (lo + 139)]) hM ⟨hx, hb, hml, hown, hts⟩ hX (zob_o (by decide) rfl) rfl rfl hlv.1 rfl ?_ ⟨rfl, by decide +kernel⟩ rfl (Nat.le_of_ble_eq_true rfl) dL_route_4 (fun v H1 L1 hv hw hs => ?_) (fun x H1 L1 q ce hv hw hs hce hcv hcl => ?_)
  · exact List.forall_mem_cons.mpr ⟨gw_of 688 (by decide +kernel), List.forall_mem_cons.mpr ⟨gw_of 689 (by decide +kernel), List.forall_mem_cons.mpr ⟨gw_of 690 (by decide +kernel), List.forall_mem_cons.mpr ⟨gw_of 1 (by decide +kernel), zwl_in (gw_of 691 (by decide +kernel))⟩⟩⟩⟩
  · subst hv
    rcases hr with ⟨v0, hr⟩ | hr
    · cases hr
      exact zhend hx hb dL_route_7 dL_route_8 dL_route_9 (by decide) dL_route_15 dL_route_16 rfl hret hlk hw rfl hX.1.1.2 hs hO hKO
    · cases hr
  · subst hv
    rcases hr with ⟨v0, hr⟩ | hr
    · cases hr
    · cases hr
      refine vx_catch (own := "ShardRebalancerLaw") (name := zxE 3) (E := zxE 3) hown [] ⟨0, 9, 12, 47⟩ [] htab (fun z hz => nomatch hz) (by decide) (by decide) (hts _ (gw_of 628 (by decide +kernel))) (va_Nw.use rfl (hX.2.1 (.castable (zxE 3) (zxE 3)) (List.mem_of_getElem? (i := 6) rfl))) hce hcv hcl ?_
      exact zhcatN hx hb dL_route_12 rfl hlv (by decide) dL_route_13 (by decide) dL_route_14 hret hlk hw hs hO
theorem dL_changedIf_0 : decode cL_changedIf 0 = .ok (.aload_n 3, 1) := by decide +kernel
theorem dL_changedIf_1 : decode cL_changedIf 1 = .ok (.iconst 0, 1) := by decide +kernel
theorem dL_changedIf_2 : decode cL_changedIf 2 = .ok (.aload_n 0, 1) := by decide +kernel
theorem dL_changedIf_3 : decode cL_changedIf 3 = .ok (.iload_n 1, 1) := by decide +kernel
theorem dL_changedIf_4 : decode cL_changedIf 4 = .ok (.iload_n 2, 1) := by decide +kernel
theorem dL_changedIf_5 : decode cL_changedIf 5 = .ok (.invokevirtual 55, 3) := by decide +kernel
theorem dL_changedIf_8 : decode cL_changedIf 8 = .ok (.i2l, 1) := by decide +kernel
theorem dL_changedIf_9 : decode cL_changedIf 9 = .ok (.lastore, 1) := by decide +kernel
theorem dL_changedIf_10 : decode cL_changedIf 10 = .ok (.goto 15, 3) := by decide +kernel
theorem dL_changedIf_13 : decode cL_changedIf 13 = .ok (.astore 4, 2) := by decide +kernel
theorem dL_changedIf_15 : decode cL_changedIf 15 = .ok (.iconst 1, 1) := by decide +kernel
theorem dL_changedIf_16 : decode cL_changedIf 16 = .ok (.ireturn, 1) := by decide +kernel
theorem dL_changedIf_17 : decode cL_changedIf 17 = .ok (.astore 4, 2) := by decide +kernel
theorem dL_changedIf_19 : decode cL_changedIf 19 = .ok (.iconst 2, 1) := by decide +kernel
theorem dL_changedIf_20 : decode cL_changedIf 20 = .ok (.ireturn, 1) := by decide +kernel
theorem dL_changedIf_21 : decode cL_changedIf 21 = .ok (.astore 4, 2) := by decide +kernel
theorem dL_changedIf_23 : decode cL_changedIf 23 = .ok (.iconst 3, 1) := by decide +kernel
theorem dL_changedIf_24 : decode cL_changedIf 24 = .ok (.ireturn, 1) := by decide +kernel
theorem dL_changedIf_25 : decode cL_changedIf 25 = .ok (.iconst 0, 1) := by decide +kernel
theorem dL_changedIf_26 : decode cL_changedIf 26 = .ok (.ireturn, 1) := by decide +kernel
theorem zh_changedIf {f : Nat → Int64} {G G' : Nat → Nat → Int32} {r : zRt} {x1 x2 : Int32} (hM : zxM zGw zNs l D vwCl K zxB zxSt lo (some 139) mC_changedIf [.ref 0, .int x1, .int x2] (zhp G) r (zhp G')) (hr : (∃ v, r = .inl (some (.int v))) ∨ r = .inr 2 ∨ r = .inr 0 ∨ r = .inr 1) :
    vx_Met l yL_changedIf (Jvm.Cond.codeWith yL_changedIf cL_changedIf 5 (some .int) [(0, 10, 13, 20), (0, 10, 17, 13), (0, 10, 21, 15)] :: zGw) (zhrm mC_changedIf) (va_Pc [Value.ref lo, Value.int x1, Value.int x2, Value.ref (lo + 139)] (zhPc D K lo cO f (zhp G))) (zhQc D K lo cO (zhf f r) (zhp G') (zhk (zk3 2 0 1) r)) (fun _ _ _ => False) 1 6 (zA lo (some 140)) := by
  refine vx_ofWH (cc := cL_changedIf) (maxL := 5) (ret := some .int) (hh := [(0, 10, 13, 20), (0, 10, 17, 13), (0, 10, 21, 15)]) (ws' := zGw) (by decide) rfl ?_
  intro p e s m args below meth c s₁ BL hml hv
  obtain ⟨rfl, hX, hO, hKO⟩ := hv
  have hts0 := atoms_spec (ws := Jvm.Cond.codeWith yL_changedIf cL_changedIf 5 (some .int) [(0, 10, 13, 20), (0, 10, 17, 13), (0, 10, 21, 15)] :: zGw) BL.pre
  have hts : ∀ w ∈ zGw, w.before ([Value.ref lo, Value.int x1, Value.int x2, Value.ref (lo + 139)]).toArray s = true := fun w hw => hts0 w (List.mem_cons_of_mem _ hw)
  have htab : c.exceptionTable.toList = tableOf [(0, 10, 13, 20), (0, 10, 17, 13), (0, 10, 21, 15)] := vx_table (x := yL_changedIf) BL (hts0 _ List.mem_cons_self)
  have hown : s.vm.findClass "ShardRebalancerLaw" = some m.cls := findClass_of_methodNamed BL.named
  have hlv := lv_entry [Value.ref lo, Value.int x1, Value.int x2, Value.ref (lo + 139)] (n := 5) (Nat.le_of_ble_eq_true rfl)
  rw [lg_entry_eq]
  generalize (lg_sl [Value.ref lo, Value.int x1, Value.int x2, Value.ref (lo + 139)] ++ List.replicate (5 - (lg_sl [Value.ref lo, Value.int x1, Value.int x2, Value.ref (lo + 139)]).length) Slot.unset).toArray = ls at hlv ⊢
  have hx := BL.exec
  have hb := BL.bytes
  have hret := BL.returns
  have hlk := BL.notSynchronized
  refine lv_aload_n hx hb dL_changedIf_0 rfl (hlv.2.2 (3, .ref (lo + 139)) (List.mem_of_getElem? (i := 3) rfl)) ?_
  refine lv_iconst (v := 0) hx hb dL_changedIf_1 rfl ?_
  refine lv_aload_n hx hb dL_changedIf_2 rfl (hlv.2.2 (0, .ref lo) (List.mem_of_getElem? (i := 0) rfl)) ?_
  refine lv_iload_n hx hb dL_changedIf_3 rfl (hlv.2.2 (1, .int x1) (List.mem_of_getElem? (i := 1) rfl)) ?_
  refine lv_iload_n hx hb dL_changedIf_4 rfl (hlv.2.2 (2, .int x2) (List.mem_of_getElem? (i := 2) rfl)) ?_
  refine zhcall (as := [.int x1, .int x2]) (ci := 7) (ix := 55) (n := 2) (nL := 5) (rest := [.int 0, .ref (lo + 139)]) hM ⟨hx, hb, hml, hown, hts⟩ hX (zob_o (by decide) rfl) rfl rfl hlv.1 rfl ?_ ⟨rfl, by decide +kernel⟩ rfl (Nat.le_of_ble_eq_true rfl) dL_changedIf_5 (fun v H1 L1 hv hw hs => ?_) (fun x H1 L1 q ce hv hw hs hce hcv hcl => ?_)
  · exact List.forall_mem_cons.mpr ⟨gw_of 696 (by decide +kernel), List.forall_mem_cons.mpr ⟨gw_of 697 (by decide +kernel), List.forall_mem_cons.mpr ⟨gw_of 698 (by decide +kernel), List.forall_mem_cons.mpr ⟨gw_of 1 (by decide +kernel), zwl_in (gw_of 699 (by decide +kernel))⟩⟩⟩⟩
  · subst hv
    rcases hr with ⟨v0, hr⟩ | hr | hr | hr
    · cases hr
      exact zhend hx hb dL_changedIf_8 dL_changedIf_9 dL_changedIf_10 (by decide) dL_changedIf_25 dL_changedIf_26 rfl hret hlk hw rfl hX.1.1.2 hs hO hKO
    · cases hr
    · cases hr
    · cases hr
  · subst hv
    rcases hr with ⟨v0, hr⟩ | hr | hr | hr
    · cases hr
    · cases hr
      refine vx_catch (own := "ShardRebalancerLaw") (name := zxE 2) (E := zxE 2) hown [] ⟨0, 10, 13, 20⟩ [⟨0, 10, 17, 13⟩, ⟨0, 10, 21, 15⟩] htab (fun z hz => nomatch hz) (by decide) (by decide) (hts _ (gw_of 470 (by decide +kernel))) (va_Nw.use rfl (hX.2.1 (.castable (zxE 2) (zxE 2)) (List.mem_of_getElem? (i := 5) rfl))) hce hcv hcl ?_
      exact zhcatW hx hb dL_changedIf_13 hlv (by decide) dL_changedIf_15 (by decide) dL_changedIf_16 hret hlk hw hs hO
    · cases hr
      refine vx_catch (own := "ShardRebalancerLaw") (name := zxE 0) (E := zxE 0) hown [⟨0, 10, 13, 20⟩] ⟨0, 10, 17, 13⟩ [⟨0, 10, 21, 15⟩] htab (List.forall_mem_cons.mpr ⟨Or.inr ⟨by decide, zxE 2, hts _ (gw_of 470 (by decide +kernel)), hX.2.2.1 (0, 2) (by decide)⟩, fun z hz => nomatch hz⟩) (by decide) (by decide) (hts _ (gw_of 341 (by decide +kernel))) (va_Nw.use rfl (hX.2.1 (.castable (zxE 0) (zxE 0)) (List.mem_of_getElem? (i := 3) rfl))) hce hcv hcl ?_
      exact zhcatW hx hb dL_changedIf_17 hlv (by decide) dL_changedIf_19 (by decide) dL_changedIf_20 hret hlk hw hs hO
    · cases hr
      refine vx_catch (own := "ShardRebalancerLaw") (name := zxE 1) (E := zxE 1) hown [⟨0, 10, 13, 20⟩, ⟨0, 10, 17, 13⟩] ⟨0, 10, 21, 15⟩ [] htab (List.forall_mem_cons.mpr ⟨Or.inr ⟨by decide, zxE 2, hts _ (gw_of 470 (by decide +kernel)), hX.2.2.1 (1, 2) (by decide)⟩, List.forall_mem_cons.mpr ⟨Or.inr ⟨by decide, zxE 0, hts _ (gw_of 341 (by decide +kernel)), hX.2.2.1 (1, 0) (by decide)⟩, fun z hz => nomatch hz⟩⟩) (by decide) (by decide) (hts _ (gw_of 342 (by decide +kernel))) (va_Nw.use rfl (hX.2.1 (.castable (zxE 1) (zxE 1)) (List.mem_of_getElem? (i := 4) rfl))) hce hcv hcl ?_
      exact zhcatW hx hb dL_changedIf_21 hlv (by decide) dL_changedIf_23 (by decide) dL_changedIf_24 hret hlk hw hs hO
theorem dL_leastSlack_0 : decode cL_leastSlack 0 = .ok (.aload_n 1, 1) := by decide +kernel
theorem dL_leastSlack_1 : decode cL_leastSlack 1 = .ok (.iconst 0, 1) := by decide +kernel
theorem dL_leastSlack_2 : decode cL_leastSlack 2 = .ok (.aload_n 0, 1) := by decide +kernel
theorem dL_leastSlack_3 : decode cL_leastSlack 3 = .ok (.invokevirtual 58, 3) := by decide +kernel
theorem dL_leastSlack_6 : decode cL_leastSlack 6 = .ok (.i2l, 1) := by decide +kernel
theorem dL_leastSlack_7 : decode cL_leastSlack 7 = .ok (.lastore, 1) := by decide +kernel
theorem dL_leastSlack_8 : decode cL_leastSlack 8 = .ok (.goto 9, 3) := by decide +kernel
theorem dL_leastSlack_11 : decode cL_leastSlack 11 = .ok (.astore_n 2, 1) := by decide +kernel
theorem dL_leastSlack_12 : decode cL_leastSlack 12 = .ok (.iconst 1, 1) := by decide +kernel
theorem dL_leastSlack_13 : decode cL_leastSlack 13 = .ok (.ireturn, 1) := by decide +kernel
theorem dL_leastSlack_14 : decode cL_leastSlack 14 = .ok (.astore_n 2, 1) := by decide +kernel
theorem dL_leastSlack_15 : decode cL_leastSlack 15 = .ok (.iconst 2, 1) := by decide +kernel
theorem dL_leastSlack_16 : decode cL_leastSlack 16 = .ok (.ireturn, 1) := by decide +kernel
theorem dL_leastSlack_17 : decode cL_leastSlack 17 = .ok (.iconst 0, 1) := by decide +kernel
theorem dL_leastSlack_18 : decode cL_leastSlack 18 = .ok (.ireturn, 1) := by decide +kernel
theorem zh_leastSlack {f : Nat → Int64} {G G' : Nat → Nat → Int32} {r : zRt} (hM : zxM zGw zNs l D vwCl K zxB zxSt lo (some 139) mC_leastSlack [.ref 0] (zhp G) r (zhp G')) (hr : (∃ v, r = .inl (some (.int v))) ∨ r = .inr 3 ∨ r = .inr 1) :
    vx_Met l yL_leastSlack (Jvm.Cond.codeWith yL_leastSlack cL_leastSlack 3 (some .int) [(0, 8, 11, 47), (0, 8, 14, 15)] :: zGw) (zhrm mC_leastSlack) (va_Pc [Value.ref lo, Value.ref (lo + 139)] (zhPc D K lo cO f (zhp G))) (zhQc D K lo cO (zhf f r) (zhp G') (zhk (zk2 3 1) r)) (fun _ _ _ => False) 1 6 (zA lo (some 140)) := by
  refine vx_ofWH (cc := cL_leastSlack) (maxL := 3) (ret := some .int) (hh := [(0, 8, 11, 47), (0, 8, 14, 15)]) (ws' := zGw) (by decide) rfl ?_
  intro p e s m args below meth c s₁ BL hml hv
  obtain ⟨rfl, hX, hO, hKO⟩ := hv
  have hts0 := atoms_spec (ws := Jvm.Cond.codeWith yL_leastSlack cL_leastSlack 3 (some .int) [(0, 8, 11, 47), (0, 8, 14, 15)] :: zGw) BL.pre
  have hts : ∀ w ∈ zGw, w.before ([Value.ref lo, Value.ref (lo + 139)]).toArray s = true := fun w hw => hts0 w (List.mem_cons_of_mem _ hw)
  have htab : c.exceptionTable.toList = tableOf [(0, 8, 11, 47), (0, 8, 14, 15)] := vx_table (x := yL_leastSlack) BL (hts0 _ List.mem_cons_self)
  have hown : s.vm.findClass "ShardRebalancerLaw" = some m.cls := findClass_of_methodNamed BL.named
  have hlv := lv_entry [Value.ref lo, Value.ref (lo + 139)] (n := 3) (Nat.le_of_ble_eq_true rfl)
  rw [lg_entry_eq]
  generalize (lg_sl [Value.ref lo, Value.ref (lo + 139)] ++ List.replicate (3 - (lg_sl [Value.ref lo, Value.ref (lo + 139)]).length) Slot.unset).toArray = ls at hlv ⊢
  have hx := BL.exec
  have hb := BL.bytes
  have hret := BL.returns
  have hlk := BL.notSynchronized
  refine lv_aload_n hx hb dL_leastSlack_0 rfl (hlv.2.2 (1, .ref (lo + 139)) (List.mem_of_getElem? (i := 1) rfl)) ?_
  refine lv_iconst (v := 0) hx hb dL_leastSlack_1 rfl ?_
  refine lv_aload_n hx hb dL_leastSlack_2 rfl (hlv.2.2 (0, .ref lo) (List.mem_of_getElem? (i := 0) rfl)) ?_
  refine zhcall (as := []) (ci := 7) (ix := 58) (n := 0) (nL := 3) (rest := [.int 0, .ref (lo + 139)]) hM ⟨hx, hb, hml, hown, hts⟩ hX (zob_o (by decide) rfl) rfl rfl hlv.1 rfl ?_ ⟨rfl, by decide +kernel⟩ rfl (Nat.le_of_ble_eq_true rfl) dL_leastSlack_3 (fun v H1 L1 hv hw hs => ?_) (fun x H1 L1 q ce hv hw hs hce hcv hcl => ?_)
  · exact List.forall_mem_cons.mpr ⟨gw_of 711 (by decide +kernel), List.forall_mem_cons.mpr ⟨gw_of 712 (by decide +kernel), List.forall_mem_cons.mpr ⟨gw_of 713 (by decide +kernel), List.forall_mem_cons.mpr ⟨gw_of 1 (by decide +kernel), zwl_in (gw_of 714 (by decide +kernel))⟩⟩⟩⟩
  · subst hv
    rcases hr with ⟨v0, hr⟩ | hr | hr
    · cases hr
      exact zhend hx hb dL_leastSlack_6 dL_leastSlack_7 dL_leastSlack_8 (by decide) dL_leastSlack_17 dL_leastSlack_18 rfl hret hlk hw rfl hX.1.1.2 hs hO hKO
    · cases hr
    · cases hr
  · subst hv
    rcases hr with ⟨v0, hr⟩ | hr | hr
    · cases hr
    · cases hr
      refine vx_catch (own := "ShardRebalancerLaw") (name := zxE 3) (E := zxE 3) hown [] ⟨0, 8, 11, 47⟩ [⟨0, 8, 14, 15⟩] htab (fun z hz => nomatch hz) (by decide) (by decide) (hts _ (gw_of 628 (by decide +kernel))) (va_Nw.use rfl (hX.2.1 (.castable (zxE 3) (zxE 3)) (List.mem_of_getElem? (i := 6) rfl))) hce hcv hcl ?_
      exact zhcatN hx hb dL_leastSlack_11 rfl hlv (by decide) dL_leastSlack_12 (by decide) dL_leastSlack_13 hret hlk hw hs hO
    · cases hr
      refine vx_catch (own := "ShardRebalancerLaw") (name := zxE 1) (E := zxE 1) hown [⟨0, 8, 11, 47⟩] ⟨0, 8, 14, 15⟩ [] htab (List.forall_mem_cons.mpr ⟨Or.inr ⟨by decide, zxE 3, hts _ (gw_of 628 (by decide +kernel)), hX.2.2.1 (1, 3) (by decide)⟩, fun z hz => nomatch hz⟩) (by decide) (by decide) (hts _ (gw_of 342 (by decide +kernel))) (va_Nw.use rfl (hX.2.1 (.castable (zxE 1) (zxE 1)) (List.mem_of_getElem? (i := 4) rfl))) hce hcv hcl ?_
      exact zhcatN hx hb dL_leastSlack_14 rfl hlv (by decide) dL_leastSlack_15 (by decide) dL_leastSlack_16 hret hlk hw hs hO
theorem dL_tick_0 : decode cL_tick 0 = .ok (.aload_n 2, 1) := by decide +kernel
theorem dL_tick_1 : decode cL_tick 1 = .ok (.iconst 0, 1) := by decide +kernel
theorem dL_tick_2 : decode cL_tick 2 = .ok (.aload_n 0, 1) := by decide +kernel
theorem dL_tick_3 : decode cL_tick 3 = .ok (.iload_n 1, 1) := by decide +kernel
theorem dL_tick_4 : decode cL_tick 4 = .ok (.invokevirtual 68, 3) := by decide +kernel
theorem dL_tick_7 : decode cL_tick 7 = .ok (.i2l, 1) := by decide +kernel
theorem dL_tick_8 : decode cL_tick 8 = .ok (.lastore, 1) := by decide +kernel
theorem dL_tick_9 : decode cL_tick 9 = .ok (.goto 6, 3) := by decide +kernel
theorem dL_tick_12 : decode cL_tick 12 = .ok (.astore_n 3, 1) := by decide +kernel
theorem dL_tick_13 : decode cL_tick 13 = .ok (.iconst 1, 1) := by decide +kernel
theorem dL_tick_14 : decode cL_tick 14 = .ok (.ireturn, 1) := by decide +kernel
theorem dL_tick_15 : decode cL_tick 15 = .ok (.iconst 0, 1) := by decide +kernel
theorem dL_tick_16 : decode cL_tick 16 = .ok (.ireturn, 1) := by decide +kernel
theorem zh_tick {f : Nat → Int64} {G G' : Nat → Nat → Int32} {r : zRt} {x1 : Int32} (hM : zxM zGw zNs l D vwCl K zxB zxSt lo (some 139) mC_tick [.ref 0, .int x1] (zhp G) r (zhp G')) (hr : (∃ v, r = .inl (some (.int v))) ∨ r = .inr 0) :
    vx_Met l yL_tick (Jvm.Cond.codeWith yL_tick cL_tick 4 (some .int) [(0, 9, 12, 13)] :: zGw) (zhrm mC_tick) (va_Pc [Value.ref lo, Value.int x1, Value.ref (lo + 139)] (zhPc D K lo cO f (zhp G))) (zhQc D K lo cO (zhf f r) (zhp G') (zhk (zk1 0) r)) (fun _ _ _ => False) 1 6 (zA lo (some 140)) := by
  refine vx_ofWH (cc := cL_tick) (maxL := 4) (ret := some .int) (hh := [(0, 9, 12, 13)]) (ws' := zGw) (by decide) rfl ?_
  intro p e s m args below meth c s₁ BL hml hv
  obtain ⟨rfl, hX, hO, hKO⟩ := hv
  have hts0 := atoms_spec (ws := Jvm.Cond.codeWith yL_tick cL_tick 4 (some .int) [(0, 9, 12, 13)] :: zGw) BL.pre
  have hts : ∀ w ∈ zGw, w.before ([Value.ref lo, Value.int x1, Value.ref (lo + 139)]).toArray s = true := fun w hw => hts0 w (List.mem_cons_of_mem _ hw)
  have htab : c.exceptionTable.toList = tableOf [(0, 9, 12, 13)] := vx_table (x := yL_tick) BL (hts0 _ List.mem_cons_self)
  have hown : s.vm.findClass "ShardRebalancerLaw" = some m.cls := findClass_of_methodNamed BL.named
  have hlv := lv_entry [Value.ref lo, Value.int x1, Value.ref (lo + 139)] (n := 4) (Nat.le_of_ble_eq_true rfl)
  rw [lg_entry_eq]
  generalize (lg_sl [Value.ref lo, Value.int x1, Value.ref (lo + 139)] ++ List.replicate (4 - (lg_sl [Value.ref lo, Value.int x1, Value.ref (lo + 139)]).length) Slot.unset).toArray = ls at hlv ⊢
  have hx := BL.exec
  have hb := BL.bytes
  have hret := BL.returns
  have hlk := BL.notSynchronized
  refine lv_aload_n hx hb dL_tick_0 rfl (hlv.2.2 (2, .ref (lo + 139)) (List.mem_of_getElem? (i := 2) rfl)) ?_
  refine lv_iconst (v := 0) hx hb dL_tick_1 rfl ?_
  refine lv_aload_n hx hb dL_tick_2 rfl (hlv.2.2 (0, .ref lo) (List.mem_of_getElem? (i := 0) rfl)) ?_
  refine lv_iload_n hx hb dL_tick_3 rfl (hlv.2.2 (1, .int x1) (List.mem_of_getElem? (i := 1) rfl)) ?_
  refine zhcall (as := [.int x1]) (ci := 7) (ix := 68) (n := 1) (nL := 4) (rest := [.int 0, .ref (lo + 139)]) hM ⟨hx, hb, hml, hown, hts⟩ hX (zob_o (by decide) rfl) rfl rfl hlv.1 rfl ?_ ⟨rfl, by decide +kernel⟩ rfl (Nat.le_of_ble_eq_true rfl) dL_tick_4 (fun v H1 L1 hv hw hs => ?_) (fun x H1 L1 q ce hv hw hs hce hcv hcl => ?_)
  · exact List.forall_mem_cons.mpr ⟨gw_of 751 (by decide +kernel), List.forall_mem_cons.mpr ⟨gw_of 752 (by decide +kernel), List.forall_mem_cons.mpr ⟨gw_of 753 (by decide +kernel), List.forall_mem_cons.mpr ⟨gw_of 1 (by decide +kernel), zwl_in (gw_of 754 (by decide +kernel))⟩⟩⟩⟩
  · subst hv
    rcases hr with ⟨v0, hr⟩ | hr
    · cases hr
      exact zhend hx hb dL_tick_7 dL_tick_8 dL_tick_9 (by decide) dL_tick_15 dL_tick_16 rfl hret hlk hw rfl hX.1.1.2 hs hO hKO
    · cases hr
  · subst hv
    rcases hr with ⟨v0, hr⟩ | hr
    · cases hr
    · cases hr
      refine vx_catch (own := "ShardRebalancerLaw") (name := zxE 0) (E := zxE 0) hown [] ⟨0, 9, 12, 13⟩ [] htab (fun z hz => nomatch hz) (by decide) (by decide) (hts _ (gw_of 341 (by decide +kernel))) (va_Nw.use rfl (hX.2.1 (.castable (zxE 0) (zxE 0)) (List.mem_of_getElem? (i := 3) rfl))) hce hcv hcl ?_
      exact zhcatN hx hb dL_tick_12 rfl hlv (by decide) dL_tick_13 (by decide) dL_tick_14 hret hlk hw hs hO
theorem dL_move_0 : decode cL_move 0 = .ok (.aload_n 3, 1) := by decide +kernel
theorem dL_move_1 : decode cL_move 1 = .ok (.iconst 0, 1) := by decide +kernel
theorem dL_move_2 : decode cL_move 2 = .ok (.aload_n 0, 1) := by decide +kernel
theorem dL_move_3 : decode cL_move 3 = .ok (.iload_n 1, 1) := by decide +kernel
theorem dL_move_4 : decode cL_move 4 = .ok (.iload_n 2, 1) := by decide +kernel
theorem dL_move_5 : decode cL_move 5 = .ok (.invokevirtual 71, 3) := by decide +kernel
theorem dL_move_8 : decode cL_move 8 = .ok (.i2l, 1) := by decide +kernel
theorem dL_move_9 : decode cL_move 9 = .ok (.lastore, 1) := by decide +kernel
theorem dL_move_10 : decode cL_move 10 = .ok (.goto 11, 3) := by decide +kernel
theorem dL_move_13 : decode cL_move 13 = .ok (.astore 4, 2) := by decide +kernel
theorem dL_move_15 : decode cL_move 15 = .ok (.iconst 1, 1) := by decide +kernel
theorem dL_move_16 : decode cL_move 16 = .ok (.ireturn, 1) := by decide +kernel
theorem dL_move_17 : decode cL_move 17 = .ok (.astore 4, 2) := by decide +kernel
theorem dL_move_19 : decode cL_move 19 = .ok (.iconst 2, 1) := by decide +kernel
theorem dL_move_20 : decode cL_move 20 = .ok (.ireturn, 1) := by decide +kernel
theorem dL_move_21 : decode cL_move 21 = .ok (.iconst 0, 1) := by decide +kernel
theorem dL_move_22 : decode cL_move 22 = .ok (.ireturn, 1) := by decide +kernel
theorem zh_move {f : Nat → Int64} {G G' : Nat → Nat → Int32} {r : zRt} {x1 x2 : Int32} (hM : zxM zGw zNs l D vwCl K zxB zxSt lo (some 139) mC_move [.ref 0, .int x1, .int x2] (zhp G) r (zhp G')) (hr : (∃ v, r = .inl (some (.int v))) ∨ r = .inr 2 ∨ r = .inr 0) :
    vx_Met l yL_move (Jvm.Cond.codeWith yL_move cL_move 5 (some .int) [(0, 10, 13, 20), (0, 10, 17, 13)] :: zGw) (zhrm mC_move) (va_Pc [Value.ref lo, Value.int x1, Value.int x2, Value.ref (lo + 139)] (zhPc D K lo cO f (zhp G))) (zhQc D K lo cO (zhf f r) (zhp G') (zhk (zk2 2 0) r)) (fun _ _ _ => False) 1 6 (zA lo (some 140)) := by
  refine vx_ofWH (cc := cL_move) (maxL := 5) (ret := some .int) (hh := [(0, 10, 13, 20), (0, 10, 17, 13)]) (ws' := zGw) (by decide) rfl ?_
  intro p e s m args below meth c s₁ BL hml hv
  obtain ⟨rfl, hX, hO, hKO⟩ := hv
  have hts0 := atoms_spec (ws := Jvm.Cond.codeWith yL_move cL_move 5 (some .int) [(0, 10, 13, 20), (0, 10, 17, 13)] :: zGw) BL.pre
  have hts : ∀ w ∈ zGw, w.before ([Value.ref lo, Value.int x1, Value.int x2, Value.ref (lo + 139)]).toArray s = true := fun w hw => hts0 w (List.mem_cons_of_mem _ hw)
  have htab : c.exceptionTable.toList = tableOf [(0, 10, 13, 20), (0, 10, 17, 13)] := vx_table (x := yL_move) BL (hts0 _ List.mem_cons_self)
  have hown : s.vm.findClass "ShardRebalancerLaw" = some m.cls := findClass_of_methodNamed BL.named
  have hlv := lv_entry [Value.ref lo, Value.int x1, Value.int x2, Value.ref (lo + 139)] (n := 5) (Nat.le_of_ble_eq_true rfl)
  rw [lg_entry_eq]
  generalize (lg_sl [Value.ref lo, Value.int x1, Value.int x2, Value.ref (lo + 139)] ++ List.replicate (5 - (lg_sl [Value.ref lo, Value.int x1, Value.int x2, Value.ref (lo + 139)]).length) Slot.unset).toArray = ls at hlv ⊢
  have hx := BL.exec
  have hb := BL.bytes
  have hret := BL.returns
  have hlk := BL.notSynchronized
  refine lv_aload_n hx hb dL_move_0 rfl (hlv.2.2 (3, .ref (lo + 139)) (List.mem_of_getElem? (i := 3) rfl)) ?_
  refine lv_iconst (v := 0) hx hb dL_move_1 rfl ?_
  refine lv_aload_n hx hb dL_move_2 rfl (hlv.2.2 (0, .ref lo) (List.mem_of_getElem? (i := 0) rfl)) ?_
  refine lv_iload_n hx hb dL_move_3 rfl (hlv.2.2 (1, .int x1) (List.mem_of_getElem? (i := 1) rfl)) ?_
  refine lv_iload_n hx hb dL_move_4 rfl (hlv.2.2 (2, .int x2) (List.mem_of_getElem? (i := 2) rfl)) ?_
  refine zhcall (as := [.int x1, .int x2]) (ci := 7) (ix := 71) (n := 2) (nL := 5) (rest := [.int 0, .ref (lo + 139)]) hM ⟨hx, hb, hml, hown, hts⟩ hX (zob_o (by decide) rfl) rfl rfl hlv.1 rfl ?_ ⟨rfl, by decide +kernel⟩ rfl (Nat.le_of_ble_eq_true rfl) dL_move_5 (fun v H1 L1 hv hw hs => ?_) (fun x H1 L1 q ce hv hw hs hce hcv hcl => ?_)
  · exact List.forall_mem_cons.mpr ⟨gw_of 842 (by decide +kernel), List.forall_mem_cons.mpr ⟨gw_of 843 (by decide +kernel), List.forall_mem_cons.mpr ⟨gw_of 844 (by decide +kernel), List.forall_mem_cons.mpr ⟨gw_of 1 (by decide +kernel), zwl_in (gw_of 845 (by decide +kernel))⟩⟩⟩⟩
  · subst hv
    rcases hr with ⟨v0, hr⟩ | hr | hr
    · cases hr
      exact zhend hx hb dL_move_8 dL_move_9 dL_move_10 (by decide) dL_move_21 dL_move_22 rfl hret hlk hw rfl hX.1.1.2 hs hO hKO
    · cases hr
    · cases hr
  · subst hv
    rcases hr with ⟨v0, hr⟩ | hr | hr
    · cases hr
    · cases hr
      refine vx_catch (own := "ShardRebalancerLaw") (name := zxE 2) (E := zxE 2) hown [] ⟨0, 10, 13, 20⟩ [⟨0, 10, 17, 13⟩] htab (fun z hz => nomatch hz) (by decide) (by decide) (hts _ (gw_of 470 (by decide +kernel))) (va_Nw.use rfl (hX.2.1 (.castable (zxE 2) (zxE 2)) (List.mem_of_getElem? (i := 5) rfl))) hce hcv hcl ?_
      exact zhcatW hx hb dL_move_13 hlv (by decide) dL_move_15 (by decide) dL_move_16 hret hlk hw hs hO
    · cases hr
      refine vx_catch (own := "ShardRebalancerLaw") (name := zxE 0) (E := zxE 0) hown [⟨0, 10, 13, 20⟩] ⟨0, 10, 17, 13⟩ [] htab (List.forall_mem_cons.mpr ⟨Or.inr ⟨by decide, zxE 2, hts _ (gw_of 470 (by decide +kernel)), hX.2.2.1 (0, 2) (by decide)⟩, fun z hz => nomatch hz⟩) (by decide) (by decide) (hts _ (gw_of 341 (by decide +kernel))) (va_Nw.use rfl (hX.2.1 (.castable (zxE 0) (zxE 0)) (List.mem_of_getElem? (i := 3) rfl))) hce hcv hcl ?_
      exact zhcatW hx hb dL_move_17 hlv (by decide) dL_move_19 (by decide) dL_move_20 hret hlk hw hs hO
theorem dL_forecast_0 : decode cL_forecast 0 = .ok (.aload_n 1, 1) := by decide +kernel
theorem dL_forecast_1 : decode cL_forecast 1 = .ok (.iconst 0, 1) := by decide +kernel
theorem dL_forecast_2 : decode cL_forecast 2 = .ok (.aload_n 0, 1) := by decide +kernel
theorem dL_forecast_3 : decode cL_forecast 3 = .ok (.invokevirtual 74, 3) := by decide +kernel
theorem dL_forecast_6 : decode cL_forecast 6 = .ok (.i2l, 1) := by decide +kernel
theorem dL_forecast_7 : decode cL_forecast 7 = .ok (.lastore, 1) := by decide +kernel
theorem dL_forecast_8 : decode cL_forecast 8 = .ok (.goto 6, 3) := by decide +kernel
theorem dL_forecast_11 : decode cL_forecast 11 = .ok (.astore_n 2, 1) := by decide +kernel
theorem dL_forecast_12 : decode cL_forecast 12 = .ok (.iconst 1, 1) := by decide +kernel
theorem dL_forecast_13 : decode cL_forecast 13 = .ok (.ireturn, 1) := by decide +kernel
theorem dL_forecast_14 : decode cL_forecast 14 = .ok (.iconst 0, 1) := by decide +kernel
theorem dL_forecast_15 : decode cL_forecast 15 = .ok (.ireturn, 1) := by decide +kernel
theorem zh_forecast {f : Nat → Int64} {G G' : Nat → Nat → Int32} {r : zRt} (hM : zxM zGw zNs l D vwCl K zxB zxSt lo (some 139) mC_forecast [.ref 0] (zhp G) r (zhp G')) (hr : (∃ v, r = .inl (some (.int v))) ∨ r = .inr 3) :
    vx_Met l yL_forecast (Jvm.Cond.codeWith yL_forecast cL_forecast 3 (some .int) [(0, 8, 11, 47)] :: zGw) (zhrm mC_forecast) (va_Pc [Value.ref lo, Value.ref (lo + 139)] (zhPc D K lo cO f (zhp G))) (zhQc D K lo cO (zhf f r) (zhp G') (zhk (zk1 3) r)) (fun _ _ _ => False) 1 6 (zA lo (some 140)) := by
  refine vx_ofWH (cc := cL_forecast) (maxL := 3) (ret := some .int) (hh := [(0, 8, 11, 47)]) (ws' := zGw) (by decide) rfl ?_
  intro p e s m args below meth c s₁ BL hml hv
  obtain ⟨rfl, hX, hO, hKO⟩ := hv
  have hts0 := atoms_spec (ws := Jvm.Cond.codeWith yL_forecast cL_forecast 3 (some .int) [(0, 8, 11, 47)] :: zGw) BL.pre
  have hts : ∀ w ∈ zGw, w.before ([Value.ref lo, Value.ref (lo + 139)]).toArray s = true := fun w hw => hts0 w (List.mem_cons_of_mem _ hw)
  have htab : c.exceptionTable.toList = tableOf [(0, 8, 11, 47)] := vx_table (x := yL_forecast) BL (hts0 _ List.mem_cons_self)
  have hown : s.vm.findClass "ShardRebalancerLaw" = some m.cls := findClass_of_methodNamed BL.named
  have hlv := lv_entry [Value.ref lo, Value.ref (lo + 139)] (n := 3) (Nat.le_of_ble_eq_true rfl)
  rw [lg_entry_eq]
  generalize (lg_sl [Value.ref lo, Value.ref (lo + 139)] ++ List.replicate (3 - (lg_sl [Value.ref lo, Value.ref (lo + 139)]).length) Slot.unset).toArray = ls at hlv ⊢
  have hx := BL.exec
  have hb := BL.bytes
  have hret := BL.returns
  have hlk := BL.notSynchronized
  refine lv_aload_n hx hb dL_forecast_0 rfl (hlv.2.2 (1, .ref (lo + 139)) (List.mem_of_getElem? (i := 1) rfl)) ?_
  refine lv_iconst (v := 0) hx hb dL_forecast_1 rfl ?_
  refine lv_aload_n hx hb dL_forecast_2 rfl (hlv.2.2 (0, .ref lo) (List.mem_of_getElem? (i := 0) rfl)) ?_
  refine zhcall (as := []) (ci := 7) (ix := 74) (n := 0) (nL := 3) (rest := [.int 0, .ref (lo + 139)]) hM ⟨hx, hb, hml, hown, hts⟩ hX (zob_o (by decide) rfl) rfl rfl hlv.1 rfl ?_ ⟨rfl, by decide +kernel⟩ rfl (Nat.le_of_ble_eq_true rfl) dL_forecast_3 (fun v H1 L1 hv hw hs => ?_) (fun x H1 L1 q ce hv hw hs hce hcv hcl => ?_)
  · exact List.forall_mem_cons.mpr ⟨gw_of 858 (by decide +kernel), List.forall_mem_cons.mpr ⟨gw_of 859 (by decide +kernel), List.forall_mem_cons.mpr ⟨gw_of 860 (by decide +kernel), List.forall_mem_cons.mpr ⟨gw_of 1 (by decide +kernel), zwl_in (gw_of 861 (by decide +kernel))⟩⟩⟩⟩
  · subst hv
    rcases hr with ⟨v0, hr⟩ | hr
    · cases hr
      exact zhend hx hb dL_forecast_6 dL_forecast_7 dL_forecast_8 (by decide) dL_forecast_14 dL_forecast_15 rfl hret hlk hw rfl hX.1.1.2 hs hO hKO
    · cases hr
  · subst hv
    rcases hr with ⟨v0, hr⟩ | hr
    · cases hr
    · cases hr
      refine vx_catch (own := "ShardRebalancerLaw") (name := zxE 3) (E := zxE 3) hown [] ⟨0, 8, 11, 47⟩ [] htab (fun z hz => nomatch hz) (by decide) (by decide) (hts _ (gw_of 628 (by decide +kernel))) (va_Nw.use rfl (hX.2.1 (.castable (zxE 3) (zxE 3)) (List.mem_of_getElem? (i := 6) rfl))) hce hcv hcl ?_
      exact zhcatN hx hb dL_forecast_11 rfl hlv (by decide) dL_forecast_12 (by decide) dL_forecast_13 hret hlk hw hs hO
theorem dL_statistic_0 : decode cL_statistic 0 = .ok (.aload_n 2, 1) := by decide +kernel
theorem dL_statistic_1 : decode cL_statistic 1 = .ok (.iconst 0, 1) := by decide +kernel
theorem dL_statistic_2 : decode cL_statistic 2 = .ok (.aload_n 0, 1) := by decide +kernel
theorem dL_statistic_3 : decode cL_statistic 3 = .ok (.iload_n 1, 1) := by decide +kernel
theorem dL_statistic_4 : decode cL_statistic 4 = .ok (.invokevirtual 77, 3) := by decide +kernel
theorem dL_statistic_7 : decode cL_statistic 7 = .ok (.i2l, 1) := by decide +kernel
theorem dL_statistic_8 : decode cL_statistic 8 = .ok (.lastore, 1) := by decide +kernel
theorem dL_statistic_9 : decode cL_statistic 9 = .ok (.goto 6, 3) := by decide +kernel
theorem dL_statistic_12 : decode cL_statistic 12 = .ok (.astore_n 3, 1) := by decide +kernel
theorem dL_statistic_13 : decode cL_statistic 13 = .ok (.iconst 1, 1) := by decide +kernel
theorem dL_statistic_14 : decode cL_statistic 14 = .ok (.ireturn, 1) := by decide +kernel
theorem dL_statistic_15 : decode cL_statistic 15 = .ok (.iconst 0, 1) := by decide +kernel
theorem dL_statistic_16 : decode cL_statistic 16 = .ok (.ireturn, 1) := by decide +kernel
theorem zh_statistic {f : Nat → Int64} {G G' : Nat → Nat → Int32} {r : zRt} {x1 : Int32} (hM : zxM zGw zNs l D vwCl K zxB zxSt lo (some 139) mC_statistic [.ref 0, .int x1] (zhp G) r (zhp G')) (hr : (∃ v, r = .inl (some (.int v))) ∨ r = .inr 0) :
    vx_Met l yL_statistic (Jvm.Cond.codeWith yL_statistic cL_statistic 4 (some .int) [(0, 9, 12, 13)] :: zGw) (zhrm mC_statistic) (va_Pc [Value.ref lo, Value.int x1, Value.ref (lo + 139)] (zhPc D K lo cO f (zhp G))) (zhQc D K lo cO (zhf f r) (zhp G') (zhk (zk1 0) r)) (fun _ _ _ => False) 1 6 (zA lo (some 140)) := by
  refine vx_ofWH (cc := cL_statistic) (maxL := 4) (ret := some .int) (hh := [(0, 9, 12, 13)]) (ws' := zGw) (by decide) rfl ?_
  intro p e s m args below meth c s₁ BL hml hv
  obtain ⟨rfl, hX, hO, hKO⟩ := hv
  have hts0 := atoms_spec (ws := Jvm.Cond.codeWith yL_statistic cL_statistic 4 (some .int) [(0, 9, 12, 13)] :: zGw) BL.pre
  have hts : ∀ w ∈ zGw, w.before ([Value.ref lo, Value.int x1, Value.ref (lo + 139)]).toArray s = true := fun w hw => hts0 w (List.mem_cons_of_mem _ hw)
  have htab : c.exceptionTable.toList = tableOf [(0, 9, 12, 13)] := vx_table (x := yL_statistic) BL (hts0 _ List.mem_cons_self)
  have hown : s.vm.findClass "ShardRebalancerLaw" = some m.cls := findClass_of_methodNamed BL.named
  have hlv := lv_entry [Value.ref lo, Value.int x1, Value.ref (lo + 139)] (n := 4) (Nat.le_of_ble_eq_true rfl)
  rw [lg_entry_eq]
  generalize (lg_sl [Value.ref lo, Value.int x1, Value.ref (lo + 139)] ++ List.replicate (4 - (lg_sl [Value.ref lo, Value.int x1, Value.ref (lo + 139)]).length) Slot.unset).toArray = ls at hlv ⊢
  have hx := BL.exec
  have hb := BL.bytes
  have hret := BL.returns
  have hlk := BL.notSynchronized
  refine lv_aload_n hx hb dL_statistic_0 rfl (hlv.2.2 (2, .ref (lo + 139)) (List.mem_of_getElem? (i := 2) rfl)) ?_
  refine lv_iconst (v := 0) hx hb dL_statistic_1 rfl ?_
  refine lv_aload_n hx hb dL_statistic_2 rfl (hlv.2.2 (0, .ref lo) (List.mem_of_getElem? (i := 0) rfl)) ?_
  refine lv_iload_n hx hb dL_statistic_3 rfl (hlv.2.2 (1, .int x1) (List.mem_of_getElem? (i := 1) rfl)) ?_
  refine zhcall (as := [.int x1]) (ci := 7) (ix := 77) (n := 1) (nL := 4) (rest := [.int 0, .ref (lo + 139)]) hM ⟨hx, hb, hml, hown, hts⟩ hX (zob_o (by decide) rfl) rfl rfl hlv.1 rfl ?_ ⟨rfl, by decide +kernel⟩ rfl (Nat.le_of_ble_eq_true rfl) dL_statistic_4 (fun v H1 L1 hv hw hs => ?_) (fun x H1 L1 q ce hv hw hs hce hcv hcl => ?_)
  · exact List.forall_mem_cons.mpr ⟨gw_of 871 (by decide +kernel), List.forall_mem_cons.mpr ⟨gw_of 872 (by decide +kernel), List.forall_mem_cons.mpr ⟨gw_of 873 (by decide +kernel), List.forall_mem_cons.mpr ⟨gw_of 1 (by decide +kernel), zwl_in (gw_of 874 (by decide +kernel))⟩⟩⟩⟩
  · subst hv
    rcases hr with ⟨v0, hr⟩ | hr
    · cases hr
      exact zhend hx hb dL_statistic_7 dL_statistic_8 dL_statistic_9 (by decide) dL_statistic_15 dL_statistic_16 rfl hret hlk hw rfl hX.1.1.2 hs hO hKO
    · cases hr
  · subst hv
    rcases hr with ⟨v0, hr⟩ | hr
    · cases hr
    · cases hr
      refine vx_catch (own := "ShardRebalancerLaw") (name := zxE 0) (E := zxE 0) hown [] ⟨0, 9, 12, 13⟩ [] htab (fun z hz => nomatch hz) (by decide) (by decide) (hts _ (gw_of 341 (by decide +kernel))) (va_Nw.use rfl (hX.2.1 (.castable (zxE 0) (zxE 0)) (List.mem_of_getElem? (i := 3) rfl))) hce hcv hcl ?_
      exact zhcatN hx hb dL_statistic_12 rfl hlv (by decide) dL_statistic_13 (by decide) dL_statistic_14 hret hlk hw hs hO
theorem dL_event_0 : decode cL_event 0 = .ok (.aload_n 3, 1) := by decide +kernel
theorem dL_event_1 : decode cL_event 1 = .ok (.iconst 0, 1) := by decide +kernel
theorem dL_event_2 : decode cL_event 2 = .ok (.aload_n 0, 1) := by decide +kernel
theorem dL_event_3 : decode cL_event 3 = .ok (.iload_n 1, 1) := by decide +kernel
theorem dL_event_4 : decode cL_event 4 = .ok (.iload_n 2, 1) := by decide +kernel
theorem dL_event_5 : decode cL_event 5 = .ok (.invokevirtual 80, 3) := by decide +kernel
theorem dL_event_8 : decode cL_event 8 = .ok (.i2l, 1) := by decide +kernel
theorem dL_event_9 : decode cL_event 9 = .ok (.lastore, 1) := by decide +kernel
theorem dL_event_10 : decode cL_event 10 = .ok (.goto 11, 3) := by decide +kernel
theorem dL_event_13 : decode cL_event 13 = .ok (.astore 4, 2) := by decide +kernel
theorem dL_event_15 : decode cL_event 15 = .ok (.iconst 1, 1) := by decide +kernel
theorem dL_event_16 : decode cL_event 16 = .ok (.ireturn, 1) := by decide +kernel
theorem dL_event_17 : decode cL_event 17 = .ok (.astore 4, 2) := by decide +kernel
theorem dL_event_19 : decode cL_event 19 = .ok (.iconst 2, 1) := by decide +kernel
theorem dL_event_20 : decode cL_event 20 = .ok (.ireturn, 1) := by decide +kernel
theorem dL_event_21 : decode cL_event 21 = .ok (.iconst 0, 1) := by decide +kernel
theorem dL_event_22 : decode cL_event 22 = .ok (.ireturn, 1) := by decide +kernel
theorem zh_event {f : Nat → Int64} {G G' : Nat → Nat → Int32} {r : zRt} {x1 x2 : Int32} (hM : zxM zGw zNs l D vwCl K zxB zxSt lo (some 139) mC_event [.ref 0, .int x1, .int x2] (zhp G) r (zhp G')) (hr : (∃ v, r = .inl (some (.int v))) ∨ r = .inr 2 ∨ r = .inr 0) :
    vx_Met l yL_event (Jvm.Cond.codeWith yL_event cL_event 5 (some .int) [(0, 10, 13, 20), (0, 10, 17, 13)] :: zGw) (zhrm mC_event) (va_Pc [Value.ref lo, Value.int x1, Value.int x2, Value.ref (lo + 139)] (zhPc D K lo cO f (zhp G))) (zhQc D K lo cO (zhf f r) (zhp G') (zhk (zk2 2 0) r)) (fun _ _ _ => False) 1 6 (zA lo (some 140)) := by
  refine vx_ofWH (cc := cL_event) (maxL := 5) (ret := some .int) (hh := [(0, 10, 13, 20), (0, 10, 17, 13)]) (ws' := zGw) (by decide) rfl ?_
  intro p e s m args below meth c s₁ BL hml hv
  obtain ⟨rfl, hX, hO, hKO⟩ := hv
  have hts0 := atoms_spec (ws := Jvm.Cond.codeWith yL_event cL_event 5 (some .int) [(0, 10, 13, 20), (0, 10, 17, 13)] :: zGw) BL.pre
  have hts : ∀ w ∈ zGw, w.before ([Value.ref lo, Value.int x1, Value.int x2, Value.ref (lo + 139)]).toArray s = true := fun w hw => hts0 w (List.mem_cons_of_mem _ hw)
  have htab : c.exceptionTable.toList = tableOf [(0, 10, 13, 20), (0, 10, 17, 13)] := vx_table (x := yL_event) BL (hts0 _ List.mem_cons_self)
  have hown : s.vm.findClass "ShardRebalancerLaw" = some m.cls := findClass_of_methodNamed BL.named
  have hlv := lv_entry [Value.ref lo, Value.int x1, Value.int x2, Value.ref (lo + 139)] (n := 5) (Nat.le_of_ble_eq_true rfl)
  rw [lg_entry_eq]
  generalize (lg_sl [Value.ref lo, Value.int x1, Value.int x2, Value.ref (lo + 139)] ++ List.replicate (5 - (lg_sl [Value.ref lo, Value.int x1, Value.int x2, Value.ref (lo + 139)]).length) Slot.unset).toArray = ls at hlv ⊢
  have hx := BL.exec
  have hb := BL.bytes
  have hret := BL.returns
  have hlk := BL.notSynchronized
  refine lv_aload_n hx hb dL_event_0 rfl (hlv.2.2 (3, .ref (lo + 139)) (List.mem_of_getElem? (i := 3) rfl)) ?_
  refine lv_iconst (v := 0) hx hb dL_event_1 rfl ?_
  refine lv_aload_n hx hb dL_event_2 rfl (hlv.2.2 (0, .ref lo) (List.mem_of_getElem? (i := 0) rfl)) ?_
  refine lv_iload_n hx hb dL_event_3 rfl (hlv.2.2 (1, .int x1) (List.mem_of_getElem? (i := 1) rfl)) ?_
  refine lv_iload_n hx hb dL_event_4 rfl (hlv.2.2 (2, .int x2) (List.mem_of_getElem? (i := 2) rfl)) ?_
  refine zhcall (as := [.int x1, .int x2]) (ci := 7) (ix := 80) (n := 2) (nL := 5) (rest := [.int 0, .ref (lo + 139)]) hM ⟨hx, hb, hml, hown, hts⟩ hX (zob_o (by decide) rfl) rfl rfl hlv.1 rfl ?_ ⟨rfl, by decide +kernel⟩ rfl (Nat.le_of_ble_eq_true rfl) dL_event_5 (fun v H1 L1 hv hw hs => ?_) (fun x H1 L1 q ce hv hw hs hce hcv hcl => ?_)
  · exact List.forall_mem_cons.mpr ⟨gw_of 878 (by decide +kernel), List.forall_mem_cons.mpr ⟨gw_of 879 (by decide +kernel), List.forall_mem_cons.mpr ⟨gw_of 880 (by decide +kernel), List.forall_mem_cons.mpr ⟨gw_of 1 (by decide +kernel), zwl_in (gw_of 881 (by decide +kernel))⟩⟩⟩⟩
  · subst hv
    rcases hr with ⟨v0, hr⟩ | hr | hr
    · cases hr
      exact zhend hx hb dL_event_8 dL_event_9 dL_event_10 (by decide) dL_event_21 dL_event_22 rfl hret hlk hw rfl hX.1.1.2 hs hO hKO
    · cases hr
    · cases hr
  · subst hv
    rcases hr with ⟨v0, hr⟩ | hr | hr
    · cases hr
    · cases hr
      refine vx_catch (own := "ShardRebalancerLaw") (name := zxE 2) (E := zxE 2) hown [] ⟨0, 10, 13, 20⟩ [⟨0, 10, 17, 13⟩] htab (fun z hz => nomatch hz) (by decide) (by decide) (hts _ (gw_of 470 (by decide +kernel))) (va_Nw.use rfl (hX.2.1 (.castable (zxE 2) (zxE 2)) (List.mem_of_getElem? (i := 5) rfl))) hce hcv hcl ?_
      exact zhcatW hx hb dL_event_13 hlv (by decide) dL_event_15 (by decide) dL_event_16 hret hlk hw hs hO
    · cases hr
      refine vx_catch (own := "ShardRebalancerLaw") (name := zxE 0) (E := zxE 0) hown [⟨0, 10, 13, 20⟩] ⟨0, 10, 17, 13⟩ [] htab (List.forall_mem_cons.mpr ⟨Or.inr ⟨by decide, zxE 2, hts _ (gw_of 470 (by decide +kernel)), hX.2.2.1 (0, 2) (by decide)⟩, fun z hz => nomatch hz⟩) (by decide) (by decide) (hts _ (gw_of 341 (by decide +kernel))) (va_Nw.use rfl (hX.2.1 (.castable (zxE 0) (zxE 0)) (List.mem_of_getElem? (i := 3) rfl))) hce hcv hcl ?_
      exact zhcatW hx hb dL_event_17 hlv (by decide) dL_event_19 (by decide) dL_event_20 hret hlk hw hs hO
theorem dL_forget_0 : decode cL_forget 0 = .ok (.aload_n 2, 1) := by decide +kernel
theorem dL_forget_1 : decode cL_forget 1 = .ok (.iconst 0, 1) := by decide +kernel
theorem dL_forget_2 : decode cL_forget 2 = .ok (.aload_n 0, 1) := by decide +kernel
theorem dL_forget_3 : decode cL_forget 3 = .ok (.iload_n 1, 1) := by decide +kernel
theorem dL_forget_4 : decode cL_forget 4 = .ok (.invokevirtual 83, 3) := by decide +kernel
theorem dL_forget_7 : decode cL_forget 7 = .ok (.i2l, 1) := by decide +kernel
theorem dL_forget_8 : decode cL_forget 8 = .ok (.lastore, 1) := by decide +kernel
theorem dL_forget_9 : decode cL_forget 9 = .ok (.goto 6, 3) := by decide +kernel
theorem dL_forget_12 : decode cL_forget 12 = .ok (.astore_n 3, 1) := by decide +kernel
theorem dL_forget_13 : decode cL_forget 13 = .ok (.iconst 1, 1) := by decide +kernel
theorem dL_forget_14 : decode cL_forget 14 = .ok (.ireturn, 1) := by decide +kernel
theorem dL_forget_15 : decode cL_forget 15 = .ok (.iconst 0, 1) := by decide +kernel
theorem dL_forget_16 : decode cL_forget 16 = .ok (.ireturn, 1) := by decide +kernel
theorem zh_forget {f : Nat → Int64} {G G' : Nat → Nat → Int32} {r : zRt} {x1 : Int32} (hM : zxM zGw zNs l D vwCl K zxB zxSt lo (some 139) mC_forget [.ref 0, .int x1] (zhp G) r (zhp G')) (hr : (∃ v, r = .inl (some (.int v))) ∨ r = .inr 2) :
    vx_Met l yL_forget (Jvm.Cond.codeWith yL_forget cL_forget 4 (some .int) [(0, 9, 12, 20)] :: zGw) (zhrm mC_forget) (va_Pc [Value.ref lo, Value.int x1, Value.ref (lo + 139)] (zhPc D K lo cO f (zhp G))) (zhQc D K lo cO (zhf f r) (zhp G') (zhk (zk1 2) r)) (fun _ _ _ => False) 1 6 (zA lo (some 140)) := by
  refine vx_ofWH (cc := cL_forget) (maxL := 4) (ret := some .int) (hh := [(0, 9, 12, 20)]) (ws' := zGw) (by decide) rfl ?_
  intro p e s m args below meth c s₁ BL hml hv
  obtain ⟨rfl, hX, hO, hKO⟩ := hv
  have hts0 := atoms_spec (ws := Jvm.Cond.codeWith yL_forget cL_forget 4 (some .int) [(0, 9, 12, 20)] :: zGw) BL.pre
  have hts : ∀ w ∈ zGw, w.before ([Value.ref lo, Value.int x1, Value.ref (lo + 139)]).toArray s = true := fun w hw => hts0 w (List.mem_cons_of_mem _ hw)
  have htab : c.exceptionTable.toList = tableOf [(0, 9, 12, 20)] := vx_table (x := yL_forget) BL (hts0 _ List.mem_cons_self)
  have hown : s.vm.findClass "ShardRebalancerLaw" = some m.cls := findClass_of_methodNamed BL.named
  have hlv := lv_entry [Value.ref lo, Value.int x1, Value.ref (lo + 139)] (n := 4) (Nat.le_of_ble_eq_true rfl)
  rw [lg_entry_eq]
  generalize (lg_sl [Value.ref lo, Value.int x1, Value.ref (lo + 139)] ++ List.replicate (4 - (lg_sl [Value.ref lo, Value.int x1, Value.ref (lo + 139)]).length) Slot.unset).toArray = ls at hlv ⊢
  have hx := BL.exec
  have hb := BL.bytes
  have hret := BL.returns
  have hlk := BL.notSynchronized
  refine lv_aload_n hx hb dL_forget_0 rfl (hlv.2.2 (2, .ref (lo + 139)) (List.mem_of_getElem? (i := 2) rfl)) ?_
  refine lv_iconst (v := 0) hx hb dL_forget_1 rfl ?_
  refine lv_aload_n hx hb dL_forget_2 rfl (hlv.2.2 (0, .ref lo) (List.mem_of_getElem? (i := 0) rfl)) ?_
  refine lv_iload_n hx hb dL_forget_3 rfl (hlv.2.2 (1, .int x1) (List.mem_of_getElem? (i := 1) rfl)) ?_
  refine zhcall (as := [.int x1]) (ci := 7) (ix := 83) (n := 1) (nL := 4) (rest := [.int 0, .ref (lo + 139)]) hM ⟨hx, hb, hml, hown, hts⟩ hX (zob_o (by decide) rfl) rfl rfl hlv.1 rfl ?_ ⟨rfl, by decide +kernel⟩ rfl (Nat.le_of_ble_eq_true rfl) dL_forget_4 (fun v H1 L1 hv hw hs => ?_) (fun x H1 L1 q ce hv hw hs hce hcv hcl => ?_)
  · exact List.forall_mem_cons.mpr ⟨gw_of 886 (by decide +kernel), List.forall_mem_cons.mpr ⟨gw_of 887 (by decide +kernel), List.forall_mem_cons.mpr ⟨gw_of 888 (by decide +kernel), List.forall_mem_cons.mpr ⟨gw_of 1 (by decide +kernel), zwl_in (gw_of 889 (by decide +kernel))⟩⟩⟩⟩
  · subst hv
    rcases hr with ⟨v0, hr⟩ | hr
    · cases hr
      exact zhend hx hb dL_forget_7 dL_forget_8 dL_forget_9 (by decide) dL_forget_15 dL_forget_16 rfl hret hlk hw rfl hX.1.1.2 hs hO hKO
    · cases hr
  · subst hv
    rcases hr with ⟨v0, hr⟩ | hr
    · cases hr
    · cases hr
      refine vx_catch (own := "ShardRebalancerLaw") (name := zxE 2) (E := zxE 2) hown [] ⟨0, 9, 12, 20⟩ [] htab (fun z hz => nomatch hz) (by decide) (by decide) (hts _ (gw_of 470 (by decide +kernel))) (va_Nw.use rfl (hX.2.1 (.castable (zxE 2) (zxE 2)) (List.mem_of_getElem? (i := 5) rfl))) hce hcv hcl ?_
      exact zhcatN hx hb dL_forget_12 rfl hlv (by decide) dL_forget_13 (by decide) dL_forget_14 hret hlk hw hs hO
theorem dL_feed_0 : decode cL_feed 0 = .ok (.aload_n 2, 1) := by decide +kernel
theorem dL_feed_1 : decode cL_feed 1 = .ok (.iconst 0, 1) := by decide +kernel
theorem dL_feed_2 : decode cL_feed 2 = .ok (.aload_n 0, 1) := by decide +kernel
theorem dL_feed_3 : decode cL_feed 3 = .ok (.iload_n 1, 1) := by decide +kernel
theorem dL_feed_4 : decode cL_feed 4 = .ok (.invokevirtual 86, 3) := by decide +kernel
theorem dL_feed_7 : decode cL_feed 7 = .ok (.i2l, 1) := by decide +kernel
theorem dL_feed_8 : decode cL_feed 8 = .ok (.lastore, 1) := by decide +kernel
theorem dL_feed_9 : decode cL_feed 9 = .ok (.goto 6, 3) := by decide +kernel
theorem dL_feed_12 : decode cL_feed 12 = .ok (.astore_n 3, 1) := by decide +kernel
theorem dL_feed_13 : decode cL_feed 13 = .ok (.iconst 1, 1) := by decide +kernel
theorem dL_feed_14 : decode cL_feed 14 = .ok (.ireturn, 1) := by decide +kernel
theorem dL_feed_15 : decode cL_feed 15 = .ok (.iconst 0, 1) := by decide +kernel
theorem dL_feed_16 : decode cL_feed 16 = .ok (.ireturn, 1) := by decide +kernel
theorem zh_feed {f : Nat → Int64} {G G' : Nat → Nat → Int32} {r : zRt} {x1 : Int32} (hM : zxM zGw zNs l D vwCl K zxB zxSt lo (some 139) mC_feed [.ref 0, .int x1] (zhp G) r (zhp G')) (hr : (∃ v, r = .inl (some (.int v))) ∨ r = .inr 1) :
    vx_Met l yL_feed (Jvm.Cond.codeWith yL_feed cL_feed 4 (some .int) [(0, 9, 12, 15)] :: zGw) (zhrm mC_feed) (va_Pc [Value.ref lo, Value.int x1, Value.ref (lo + 139)] (zhPc D K lo cO f (zhp G))) (zhQc D K lo cO (zhf f r) (zhp G') (zhk (zk1 1) r)) (fun _ _ _ => False) 1 6 (zA lo (some 140)) := by
  refine vx_ofWH (cc := cL_feed) (maxL := 4) (ret := some .int) (hh := [(0, 9, 12, 15)]) (ws' := zGw) (by decide) rfl ?_
  intro p e s m args below meth c s₁ BL hml hv
  obtain ⟨rfl, hX, hO, hKO⟩ := hv
  have hts0 := atoms_spec (ws := Jvm.Cond.codeWith yL_feed cL_feed 4 (some .int) [(0, 9, 12, 15)] :: zGw) BL.pre
  have hts : ∀ w ∈ zGw, w.before ([Value.ref lo, Value.int x1, Value.ref (lo + 139)]).toArray s = true := fun w hw => hts0 w (List.mem_cons_of_mem _ hw)
  have htab : c.exceptionTable.toList = tableOf [(0, 9, 12, 15)] := vx_table (x := yL_feed) BL (hts0 _ List.mem_cons_self)
  have hown : s.vm.findClass "ShardRebalancerLaw" = some m.cls := findClass_of_methodNamed BL.named
  have hlv := lv_entry [Value.ref lo, Value.int x1, Value.ref (lo + 139)] (n := 4) (Nat.le_of_ble_eq_true rfl)
  rw [lg_entry_eq]
  generalize (lg_sl [Value.ref lo, Value.int x1, Value.ref (lo + 139)] ++ List.replicate (4 - (lg_sl [Value.ref lo, Value.int x1, Value.ref (lo + 139)]).length) Slot.unset).toArray = ls at hlv ⊢
  have hx := BL.exec
  have hb := BL.bytes
  have hret := BL.returns
  have hlk := BL.notSynchronized
  refine lv_aload_n hx hb dL_feed_0 rfl (hlv.2.2 (2, .ref (lo + 139)) (List.mem_of_getElem? (i := 2) rfl)) ?_
  refine lv_iconst (v := 0) hx hb dL_feed_1 rfl ?_
  refine lv_aload_n hx hb dL_feed_2 rfl (hlv.2.2 (0, .ref lo) (List.mem_of_getElem? (i := 0) rfl)) ?_
  refine lv_iload_n hx hb dL_feed_3 rfl (hlv.2.2 (1, .int x1) (List.mem_of_getElem? (i := 1) rfl)) ?_
  refine zhcall (as := [.int x1]) (ci := 7) (ix := 86) (n := 1) (nL := 4) (rest := [.int 0, .ref (lo + 139)]) hM ⟨hx, hb, hml, hown, hts⟩ hX (zob_o (by decide) rfl) rfl rfl hlv.1 rfl ?_ ⟨rfl, by decide +kernel⟩ rfl (Nat.le_of_ble_eq_true rfl) dL_feed_4 (fun v H1 L1 hv hw hs => ?_) (fun x H1 L1 q ce hv hw hs hce hcv hcl => ?_)
  · exact List.forall_mem_cons.mpr ⟨gw_of 898 (by decide +kernel), List.forall_mem_cons.mpr ⟨gw_of 899 (by decide +kernel), List.forall_mem_cons.mpr ⟨gw_of 900 (by decide +kernel), List.forall_mem_cons.mpr ⟨gw_of 1 (by decide +kernel), zwl_in (gw_of 901 (by decide +kernel))⟩⟩⟩⟩
  · subst hv
    rcases hr with ⟨v0, hr⟩ | hr
    · cases hr
      exact zhend hx hb dL_feed_7 dL_feed_8 dL_feed_9 (by decide) dL_feed_15 dL_feed_16 rfl hret hlk hw rfl hX.1.1.2 hs hO hKO
    · cases hr
  · subst hv
    rcases hr with ⟨v0, hr⟩ | hr
    · cases hr
    · cases hr
      refine vx_catch (own := "ShardRebalancerLaw") (name := zxE 1) (E := zxE 1) hown [] ⟨0, 9, 12, 15⟩ [] htab (fun z hz => nomatch hz) (by decide) (by decide) (hts _ (gw_of 342 (by decide +kernel))) (va_Nw.use rfl (hX.2.1 (.castable (zxE 1) (zxE 1)) (List.mem_of_getElem? (i := 4) rfl))) hce hcv hcl ?_
      exact zhcatN hx hb dL_feed_12 rfl hlv (by decide) dL_feed_13 (by decide) dL_feed_14 hret hlk hw hs hO
theorem dL_perform_0 : decode cL_perform 0 = .ok (.aload_n 1, 1) := by decide +kernel
theorem dL_perform_1 : decode cL_perform 1 = .ok (.iconst 0, 1) := by decide +kernel
theorem dL_perform_2 : decode cL_perform 2 = .ok (.aload_n 0, 1) := by decide +kernel
theorem dL_perform_3 : decode cL_perform 3 = .ok (.invokevirtual 90, 3) := by decide +kernel
theorem dL_perform_6 : decode cL_perform 6 = .ok (.i2l, 1) := by decide +kernel
theorem dL_perform_7 : decode cL_perform 7 = .ok (.lastore, 1) := by decide +kernel
theorem dL_perform_8 : decode cL_perform 8 = .ok (.goto 6, 3) := by decide +kernel
theorem dL_perform_11 : decode cL_perform 11 = .ok (.astore_n 2, 1) := by decide +kernel
theorem dL_perform_12 : decode cL_perform 12 = .ok (.iconst 1, 1) := by decide +kernel
theorem dL_perform_13 : decode cL_perform 13 = .ok (.ireturn, 1) := by decide +kernel
theorem dL_perform_14 : decode cL_perform 14 = .ok (.iconst 0, 1) := by decide +kernel
theorem dL_perform_15 : decode cL_perform 15 = .ok (.ireturn, 1) := by decide +kernel
theorem zh_perform {f : Nat → Int64} {G G' : Nat → Nat → Int32} {r : zRt} (hM : zxM zGw zNs l D vwCl K zxB zxSt lo (some 139) mC_perform [.ref 0] (zhp G) r (zhp G')) (hr : (∃ v, r = .inl (some (.int v))) ∨ r = .inr 5) :
    vx_Met l yL_perform (Jvm.Cond.codeWith yL_perform cL_perform 3 (some .int) [(0, 8, 11, 93)] :: zGw) (zhrm mC_perform) (va_Pc [Value.ref lo, Value.ref (lo + 139)] (zhPc D K lo cO f (zhp G))) (zhQc D K lo cO (zhf f r) (zhp G') (zhk (zk1 5) r)) (fun _ _ _ => False) 1 6 (zA lo (some 140)) := by
  refine vx_ofWH (cc := cL_perform) (maxL := 3) (ret := some .int) (hh := [(0, 8, 11, 93)]) (ws' := zGw) (by decide) rfl ?_
  intro p e s m args below meth c s₁ BL hml hv
  obtain ⟨rfl, hX, hO, hKO⟩ := hv
  have hts0 := atoms_spec (ws := Jvm.Cond.codeWith yL_perform cL_perform 3 (some .int) [(0, 8, 11, 93)] :: zGw) BL.pre
  have hts : ∀ w ∈ zGw, w.before ([Value.ref lo, Value.ref (lo + 139)]).toArray s = true := fun w hw => hts0 w (List.mem_cons_of_mem _ hw)
  have htab : c.exceptionTable.toList = tableOf [(0, 8, 11, 93)] := vx_table (x := yL_perform) BL (hts0 _ List.mem_cons_self)
  have hown : s.vm.findClass "ShardRebalancerLaw" = some m.cls := findClass_of_methodNamed BL.named
  have hlv := lv_entry [Value.ref lo, Value.ref (lo + 139)] (n := 3) (Nat.le_of_ble_eq_true rfl)
  rw [lg_entry_eq]
  generalize (lg_sl [Value.ref lo, Value.ref (lo + 139)] ++ List.replicate (3 - (lg_sl [Value.ref lo, Value.ref (lo + 139)]).length) Slot.unset).toArray = ls at hlv ⊢
  have hx := BL.exec
  have hb := BL.bytes
  have hret := BL.returns
  have hlk := BL.notSynchronized
  refine lv_aload_n hx hb dL_perform_0 rfl (hlv.2.2 (1, .ref (lo + 139)) (List.mem_of_getElem? (i := 1) rfl)) ?_
  refine lv_iconst (v := 0) hx hb dL_perform_1 rfl ?_
  refine lv_aload_n hx hb dL_perform_2 rfl (hlv.2.2 (0, .ref lo) (List.mem_of_getElem? (i := 0) rfl)) ?_
  refine zhcall (as := []) (ci := 7) (ix := 90) (n := 0) (nL := 3) (rest := [.int 0, .ref (lo + 139)]) hM ⟨hx, hb, hml, hown, hts⟩ hX (zob_o (by decide) rfl) rfl rfl hlv.1 rfl ?_ ⟨rfl, by decide +kernel⟩ rfl (Nat.le_of_ble_eq_true rfl) dL_perform_3 (fun v H1 L1 hv hw hs => ?_) (fun x H1 L1 q ce hv hw hs hce hcv hcl => ?_)
  · exact List.forall_mem_cons.mpr ⟨gw_of 915 (by decide +kernel), List.forall_mem_cons.mpr ⟨gw_of 916 (by decide +kernel), List.forall_mem_cons.mpr ⟨gw_of 917 (by decide +kernel), List.forall_mem_cons.mpr ⟨gw_of 1 (by decide +kernel), zwl_in (gw_of 918 (by decide +kernel))⟩⟩⟩⟩
  · subst hv
    rcases hr with ⟨v0, hr⟩ | hr
    · cases hr
      exact zhend hx hb dL_perform_6 dL_perform_7 dL_perform_8 (by decide) dL_perform_14 dL_perform_15 rfl hret hlk hw rfl hX.1.1.2 hs hO hKO
    · cases hr
  · subst hv
    rcases hr with ⟨v0, hr⟩ | hr
    · cases hr
    · cases hr
      refine vx_catch (own := "ShardRebalancerLaw") (name := zxE 5) (E := zxE 5) hown [] ⟨0, 8, 11, 93⟩ [] htab (fun z hz => nomatch hz) (by decide) (by decide) (hts _ (gw_of 914 (by decide +kernel))) (va_Nw.use rfl (hX.2.1 (.castable (zxE 5) (zxE 5)) (List.mem_of_getElem? (i := 8) rfl))) hce hcv hcl ?_
      exact zhcatN hx hb dL_perform_11 rfl hlv (by decide) dL_perform_12 (by decide) dL_perform_13 hret hlk hw hs hO
theorem dL_undo_0 : decode cL_undo 0 = .ok (.aload_n 1, 1) := by decide +kernel
theorem dL_undo_1 : decode cL_undo 1 = .ok (.iconst 0, 1) := by decide +kernel
theorem dL_undo_2 : decode cL_undo 2 = .ok (.aload_n 0, 1) := by decide +kernel
theorem dL_undo_3 : decode cL_undo 3 = .ok (.invokevirtual 95, 3) := by decide +kernel
theorem dL_undo_6 : decode cL_undo 6 = .ok (.i2l, 1) := by decide +kernel
theorem dL_undo_7 : decode cL_undo 7 = .ok (.lastore, 1) := by decide +kernel
theorem dL_undo_8 : decode cL_undo 8 = .ok (.goto 6, 3) := by decide +kernel
theorem dL_undo_11 : decode cL_undo 11 = .ok (.astore_n 2, 1) := by decide +kernel
theorem dL_undo_12 : decode cL_undo 12 = .ok (.iconst 1, 1) := by decide +kernel
theorem dL_undo_13 : decode cL_undo 13 = .ok (.ireturn, 1) := by decide +kernel
theorem dL_undo_14 : decode cL_undo 14 = .ok (.iconst 0, 1) := by decide +kernel
theorem dL_undo_15 : decode cL_undo 15 = .ok (.ireturn, 1) := by decide +kernel
theorem zh_undo {f : Nat → Int64} {G G' : Nat → Nat → Int32} {r : zRt} (hM : zxM zGw zNs l D vwCl K zxB zxSt lo (some 139) mC_undo [.ref 0] (zhp G) r (zhp G')) (hr : (∃ v, r = .inl (some (.int v))) ∨ r = .inr 1) :
    vx_Met l yL_undo (Jvm.Cond.codeWith yL_undo cL_undo 3 (some .int) [(0, 8, 11, 15)] :: zGw) (zhrm mC_undo) (va_Pc [Value.ref lo, Value.ref (lo + 139)] (zhPc D K lo cO f (zhp G))) (zhQc D K lo cO (zhf f r) (zhp G') (zhk (zk1 1) r)) (fun _ _ _ => False) 1 6 (zA lo (some 140)) := by
  refine vx_ofWH (cc := cL_undo) (maxL := 3) (ret := some .int) (hh := [(0, 8, 11, 15)]) (ws' := zGw) (by decide) rfl ?_
  intro p e s m args below meth c s₁ BL hml hv
  obtain ⟨rfl, hX, hO, hKO⟩ := hv
  have hts0 := atoms_spec (ws := Jvm.Cond.codeWith yL_undo cL_undo 3 (some .int) [(0, 8, 11, 15)] :: zGw) BL.pre
  have hts : ∀ w ∈ zGw, w.before ([Value.ref lo, Value.ref (lo + 139)]).toArray s = true := fun w hw => hts0 w (List.mem_cons_of_mem _ hw)
  have htab : c.exceptionTable.toList = tableOf [(0, 8, 11, 15)] := vx_table (x := yL_undo) BL (hts0 _ List.mem_cons_self)
  have hown : s.vm.findClass "ShardRebalancerLaw" = some m.cls := findClass_of_methodNamed BL.named
  have hlv := lv_entry [Value.ref lo, Value.ref (lo + 139)] (n := 3) (Nat.le_of_ble_eq_true rfl)
  rw [lg_entry_eq]
  generalize (lg_sl [Value.ref lo, Value.ref (lo + 139)] ++ List.replicate (3 - (lg_sl [Value.ref lo, Value.ref (lo + 139)]).length) Slot.unset).toArray = ls at hlv ⊢
  have hx := BL.exec
  have hb := BL.bytes
  have hret := BL.returns
  have hlk := BL.notSynchronized
  refine lv_aload_n hx hb dL_undo_0 rfl (hlv.2.2 (1, .ref (lo + 139)) (List.mem_of_getElem? (i := 1) rfl)) ?_
  refine lv_iconst (v := 0) hx hb dL_undo_1 rfl ?_
  refine lv_aload_n hx hb dL_undo_2 rfl (hlv.2.2 (0, .ref lo) (List.mem_of_getElem? (i := 0) rfl)) ?_
  refine zhcall (as := []) (ci := 7) (ix := 95) (n := 0) (nL := 3) (rest := [.int 0, .ref (lo + 139)]) hM ⟨hx, hb, hml, hown, hts⟩ hX (zob_o (by decide) rfl) rfl rfl hlv.1 rfl ?_ ⟨rfl, by decide +kernel⟩ rfl (Nat.le_of_ble_eq_true rfl) dL_undo_3 (fun v H1 L1 hv hw hs => ?_) (fun x H1 L1 q ce hv hw hs hce hcv hcl => ?_)
  · exact List.forall_mem_cons.mpr ⟨gw_of 984 (by decide +kernel), List.forall_mem_cons.mpr ⟨gw_of 985 (by decide +kernel), List.forall_mem_cons.mpr ⟨gw_of 986 (by decide +kernel), List.forall_mem_cons.mpr ⟨gw_of 1 (by decide +kernel), zwl_in (gw_of 987 (by decide +kernel))⟩⟩⟩⟩
  · subst hv
    rcases hr with ⟨v0, hr⟩ | hr
    · cases hr
      exact zhend hx hb dL_undo_6 dL_undo_7 dL_undo_8 (by decide) dL_undo_14 dL_undo_15 rfl hret hlk hw rfl hX.1.1.2 hs hO hKO
    · cases hr
  · subst hv
    rcases hr with ⟨v0, hr⟩ | hr
    · cases hr
    · cases hr
      refine vx_catch (own := "ShardRebalancerLaw") (name := zxE 1) (E := zxE 1) hown [] ⟨0, 8, 11, 15⟩ [] htab (fun z hz => nomatch hz) (by decide) (by decide) (hts _ (gw_of 342 (by decide +kernel))) (va_Nw.use rfl (hX.2.1 (.castable (zxE 1) (zxE 1)) (List.mem_of_getElem? (i := 4) rfl))) hce hcv hcl ?_
      exact zhcatN hx hb dL_undo_11 rfl hlv (by decide) dL_undo_12 (by decide) dL_undo_13 hret hlk hw hs hO
theorem dL_restore_0 : decode cL_restore 0 = .ok (.aload_n 1, 1) := by decide +kernel
theorem dL_restore_1 : decode cL_restore 1 = .ok (.iconst 0, 1) := by decide +kernel
theorem dL_restore_2 : decode cL_restore 2 = .ok (.aload_n 0, 1) := by decide +kernel
theorem dL_restore_3 : decode cL_restore 3 = .ok (.invokevirtual 98, 3) := by decide +kernel
theorem dL_restore_6 : decode cL_restore 6 = .ok (.i2l, 1) := by decide +kernel
theorem dL_restore_7 : decode cL_restore 7 = .ok (.lastore, 1) := by decide +kernel
theorem dL_restore_8 : decode cL_restore 8 = .ok (.goto 6, 3) := by decide +kernel
theorem dL_restore_11 : decode cL_restore 11 = .ok (.astore_n 2, 1) := by decide +kernel
theorem dL_restore_12 : decode cL_restore 12 = .ok (.iconst 1, 1) := by decide +kernel
theorem dL_restore_13 : decode cL_restore 13 = .ok (.ireturn, 1) := by decide +kernel
theorem dL_restore_14 : decode cL_restore 14 = .ok (.iconst 0, 1) := by decide +kernel
theorem dL_restore_15 : decode cL_restore 15 = .ok (.ireturn, 1) := by decide +kernel
theorem zh_restore {f : Nat → Int64} {G G' : Nat → Nat → Int32} {r : zRt} (hM : zxM zGw zNs l D vwCl K zxB zxSt lo (some 139) mC_restore [.ref 0] (zhp G) r (zhp G')) (hr : (∃ v, r = .inl (some (.int v))) ∨ r = .inr 1) :
    vx_Met l yL_restore (Jvm.Cond.codeWith yL_restore cL_restore 3 (some .int) [(0, 8, 11, 15)] :: zGw) (zhrm mC_restore) (va_Pc [Value.ref lo, Value.ref (lo + 139)] (zhPc D K lo cO f (zhp G))) (zhQc D K lo cO (zhf f r) (zhp G') (zhk (zk1 1) r)) (fun _ _ _ => False) 1 6 (zA lo (some 140)) := by
  refine vx_ofWH (cc := cL_restore) (maxL := 3) (ret := some .int) (hh := [(0, 8, 11, 15)]) (ws' := zGw) (by decide) rfl ?_
  intro p e s m args below meth c s₁ BL hml hv
  obtain ⟨rfl, hX, hO, hKO⟩ := hv
  have hts0 := atoms_spec (ws := Jvm.Cond.codeWith yL_restore cL_restore 3 (some .int) [(0, 8, 11, 15)] :: zGw) BL.pre
  have hts : ∀ w ∈ zGw, w.before ([Value.ref lo, Value.ref (lo + 139)]).toArray s = true := fun w hw => hts0 w (List.mem_cons_of_mem _ hw)
  have htab : c.exceptionTable.toList = tableOf [(0, 8, 11, 15)] := vx_table (x := yL_restore) BL (hts0 _ List.mem_cons_self)
  have hown : s.vm.findClass "ShardRebalancerLaw" = some m.cls := findClass_of_methodNamed BL.named
  have hlv := lv_entry [Value.ref lo, Value.ref (lo + 139)] (n := 3) (Nat.le_of_ble_eq_true rfl)
  rw [lg_entry_eq]
  generalize (lg_sl [Value.ref lo, Value.ref (lo + 139)] ++ List.replicate (3 - (lg_sl [Value.ref lo, Value.ref (lo + 139)]).length) Slot.unset).toArray = ls at hlv ⊢
  have hx := BL.exec
  have hb := BL.bytes
  have hret := BL.returns
  have hlk := BL.notSynchronized
  refine lv_aload_n hx hb dL_restore_0 rfl (hlv.2.2 (1, .ref (lo + 139)) (List.mem_of_getElem? (i := 1) rfl)) ?_
  refine lv_iconst (v := 0) hx hb dL_restore_1 rfl ?_
  refine lv_aload_n hx hb dL_restore_2 rfl (hlv.2.2 (0, .ref lo) (List.mem_of_getElem? (i := 0) rfl)) ?_
  refine zhcall (as := []) (ci := 7) (ix := 98) (n := 0) (nL := 3) (rest := [.int 0, .ref (lo + 139)]) hM ⟨hx, hb, hml, hown, hts⟩ hX (zob_o (by decide) rfl) rfl rfl hlv.1 rfl ?_ ⟨rfl, by decide +kernel⟩ rfl (Nat.le_of_ble_eq_true rfl) dL_restore_3 (fun v H1 L1 hv hw hs => ?_) (fun x H1 L1 q ce hv hw hs hce hcv hcl => ?_)
  · exact List.forall_mem_cons.mpr ⟨gw_of 996 (by decide +kernel), List.forall_mem_cons.mpr ⟨gw_of 997 (by decide +kernel), List.forall_mem_cons.mpr ⟨gw_of 998 (by decide +kernel), List.forall_mem_cons.mpr ⟨gw_of 1 (by decide +kernel), zwl_in (gw_of 999 (by decide +kernel))⟩⟩⟩⟩
  · subst hv
    rcases hr with ⟨v0, hr⟩ | hr
    · cases hr
      exact zhend hx hb dL_restore_6 dL_restore_7 dL_restore_8 (by decide) dL_restore_14 dL_restore_15 rfl hret hlk hw rfl hX.1.1.2 hs hO hKO
    · cases hr
  · subst hv
    rcases hr with ⟨v0, hr⟩ | hr
    · cases hr
    · cases hr
      refine vx_catch (own := "ShardRebalancerLaw") (name := zxE 1) (E := zxE 1) hown [] ⟨0, 8, 11, 15⟩ [] htab (fun z hz => nomatch hz) (by decide) (by decide) (hts _ (gw_of 342 (by decide +kernel))) (va_Nw.use rfl (hX.2.1 (.castable (zxE 1) (zxE 1)) (List.mem_of_getElem? (i := 4) rfl))) hce hcv hcl ?_
      exact zhcatN hx hb dL_restore_11 rfl hlv (by decide) dL_restore_12 (by decide) dL_restore_13 hret hlk hw hs hO
end ZHELPS
