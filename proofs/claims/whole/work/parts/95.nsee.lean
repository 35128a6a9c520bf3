section ZNSEE
/-- the words of NoSuchElementException's making -/
def zx3L : List Jvm.Cond := Bundle.throwableAtoms ++ Bundle.throwableSAtoms ++ Bundle.passSAtoms (zxE 3) "java/lang/RuntimeException" 13 prog_25_method_4_code ++ Bundle.chainSAtoms "java/lang/RuntimeException" ["java/lang/Exception"] ++
  [.methodLink "ShardRebalancer" 191 (Bundle.initS (zxE 3)), .instantiable (zxE 3) 6, .selects (zxE 3) Bundle.tFill0 Bundle.tFill0, .selects (zxE 3) Bundle.tFill Bundle.tFill,
   .lays (zxE 3) Bundle.tN "cause" "Ljava/lang/Throwable;", .lays (zxE 3) Bundle.tN "stackTrace" Bundle.steD, .lays (zxE 3) Bundle.tN "suppressedExceptions" Bundle.listD, .lays (zxE 3) Bundle.tN "detailMessage" "Ljava/lang/String;",
   .fieldLink Bundle.tN 198 Bundle.tN "backtrace" "Ljava/lang/Object;", .lays Bundle.tN Bundle.tN "backtrace" "Ljava/lang/Object;", .lays (zxE 3) Bundle.tN "backtrace" "Ljava/lang/Object;"]
theorem zxa_3 : ∀ w ∈ zx3L.filter vx_no, w ∈ zGw ∨ w ∈ zxV := gx_of [10, 372, 381, 389, 392, 394, 373, 374, 30, 31, 375, 380, 390, 410, 362, 411, 364, 412, 366, 376, 378, 368, 406, 407, 409, 368, 645, 646, 647, 400, 354, 400, 401, 402, 403, 356, 403, 404, 405, 406, 358, 644, 635, 637, 388, 638, 639, 640, 641, 371, 370, 642] (by decide +kernel)
theorem zxk_3 : Jvm.Cond.classLink "ShardRebalancer" 187 (zxE 3) ∈ zGw := gw_of 634 (by decide +kernel)
theorem zxi_3 : Jvm.Cond.initialized (zxE 3) ∈ zGw := gw_of 19 (by decide +kernel)
theorem zx3_0 : decode prog_25_method_4_code 0 = .ok (.aload_n 0, 1) := by decide +kernel
theorem zx3_1 : decode prog_25_method_4_code 1 = .ok (.aload_n 1, 1) := by decide +kernel
theorem zx3_2 : decode prog_25_method_4_code 2 = .ok (.invokespecial 13, 3) := by decide +kernel
theorem zx3_5 : decode prog_25_method_4_code 5 = .ok (.return_, 1) := by decide +kernel
variable {l : Launch} {B : List (Nat × Nat)} {sts : List (Nat × String)}
theorem zthr3 {me : zMe} {pc is : Nat} {text : String} (hl : l.stackTraces = false) (ho : zOw me = "ShardRebalancer") (hst : (is, text) ∈ sts)
    (d0 : decode (zb me) pc = .ok (.new 187, 3)) (d3 : decode (zb me) (pc + 3) = .ok (.dup, 1)) (d4 : decode (zb me) (pc + 4) = .ok (.ldc is, 2)) (d6 : decode (zb me) (pc + 6) = .ok (.invokespecial 191, 3)) (d9 : decode (zb me) (pc + 9) = .ok (.athrow, 1)) : zxT l zGw B sts me (zx pc 3 .athrow 3) := by
  intro lo nb p e R s m args below meth c H locs ls Qc XC hexec hb hown hw hX hS hsize hno r1 r2 r3 r4 hlocks hx
  obtain ⟨sa, hstr⟩ := hX.2.2.1 _ hst
  have hU := hX.2.2.2.1
  have hN := hX.2.2.2.2
  rw [ho] at hown
  intro T hT X
  have htr : e.platform.stackTraces = false := (show e.platform.stackTraces = l.stackTraces by rw [X.admits.platform]).trans hl
  have Y := vx_rebase X (R' := { frames := R.frames, locals := R.locals, cells := 1, slots := 6 }) (Nat.le_refl _) (Nat.le_refl _) r3 r4
  obtain ⟨s', hA⟩ : ∃ z, z = (T.setVm s.vm).setFrames (.invoking m args :: below) := ⟨_, rfl⟩
  rw [← hA] at Y
  have hvm : s'.vm = s.vm := by rw [hA]; rfl
  have hhp : s'.heap = H := by rw [hA]; exact hT
  have hW0 : s.WarmedH s'.vm := by rw [hvm]; exact State.WarmedH.refl s
  have hin : ∀ w ∈ zGw, w.before args s' = true := fun w h2 => vx_ot_at hW0 hvm.symm (by unfold vx_ot; rw [zGw_good w h2, Bool.or_true]) (hw w h2)
  have hU' : vx_Zq Bundle.tN "UNASSIGNED_STACK" Bundle.steD (zA lo nb) s' s'.heap := by rw [hhp]; exact vx_Zq.moved hW0.alike (hU.kept hS.2.1)
  have hN' : vx_Zq Bundle.tN "SUPPRESSED_SENTINEL" Bundle.listD (zA lo nb) s' s'.heap := by rw [hhp]; exact vx_Zq.moved hW0.alike (hN.kept hS.2.1)
  have h : ∀ w ∈ zx3L, w.before args s' = true := vx_own (fun w hw2 => (zxa_3 w hw2).elim (hin w) (fun h2 => va_tabs (zxV_t w h2) hvm.symm (hX.1 w h2))) (vx_isRefq hU'.1) (vx_isRefq hN'.1) hU'.2.word hN'.2.word
  have hown' : s'.vm.findClass "ShardRebalancer" = some m.cls := by rw [hvm]; exact hown
  have hins : (Cond.instantiable (zxE 3) 6).before args s' = true := h _ (by simp [zx3L])
  obtain ⟨vm₁, cX, kX, hfX, hkX, -, -, X₁, st1⟩ := Y.newCold hexec (own := "ShardRebalancer") (C := zxE 3) (index := 187) (n := 6) hown' (hin _ zxk_3) hins (hin _ zxi_3)
    (g := F0 m pc ls []) rfl (by rw [hb]; exact d0) (Nat.le_refl _) (Nat.le_refl _)
  generalize hT1 : (T.setVm vm₁).pushCell { cls := cX, slots := kX.instanceTypes.map defaultValue, vm := .none } = T1 at X₁ st1
  have hcellA : T1.heap[T.heap.size]? = some (freshCell cX kX) := by rw [← hT1]; exact State.heap_pushCell_size _ _
  have d3' : decode c.code (pc + 3) = .ok (.dup, 1) := by rw [hb]; exact d3
  have d4' : decode c.code (pc + 4) = .ok (.ldc is, 2) := by rw [hb]; exact d4
  have hstr' : vk_R "ShardRebalancer" is text sa s' := vk_R.warm hW0 hstr
  have hin3 : ∀ {L : List Jvm.Cond}, (∀ w ∈ L, w ∈ zx3L) → ∀ w ∈ L, w.before args s' = true := fun hL w hw2 => h w (hL w hw2)
  obtain ⟨U, hsteps, hrun, hend, hW, hsame, ce, hce, hvn, hcc⟩ := zx_ctor X₁ hexec htr (own := "ShardRebalancer") (cls := zxE 3) (Y0 := "java/lang/RuntimeException") (names := ["java/lang/Exception"]) (ic := 191) (ix := 13) (rx := prog_25_method_4_code) zx3_0 zx3_1 zx3_2 zx3_5
    hown' (by decide +kernel) (by decide +kernel) (by decide +kernel)
    (hin3 fun w hw2 => by unfold zx3L; simp only [List.mem_append]; exact Or.inl (Or.inl (Or.inl (Or.inl hw2))))
    (hin3 fun w hw2 => by unfold zx3L; simp only [List.mem_append]; exact Or.inl (Or.inl (Or.inl (Or.inr hw2))))
    (hin3 fun w hw2 => by unfold zx3L; simp only [List.mem_append]; exact Or.inl (Or.inl (Or.inr hw2)))
    (hin3 fun w hw2 => by unfold zx3L; simp only [List.mem_append]; exact Or.inl (Or.inr hw2))
    (h _ (by simp [zx3L])) hins (h _ (by simp [zx3L])) (h _ (by simp [zx3L])) (h _ (by simp [zx3L])) (h _ (by simp [zx3L])) (h _ (by simp [zx3L])) (h _ (by simp [zx3L]))
    (vx_isRefq hU'.1) (vx_isRefq hN'.1) (h _ (by simp [zx3L])) (h _ (by simp [zx3L])) (h _ (by simp [zx3L]))
    (fun x hx => nomatch hx) hfX hkX hcellA (by rw [hhp, hT]; exact Nat.le_refl _) (msg := .ref sa) rfl
    (g := { method := m, pc := pc + 6, locals := ls, stack := .ref sa :: .ref T.heap.size :: .ref T.heap.size :: [], locked := none }) rfl hsize rfl rfl (rest := []) rfl
    (by rw [hb]; exact d6) (by rw [hb]; exact d9) (fun x hx => (hno x hx).elim) (by show 1 + 4 < R.frames; omega) (by show 2 * 0 + (1 + 0) + (13 * (1 + 2) + 42) ≤ R.locals; omega) hlocks
  obtain ⟨f1, f2⟩ := vx_frame hsame
  rw [hhp] at f1 f2
  have hWs : s.WarmedH U.vm := State.WarmedH.trans hW0 hW
  have hcl : s.vm.findClass (zxE 3) = some ce.cls := by
    rw [hvm] at hcc
    exact hcc
  have hall : s.sameButNew ({ U with vm := s.vm } : State) locs 1 6 := by
    subst hA
    obtain ⟨e1, e2⟩ := hsame
    rw [State.setFrames_setFrames] at e1
    have h2 : (T.setVm s.vm).sameButNew ({ U with vm := s.vm } : State) [] (0 + 1) (0 + 6) := ⟨e1, e2⟩
    have h3 := X.same.trans h2
    rw [List.append_nil] at h3
    exact h3.mono (by omega) (by omega)
  refine ⟨U, ?_, .threw T.heap.size, hrun, hend, Or.inr ⟨T.heap.size, rfl, zxE 3, ce, locs, hx U hWs.alike f1 (fun q hq => f2 q hq (fun z hz => nomatch hz)), hce, hvn, hcl, hWs, hall, hS.2.2⟩⟩
  refine st1 _ ?_
  show Steps p.tables e below (T1.setTop { method := m, pc := pc + 3, locals := ls, stack := .ref T.heap.size :: [], locked := none }) _
  jvm_step X₁.here [X₁.here.top, hexec, d3', Value.category]
  exact X₁.ldcString hexec (own := "ShardRebalancer") (text := text) (index := is) (a := sa) hown' hstr'.1 hstr'.2
    (g := { method := m, pc := pc + 4, locals := ls, stack := .ref T.heap.size :: .ref T.heap.size :: [], locked := none }) rfl d4' _ hsteps
theorem zthr3W {me : zMe} {pc is : Nat} {text : String} (hl : l.stackTraces = false) (ho : zOw me = "ShardRebalancer") (hst : (is, text) ∈ sts)
    (d0 : decode (zb me) pc = .ok (.new 187, 3)) (d3 : decode (zb me) (pc + 3) = .ok (.dup, 1)) (d4 : decode (zb me) (pc + 4) = .ok (.ldc_w is, 3)) (d6 : decode (zb me) (pc + 7) = .ok (.invokespecial 191, 3)) (d9 : decode (zb me) (pc + 10) = .ok (.athrow, 1)) : zxT l zGw B sts me (zx pc 3 .athrow 3) := by
  intro lo nb p e R s m args below meth c H locs ls Qc XC hexec hb hown hw hX hS hsize hno r1 r2 r3 r4 hlocks hx
  obtain ⟨sa, hstr⟩ := hX.2.2.1 _ hst
  have hU := hX.2.2.2.1
  have hN := hX.2.2.2.2
  rw [ho] at hown
  intro T hT X
  have htr : e.platform.stackTraces = false := (show e.platform.stackTraces = l.stackTraces by rw [X.admits.platform]).trans hl
  have Y := vx_rebase X (R' := { frames := R.frames, locals := R.locals, cells := 1, slots := 6 }) (Nat.le_refl _) (Nat.le_refl _) r3 r4
  obtain ⟨s', hA⟩ : ∃ z, z = (T.setVm s.vm).setFrames (.invoking m args :: below) := ⟨_, rfl⟩
  rw [← hA] at Y
  have hvm : s'.vm = s.vm := by rw [hA]; rfl
  have hhp : s'.heap = H := by rw [hA]; exact hT
  have hW0 : s.WarmedH s'.vm := by rw [hvm]; exact State.WarmedH.refl s
  have hin : ∀ w ∈ zGw, w.before args s' = true := fun w h2 => vx_ot_at hW0 hvm.symm (by unfold vx_ot; rw [zGw_good w h2, Bool.or_true]) (hw w h2)
  have hU' : vx_Zq Bundle.tN "UNASSIGNED_STACK" Bundle.steD (zA lo nb) s' s'.heap := by rw [hhp]; exact vx_Zq.moved hW0.alike (hU.kept hS.2.1)
  have hN' : vx_Zq Bundle.tN "SUPPRESSED_SENTINEL" Bundle.listD (zA lo nb) s' s'.heap := by rw [hhp]; exact vx_Zq.moved hW0.alike (hN.kept hS.2.1)
  have h : ∀ w ∈ zx3L, w.before args s' = true := vx_own (fun w hw2 => (zxa_3 w hw2).elim (hin w) (fun h2 => va_tabs (zxV_t w h2) hvm.symm (hX.1 w h2))) (vx_isRefq hU'.1) (vx_isRefq hN'.1) hU'.2.word hN'.2.word
  have hown' : s'.vm.findClass "ShardRebalancer" = some m.cls := by rw [hvm]; exact hown
  have hins : (Cond.instantiable (zxE 3) 6).before args s' = true := h _ (by simp [zx3L])
  obtain ⟨vm₁, cX, kX, hfX, hkX, -, -, X₁, st1⟩ := Y.newCold hexec (own := "ShardRebalancer") (C := zxE 3) (index := 187) (n := 6) hown' (hin _ zxk_3) hins (hin _ zxi_3)
    (g := F0 m pc ls []) rfl (by rw [hb]; exact d0) (Nat.le_refl _) (Nat.le_refl _)
  generalize hT1 : (T.setVm vm₁).pushCell { cls := cX, slots := kX.instanceTypes.map defaultValue, vm := .none } = T1 at X₁ st1
  have hcellA : T1.heap[T.heap.size]? = some (freshCell cX kX) := by rw [← hT1]; exact State.heap_pushCell_size _ _
  have d3' : decode c.code (pc + 3) = .ok (.dup, 1) := by rw [hb]; exact d3
  have d4' : decode c.code (pc + 4) = .ok (.ldc_w is, 3) := by rw [hb]; exact d4
  have hstr' : vk_R "ShardRebalancer" is text sa s' := vk_R.warm hW0 hstr
  have hin3 : ∀ {L : List Jvm.Cond}, (∀ w ∈ L, w ∈ zx3L) → ∀ w ∈ L, w.before args s' = true := fun hL w hw2 => h w (hL w hw2)
  obtain ⟨U, hsteps, hrun, hend, hW, hsame, ce, hce, hvn, hcc⟩ := zx_ctor X₁ hexec htr (own := "ShardRebalancer") (cls := zxE 3) (Y0 := "java/lang/RuntimeException") (names := ["java/lang/Exception"]) (ic := 191) (ix := 13) (rx := prog_25_method_4_code) zx3_0 zx3_1 zx3_2 zx3_5
    hown' (by decide +kernel) (by decide +kernel) (by decide +kernel)
    (hin3 fun w hw2 => by unfold zx3L; simp only [List.mem_append]; exact Or.inl (Or.inl (Or.inl (Or.inl hw2))))
    (hin3 fun w hw2 => by unfold zx3L; simp only [List.mem_append]; exact Or.inl (Or.inl (Or.inl (Or.inr hw2))))
    (hin3 fun w hw2 => by unfold zx3L; simp only [List.mem_append]; exact Or.inl (Or.inl (Or.inr hw2)))
    (hin3 fun w hw2 => by unfold zx3L; simp only [List.mem_append]; exact Or.inl (Or.inr hw2))
    (h _ (by simp [zx3L])) hins (h _ (by simp [zx3L])) (h _ (by simp [zx3L])) (h _ (by simp [zx3L])) (h _ (by simp [zx3L])) (h _ (by simp [zx3L])) (h _ (by simp [zx3L]))
    (vx_isRefq hU'.1) (vx_isRefq hN'.1) (h _ (by simp [zx3L])) (h _ (by simp [zx3L])) (h _ (by simp [zx3L]))
    (fun x hx => nomatch hx) hfX hkX hcellA (by rw [hhp, hT]; exact Nat.le_refl _) (msg := .ref sa) rfl
    (g := { method := m, pc := pc + 7, locals := ls, stack := .ref sa :: .ref T.heap.size :: .ref T.heap.size :: [], locked := none }) rfl hsize rfl rfl (rest := []) rfl
    (by rw [hb]; exact d6) (by rw [hb]; exact d9) (fun x hx => (hno x hx).elim) (by show 1 + 4 < R.frames; omega) (by show 2 * 0 + (1 + 0) + (13 * (1 + 2) + 42) ≤ R.locals; omega) hlocks
  obtain ⟨f1, f2⟩ := vx_frame hsame
  rw [hhp] at f1 f2
  have hWs : s.WarmedH U.vm := State.WarmedH.trans hW0 hW
  have hcl : s.vm.findClass (zxE 3) = some ce.cls := by
    rw [hvm] at hcc
    exact hcc
  have hall : s.sameButNew ({ U with vm := s.vm } : State) locs 1 6 := by
    subst hA
    obtain ⟨e1, e2⟩ := hsame
    rw [State.setFrames_setFrames] at e1
    have h2 : (T.setVm s.vm).sameButNew ({ U with vm := s.vm } : State) [] (0 + 1) (0 + 6) := ⟨e1, e2⟩
    have h3 := X.same.trans h2
    rw [List.append_nil] at h3
    exact h3.mono (by omega) (by omega)
  refine ⟨U, ?_, .threw T.heap.size, hrun, hend, Or.inr ⟨T.heap.size, rfl, zxE 3, ce, locs, hx U hWs.alike f1 (fun q hq => f2 q hq (fun z hz => nomatch hz)), hce, hvn, hcl, hWs, hall, hS.2.2⟩⟩
  refine st1 _ ?_
  show Steps p.tables e below (T1.setTop { method := m, pc := pc + 3, locals := ls, stack := .ref T.heap.size :: [], locked := none }) _
  jvm_step X₁.here [X₁.here.top, hexec, d3', Value.category]
  exact X₁.ldcStringW hexec (own := "ShardRebalancer") (text := text) (index := is) (a := sa) hown' hstr'.1 hstr'.2
    (g := { method := m, pc := pc + 4, locals := ls, stack := .ref T.heap.size :: .ref T.heap.size :: [], locked := none }) rfl d4' _ hsteps
theorem zxs_C_successor_33 (hl : l.stackTraces = false) : zxT l zGw B zxSt mC_successor (zx 33 3 .athrow 3) := zthr3 hl rfl (text := "there are no points") (List.mem_of_getElem? (i := 11) rfl) dX6_successor_33 dX6_successor_36 dX6_successor_37 dX6_successor_39 dX6_successor_42
theorem zxs_C_route_19 (hl : l.stackTraces = false) : zxT l zGw B zxSt mC_route (zx 19 3 .athrow 3) := zthr3 hl rfl (text := "the shard is not served") (List.mem_of_getElem? (i := 13) rfl) dX6_route_19 dX6_route_22 dX6_route_23 dX6_route_25 dX6_route_28
theorem zxs_C_leastSlack_36 (hl : l.stackTraces = false) : zxT l zGw B zxSt mC_leastSlack (zx 36 3 .athrow 3) := zthr3 hl rfl (text := "there is no such slack") (List.mem_of_getElem? (i := 15) rfl) dX6_leastSlack_36 dX6_leastSlack_39 dX6_leastSlack_40 dX6_leastSlack_42 dX6_leastSlack_45
theorem zxs_C_forecast_30 (hl : l.stackTraces = false) : zxT l zGw B zxSt mC_forecast (zx 30 3 .athrow 3) := zthr3W hl rfl (text := "it would not be so within 300 ticks") (List.mem_of_getElem? (i := 18) rfl) dX6_forecast_30 dX6_forecast_33 dX6_forecast_34 dX6_forecast_37 dX6_forecast_40
end ZNSEE
