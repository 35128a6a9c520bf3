/-! ===== printed by wip/whole/genx.py: the throws ===== -/
section ZSITES
def zxn : List String := ["java/lang/RuntimeException", "java/lang/Exception"]
/-- the texts of the class's exceptions, by their places in its pool -/
def zxSt : List (Nat × String) := [(65, "the weight is out of range"), (76, "no node is absent"), (91, "there is no such node"), (97, "the node is not active"), (109, "the node is down"), (114, "the node is active"), (151, "what is out of range"), (153, "there is no such state"), (161, "what or the value is out of range"), (171, "there is no such point"), (185, "there is no such place"), (189, "there are no points"), (198, "there is no such shard"), (227, "the shard is not served"), (248, "no node is active"), (253, "there is no such slack"), (261, "the number is out of range"), (278, "there is no such move"), (290, "it would not be so within 300 ticks"), (298, "there is no such event"), (307, "the buffer is full"), (337, "a command cannot be performed"), (341, "there is no change to take back"), (349, "nothing was saved")]
variable {l : Launch} {B : List (Nat × Nat)} {sts : List (Nat × String)} {Gw : List Jvm.Cond}
theorem zthrS {me : zMe} {pc x ik is ic : Nat} {text : String} {names : List String} (hl : l.stackTraces = false) (ho : zOw me = "ShardRebalancer") (hf : Bundle.fit (zxE x) = true) (hn : ∀ n ∈ names, Bundle.fit n = true) (hln : names.length ≤ 3) (hk : Jvm.Cond.classLink "ShardRebalancer" ik (zxE x) ∈ Gw) (hi : Jvm.Cond.initialized (zxE x) ∈ Gw) (hat : ∀ w ∈ vx_atS "ShardRebalancer" ic (zxE x) names, w ∈ Gw ∨ w ∈ zxV) (hg : ∀ w ∈ Gw, goodWord w = true) (hst : (is, text) ∈ sts)
    (d0 : decode (zb me) pc = .ok (.new ik, 3)) (d3 : decode (zb me) (pc + 3) = .ok (.dup, 1)) (d4 : decode (zb me) (pc + 4) = .ok (.ldc is, 2)) (d6 : decode (zb me) (pc + 6) = .ok (.invokespecial ic, 3)) (d9 : decode (zb me) (pc + 9) = .ok (.athrow, 1)) : zxT l Gw B sts me (zx pc 3 .athrow x) := by
  intro lo nb p e R s mi args below meth c H locs lsC Qc XC hexec hb hown hw hX hS hsize hno r1 r2 r3 r4 hlocks hx
  obtain ⟨sa, hsa⟩ := hX.2.2.1 _ hst
  rw [ho] at hown
  exact vx_throwS hexec hb hl hown hf hn (hw _ hk) (hw _ hi) hsa (fun w h => (hat w h).elim (hw w) (fun h2 => va_Nw.use (zxV_t w h2) (hX.1 w h2)))
    (fun w h => by
      have h2 : w ∈ Gw ∨ w ∈ zxV := by
        rcases List.mem_cons.mp h with rfl | h
        · exact Or.inl hk
        · rcases List.mem_cons.mp h with rfl | h
          · exact Or.inl hi
          · exact hat w h
      unfold vx_ot
      rcases h2 with h2 | h2
      · rw [hg w h2, Bool.or_true]
      · rw [zxV_t w h2, Bool.true_or])
    hX.2.2.2.1 hX.2.2.2.2 hS hsize d0 d3 d4 d6 d9 (fun x hx => (hno x hx).elim) (by omega) (by simp only [List.map_nil, List.sum_nil]; omega) (by omega) (by omega) hlocks hx hS.2.2 (by omega) (by omega)
theorem zthrSW {me : zMe} {pc x ik is ic : Nat} {text : String} {names : List String} (hl : l.stackTraces = false) (ho : zOw me = "ShardRebalancer") (hf : Bundle.fit (zxE x) = true) (hn : ∀ n ∈ names, Bundle.fit n = true) (hln : names.length ≤ 3) (hk : Jvm.Cond.classLink "ShardRebalancer" ik (zxE x) ∈ Gw) (hi : Jvm.Cond.initialized (zxE x) ∈ Gw) (hat : ∀ w ∈ vx_atS "ShardRebalancer" ic (zxE x) names, w ∈ Gw ∨ w ∈ zxV) (hg : ∀ w ∈ Gw, goodWord w = true) (hst : (is, text) ∈ sts)
    (d0 : decode (zb me) pc = .ok (.new ik, 3)) (d3 : decode (zb me) (pc + 3) = .ok (.dup, 1)) (d4 : decode (zb me) (pc + 4) = .ok (.ldc_w is, 3)) (d7 : decode (zb me) (pc + 7) = .ok (.invokespecial ic, 3)) (d10 : decode (zb me) (pc + 10) = .ok (.athrow, 1)) : zxT l Gw B sts me (zx pc 3 .athrow x) := by
  intro lo nb p e R s mi args below meth c H locs lsC Qc XC hexec hb hown hw hX hS hsize hno r1 r2 r3 r4 hlocks hx
  obtain ⟨sa, hsa⟩ := hX.2.2.1 _ hst
  rw [ho] at hown
  exact vx_throwSW hexec hb hl hown hf hn (hw _ hk) (hw _ hi) hsa (fun w h => (hat w h).elim (hw w) (fun h2 => va_Nw.use (zxV_t w h2) (hX.1 w h2)))
    (fun w h => by
      have h2 : w ∈ Gw ∨ w ∈ zxV := by
        rcases List.mem_cons.mp h with rfl | h
        · exact Or.inl hk
        · rcases List.mem_cons.mp h with rfl | h
          · exact Or.inl hi
          · exact hat w h
      unfold vx_ot
      rcases h2 with h2 | h2
      · rw [hg w h2, Bool.or_true]
      · rw [zxV_t w h2, Bool.true_or])
    hX.2.2.2.1 hX.2.2.2.2 hS hsize d0 d3 d4 d7 d10 (fun x hx => (hno x hx).elim) (by omega) (by simp only [List.map_nil, List.sum_nil]; omega) (by omega) (by omega) hlocks hx hS.2.2 (by omega) (by omega)
theorem gx_of {ws : List Jvm.Cond} (is : List Nat) (h : (decide (is.map (fun i => tables_1[i]?) = ws.map some) && ws.all (fun w => goodWord w || decide (w ∈ zxV))) = true) : ∀ w ∈ ws, w ∈ zGw ∨ w ∈ zxV := by
  intro w hw
  simp only [Bool.and_eq_true, decide_eq_true_eq, List.all_eq_true, Bool.or_eq_true] at h
  rcases h.2 w hw with hg | hv
  · have h1 : some w ∈ is.map (fun i => tables_1[i]?) := by rw [h.1]; exact List.mem_map_of_mem hw
    obtain ⟨i, -, hi⟩ := List.mem_map.mp h1
    exact Or.inl (gw_of i (by rw [hi, hg]; simp))
  · exact Or.inr hv
theorem zxn_fit : ∀ n ∈ zxn, Bundle.fit n = true := by decide +kernel
theorem zxa_0 : ∀ w ∈ vx_atS "ShardRebalancer" 67 (zxE 0) zxn, w ∈ zGw ∨ w ∈ zxV := gx_of [10, 372, 381, 389, 392, 394, 373, 374, 30, 31, 375, 380, 390, 410, 362, 411, 364, 412, 366, 376, 378, 368, 406, 407, 409, 368, 397, 398, 399, 400, 354, 400, 401, 402, 403, 356, 403, 404, 405, 406, 358, 396, 351, 352, 359, 360, 361, 363, 365, 367, 371, 370, 369] (by decide +kernel)
theorem zxk_0 : Jvm.Cond.classLink "ShardRebalancer" 63 (zxE 0) ∈ zGw := gw_of 350 (by decide +kernel)
theorem zxi_0 : Jvm.Cond.initialized (zxE 0) ∈ zGw := gw_of 13 (by decide +kernel)
theorem zxf_0 : Bundle.fit (zxE 0) = true := by decide +kernel
theorem zxa_1 : ∀ w ∈ vx_atS "ShardRebalancer" 78 (zxE 1) zxn, w ∈ zGw ∨ w ∈ zxV := gx_of [10, 372, 381, 389, 392, 394, 373, 374, 30, 31, 375, 380, 390, 410, 362, 411, 364, 412, 366, 376, 378, 368, 406, 407, 409, 368, 437, 438, 439, 400, 354, 400, 401, 402, 403, 356, 403, 404, 405, 406, 358, 436, 427, 428, 429, 385, 430, 431, 432, 433, 371, 370, 434] (by decide +kernel)
theorem zxk_1 : Jvm.Cond.classLink "ShardRebalancer" 74 (zxE 1) ∈ zGw := gw_of 426 (by decide +kernel)
theorem zxi_1 : Jvm.Cond.initialized (zxE 1) ∈ zGw := gw_of 14 (by decide +kernel)
theorem zxf_1 : Bundle.fit (zxE 1) = true := by decide +kernel
theorem zxa_2 : ∀ w ∈ vx_atS "ShardRebalancer" 93 (zxE 2) zxn, w ∈ zGw ∨ w ∈ zxV := gx_of [10, 372, 381, 389, 392, 394, 373, 374, 30, 31, 375, 380, 390, 410, 362, 411, 364, 412, 366, 376, 378, 368, 406, 407, 409, 368, 475, 476, 477, 400, 354, 400, 401, 402, 403, 356, 403, 404, 405, 406, 358, 513, 504, 505, 506, 386, 507, 508, 509, 510, 371, 370, 511] (by decide +kernel)
theorem zxk_2 : Jvm.Cond.classLink "ShardRebalancer" 89 (zxE 2) ∈ zGw := gw_of 503 (by decide +kernel)
theorem zxi_2 : Jvm.Cond.initialized (zxE 2) ∈ zGw := gw_of 16 (by decide +kernel)
theorem zxf_2 : Bundle.fit (zxE 2) = true := by decide +kernel
theorem zxa_4 : ∀ w ∈ vx_atS "ShardRebalancer" 257 (zxE 4) zxn, w ∈ zGw ∨ w ∈ zxV := gx_of [10, 372, 381, 389, 392, 394, 373, 374, 30, 31, 375, 380, 390, 410, 362, 411, 364, 412, 366, 376, 378, 368, 406, 407, 409, 368, 730, 731, 732, 400, 354, 400, 401, 402, 403, 356, 403, 404, 405, 406, 358, 747, 729, 740, 741, 383, 735, 736, 738, 734, 371, 370, 733] (by decide +kernel)
theorem zxk_4 : Jvm.Cond.classLink "ShardRebalancer" 255 (zxE 4) ∈ zGw := gw_of 746 (by decide +kernel)
theorem zxi_4 : Jvm.Cond.initialized (zxE 4) ∈ zGw := gw_of 20 (by decide +kernel)
theorem zxf_4 : Bundle.fit (zxE 4) = true := by decide +kernel
theorem zxa_5 : ∀ w ∈ vx_atS "ShardRebalancer" 339 (zxE 5) zxn, w ∈ zGw ∨ w ∈ zxV := gx_of [10, 372, 381, 389, 392, 394, 373, 374, 30, 31, 375, 380, 390, 410, 362, 411, 364, 412, 366, 376, 378, 368, 406, 407, 409, 368, 976, 977, 978, 400, 354, 400, 401, 402, 403, 356, 403, 404, 405, 406, 358, 975, 966, 967, 968, 387, 969, 970, 971, 972, 371, 370, 973] (by decide +kernel)
theorem zxk_5 : Jvm.Cond.classLink "ShardRebalancer" 335 (zxE 5) ∈ zGw := gw_of 965 (by decide +kernel)
theorem zxi_5 : Jvm.Cond.initialized (zxE 5) ∈ zGw := gw_of 22 (by decide +kernel)
theorem zxf_5 : Bundle.fit (zxE 5) = true := by decide +kernel
theorem zxs_C_addNode_7 (hl : l.stackTraces = false) : zxT l zGw B zxSt mC_addNode (zx 7 3 .athrow 0) := zthrS hl rfl zxf_0 zxn_fit (by decide) zxk_0 zxi_0 zxa_0 zGw_good (text := "the weight is out of range") (List.mem_of_getElem? (i := 0) rfl) dX6_addNode_7 dX6_addNode_10 dX6_addNode_11 dX6_addNode_13 dX6_addNode_16
theorem zxs_C_addNode_30 (hl : l.stackTraces = false) : zxT l zGw B zxSt mC_addNode (zx 30 3 .athrow 1) := zthrS hl rfl zxf_1 zxn_fit (by decide) zxk_1 zxi_1 zxa_1 zGw_good (text := "no node is absent") (List.mem_of_getElem? (i := 1) rfl) dX6_addNode_30 dX6_addNode_33 dX6_addNode_34 dX6_addNode_36 dX6_addNode_39
theorem zxs_C_drain_11 (hl : l.stackTraces = false) : zxT l zGw B zxSt mC_drain (zx 11 3 .athrow 2) := zthrS hl rfl zxf_2 zxn_fit (by decide) zxk_2 zxi_2 zxa_2 zGw_good (text := "there is no such node") (List.mem_of_getElem? (i := 2) rfl) dX6_drain_11 dX6_drain_14 dX6_drain_15 dX6_drain_17 dX6_drain_20
theorem zxs_C_drain_32 (hl : l.stackTraces = false) : zxT l zGw B zxSt mC_drain (zx 32 3 .athrow 1) := zthrS hl rfl zxf_1 zxn_fit (by decide) zxk_1 zxi_1 zxa_1 zGw_good (text := "the node is not active") (List.mem_of_getElem? (i := 3) rfl) dX6_drain_32 dX6_drain_35 dX6_drain_36 dX6_drain_38 dX6_drain_41
theorem zxs_C_fail_11 (hl : l.stackTraces = false) : zxT l zGw B zxSt mC_fail (zx 11 3 .athrow 2) := zthrS hl rfl zxf_2 zxn_fit (by decide) zxk_2 zxi_2 zxa_2 zGw_good (text := "there is no such node") (List.mem_of_getElem? (i := 2) rfl) dX6_fail_11 dX6_fail_14 dX6_fail_15 dX6_fail_17 dX6_fail_20
theorem zxs_C_fail_32 (hl : l.stackTraces = false) : zxT l zGw B zxSt mC_fail (zx 32 3 .athrow 1) := zthrS hl rfl zxf_1 zxn_fit (by decide) zxk_1 zxi_1 zxa_1 zGw_good (text := "the node is down") (List.mem_of_getElem? (i := 4) rfl) dX6_fail_32 dX6_fail_35 dX6_fail_36 dX6_fail_38 dX6_fail_41
theorem zxs_C_recover_11 (hl : l.stackTraces = false) : zxT l zGw B zxSt mC_recover (zx 11 3 .athrow 2) := zthrS hl rfl zxf_2 zxn_fit (by decide) zxk_2 zxi_2 zxa_2 zGw_good (text := "there is no such node") (List.mem_of_getElem? (i := 2) rfl) dX6_recover_11 dX6_recover_14 dX6_recover_15 dX6_recover_17 dX6_recover_20
theorem zxs_C_recover_32 (hl : l.stackTraces = false) : zxT l zGw B zxSt mC_recover (zx 32 3 .athrow 1) := zthrS hl rfl zxf_1 zxn_fit (by decide) zxk_1 zxi_1 zxa_1 zGw_good (text := "the node is active") (List.mem_of_getElem? (i := 5) rfl) dX6_recover_32 dX6_recover_35 dX6_recover_36 dX6_recover_38 dX6_recover_41
theorem zxs_C_setWeight_11 (hl : l.stackTraces = false) : zxT l zGw B zxSt mC_setWeight (zx 11 3 .athrow 2) := zthrS hl rfl zxf_2 zxn_fit (by decide) zxk_2 zxi_2 zxa_2 zGw_good (text := "there is no such node") (List.mem_of_getElem? (i := 2) rfl) dX6_setWeight_11 dX6_setWeight_14 dX6_setWeight_15 dX6_setWeight_17 dX6_setWeight_20
theorem zxs_C_setWeight_28 (hl : l.stackTraces = false) : zxT l zGw B zxSt mC_setWeight (zx 28 3 .athrow 0) := zthrS hl rfl zxf_0 zxn_fit (by decide) zxk_0 zxi_0 zxa_0 zGw_good (text := "the weight is out of range") (List.mem_of_getElem? (i := 0) rfl) dX6_setWeight_28 dX6_setWeight_31 dX6_setWeight_32 dX6_setWeight_34 dX6_setWeight_37
theorem zxs_C_node_7 (hl : l.stackTraces = false) : zxT l zGw B zxSt mC_node (zx 7 3 .athrow 2) := zthrS hl rfl zxf_2 zxn_fit (by decide) zxk_2 zxi_2 zxa_2 zGw_good (text := "there is no such node") (List.mem_of_getElem? (i := 2) rfl) dX6_node_7 dX6_node_10 dX6_node_11 dX6_node_13 dX6_node_16
theorem zxs_C_node_127 (hl : l.stackTraces = false) : zxT l zGw B zxSt mC_node (zx 127 3 .athrow 0) := zthrS hl rfl zxf_0 zxn_fit (by decide) zxk_0 zxi_0 zxa_0 zGw_good (text := "what is out of range") (List.mem_of_getElem? (i := 6) rfl) dX6_node_127 dX6_node_130 dX6_node_131 dX6_node_133 dX6_node_136
theorem zxs_C_nodes_9 (hl : l.stackTraces = false) : zxT l zGw B zxSt mC_nodes (zx 9 3 .athrow 0) := zthrS hl rfl zxf_0 zxn_fit (by decide) zxk_0 zxi_0 zxa_0 zGw_good (text := "there is no such state") (List.mem_of_getElem? (i := 7) rfl) dX6_nodes_9 dX6_nodes_12 dX6_nodes_13 dX6_nodes_15 dX6_nodes_18
theorem zxs_C_set_17 (hl : l.stackTraces = false) : zxT l zGw B zxSt mC_set (zx 17 3 .athrow 0) := zthrS hl rfl zxf_0 zxn_fit (by decide) zxk_0 zxi_0 zxa_0 zGw_good (text := "what or the value is out of range") (List.mem_of_getElem? (i := 8) rfl) dX6_set_17 dX6_set_20 dX6_set_21 dX6_set_23 dX6_set_26
theorem zxs_C_point_17 (hl : l.stackTraces = false) : zxT l zGw B zxSt mC_point (zx 17 3 .athrow 2) := zthrS hl rfl zxf_2 zxn_fit (by decide) zxk_2 zxi_2 zxa_2 zGw_good (text := "there is no such point") (List.mem_of_getElem? (i := 9) rfl) dX6_point_17 dX6_point_20 dX6_point_21 dX6_point_23 dX6_point_26
theorem zxs_C_point_78 (hl : l.stackTraces = false) : zxT l zGw B zxSt mC_point (zx 78 3 .athrow 0) := zthrS hl rfl zxf_0 zxn_fit (by decide) zxk_0 zxi_0 zxa_0 zGw_good (text := "what is out of range") (List.mem_of_getElem? (i := 6) rfl) dX6_point_78 dX6_point_81 dX6_point_82 dX6_point_84 dX6_point_87
theorem zxs_C_successor_11 (hl : l.stackTraces = false) : zxT l zGw B zxSt mC_successor (zx 11 3 .athrow 0) := zthrS hl rfl zxf_0 zxn_fit (by decide) zxk_0 zxi_0 zxa_0 zGw_good (text := "there is no such place") (List.mem_of_getElem? (i := 10) rfl) dX6_successor_11 dX6_successor_14 dX6_successor_15 dX6_successor_17 dX6_successor_20
theorem zxs_C_shard_7 (hl : l.stackTraces = false) : zxT l zGw B zxSt mC_shard (zx 7 3 .athrow 2) := zthrS hl rfl zxf_2 zxn_fit (by decide) zxk_2 zxi_2 zxa_2 zGw_good (text := "there is no such shard") (List.mem_of_getElem? (i := 12) rfl) dX6_shard_7 dX6_shard_10 dX6_shard_11 dX6_shard_13 dX6_shard_16
theorem zxs_C_shard_140 (hl : l.stackTraces = false) : zxT l zGw B zxSt mC_shard (zx 140 3 .athrow 0) := zthrS hl rfl zxf_0 zxn_fit (by decide) zxk_0 zxi_0 zxa_0 zGw_good (text := "what is out of range") (List.mem_of_getElem? (i := 6) rfl) dX6_shard_140 dX6_shard_143 dX6_shard_144 dX6_shard_146 dX6_shard_149
theorem zxs_C_changedIf_7 (hl : l.stackTraces = false) : zxT l zGw B zxSt mC_changedIf (zx 7 3 .athrow 2) := zthrS hl rfl zxf_2 zxn_fit (by decide) zxk_2 zxi_2 zxa_2 zGw_good (text := "there is no such node") (List.mem_of_getElem? (i := 2) rfl) dX6_changedIf_7 dX6_changedIf_10 dX6_changedIf_11 dX6_changedIf_13 dX6_changedIf_16
theorem zxs_C_changedIf_28 (hl : l.stackTraces = false) : zxT l zGw B zxSt mC_changedIf (zx 28 3 .athrow 0) := zthrS hl rfl zxf_0 zxn_fit (by decide) zxk_0 zxi_0 zxa_0 zGw_good (text := "the weight is out of range") (List.mem_of_getElem? (i := 0) rfl) dX6_changedIf_28 dX6_changedIf_31 dX6_changedIf_32 dX6_changedIf_34 dX6_changedIf_37
theorem zxs_C_changedIf_50 (hl : l.stackTraces = false) : zxT l zGw B zxSt mC_changedIf (zx 50 3 .athrow 1) := zthrS hl rfl zxf_1 zxn_fit (by decide) zxk_1 zxi_1 zxa_1 zGw_good (text := "the node is not active") (List.mem_of_getElem? (i := 3) rfl) dX6_changedIf_50 dX6_changedIf_53 dX6_changedIf_54 dX6_changedIf_56 dX6_changedIf_59
theorem zxs_C_leastSlack_12 (hl : l.stackTraces = false) : zxT l zGw B zxSt mC_leastSlack (zx 12 3 .athrow 1) := zthrS hl rfl zxf_1 zxn_fit (by decide) zxk_1 zxi_1 zxa_1 zGw_good (text := "no node is active") (List.mem_of_getElem? (i := 14) rfl) dX6_leastSlack_12 dX6_leastSlack_15 dX6_leastSlack_16 dX6_leastSlack_18 dX6_leastSlack_21
theorem zxs_C_tick_7 (hl : l.stackTraces = false) : zxT l zGw B zxSt mC_tick (zx 7 3 .athrow 0) := zthrSW hl rfl zxf_0 zxn_fit (by decide) zxk_0 zxi_0 zxa_0 zGw_good (text := "the number is out of range") (List.mem_of_getElem? (i := 16) rfl) dX6_tick_7 dX6_tick_10 dX6_tick_11 dX6_tick_14 dX6_tick_17
theorem zxs_C_move_14 (hl : l.stackTraces = false) : zxT l zGw B zxSt mC_move (zx 14 3 .athrow 2) := zthrSW hl rfl zxf_2 zxn_fit (by decide) zxk_2 zxi_2 zxa_2 zGw_good (text := "there is no such move") (List.mem_of_getElem? (i := 17) rfl) dX6_move_14 dX6_move_17 dX6_move_18 dX6_move_21 dX6_move_24
theorem zxs_C_move_32 (hl : l.stackTraces = false) : zxT l zGw B zxSt mC_move (zx 32 3 .athrow 0) := zthrS hl rfl zxf_0 zxn_fit (by decide) zxk_0 zxi_0 zxa_0 zGw_good (text := "what is out of range") (List.mem_of_getElem? (i := 6) rfl) dX6_move_32 dX6_move_35 dX6_move_36 dX6_move_38 dX6_move_41
theorem zxs_C_statistic_10 (hl : l.stackTraces = false) : zxT l zGw B zxSt mC_statistic (zx 10 3 .athrow 0) := zthrS hl rfl zxf_0 zxn_fit (by decide) zxk_0 zxi_0 zxa_0 zGw_good (text := "what is out of range") (List.mem_of_getElem? (i := 6) rfl) dX6_statistic_10 dX6_statistic_13 dX6_statistic_14 dX6_statistic_16 dX6_statistic_19
theorem zxs_C_event_14 (hl : l.stackTraces = false) : zxT l zGw B zxSt mC_event (zx 14 3 .athrow 2) := zthrSW hl rfl zxf_2 zxn_fit (by decide) zxk_2 zxi_2 zxa_2 zGw_good (text := "there is no such event") (List.mem_of_getElem? (i := 19) rfl) dX6_event_14 dX6_event_17 dX6_event_18 dX6_event_21 dX6_event_24
theorem zxs_C_event_32 (hl : l.stackTraces = false) : zxT l zGw B zxSt mC_event (zx 32 3 .athrow 0) := zthrS hl rfl zxf_0 zxn_fit (by decide) zxk_0 zxi_0 zxa_0 zGw_good (text := "what is out of range") (List.mem_of_getElem? (i := 6) rfl) dX6_event_32 dX6_event_35 dX6_event_36 dX6_event_38 dX6_event_41
theorem zxs_C_forget_7 (hl : l.stackTraces = false) : zxT l zGw B zxSt mC_forget (zx 7 3 .athrow 2) := zthrS hl rfl zxf_2 zxn_fit (by decide) zxk_2 zxi_2 zxa_2 zGw_good (text := "there is no such shard") (List.mem_of_getElem? (i := 12) rfl) dX6_forget_7 dX6_forget_10 dX6_forget_11 dX6_forget_13 dX6_forget_16
theorem zxs_C_feed_10 (hl : l.stackTraces = false) : zxT l zGw B zxSt mC_feed (zx 10 3 .athrow 1) := zthrSW hl rfl zxf_1 zxn_fit (by decide) zxk_1 zxi_1 zxa_1 zGw_good (text := "the buffer is full") (List.mem_of_getElem? (i := 20) rfl) dX6_feed_10 dX6_feed_13 dX6_feed_14 dX6_feed_17 dX6_feed_20
theorem zxs_C_perform_89 (hl : l.stackTraces = false) : zxT l zGw B zxSt mC_perform (zx 89 3 .athrow 5) := zthrSW hl rfl zxf_5 zxn_fit (by decide) zxk_5 zxi_5 zxa_5 zGw_good (text := "a command cannot be performed") (List.mem_of_getElem? (i := 21) rfl) dX6_perform_89 dX6_perform_92 dX6_perform_93 dX6_perform_96 dX6_perform_99
theorem zxs_C_undo_10 (hl : l.stackTraces = false) : zxT l zGw B zxSt mC_undo (zx 10 3 .athrow 1) := zthrSW hl rfl zxf_1 zxn_fit (by decide) zxk_1 zxi_1 zxa_1 zGw_good (text := "there is no change to take back") (List.mem_of_getElem? (i := 22) rfl) dX6_undo_10 dX6_undo_13 dX6_undo_14 dX6_undo_17 dX6_undo_20
theorem zxs_C_restore_7 (hl : l.stackTraces = false) : zxT l zGw B zxSt mC_restore (zx 7 3 .athrow 1) := zthrSW hl rfl zxf_1 zxn_fit (by decide) zxk_1 zxi_1 zxa_1 zGw_good (text := "nothing was saved") (List.mem_of_getElem? (i := 23) rfl) dX6_restore_7 dX6_restore_10 dX6_restore_11 dX6_restore_14 dX6_restore_17
end ZSITES
