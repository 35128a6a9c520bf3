/-! ===== the contracts of the class's face methods: they answer or throw ===== -/
section ZMOUTH
variable {l : Launch} {D : va_G} {B : List (Nat × Nat)} {K : Nat → ClassId} {lo : Nat} {nb : Option Nat}
def zath : Instr → Bool
  | .athrow => true
  | _ => false
theorem zath_of {c : zCd} {P : zEl → Prop} (L : List zEl) (h : c.filter (fun el => zath el.2.2.1) = L) (hL : ∀ el ∈ L, P el) : ∀ el ∈ c, el.2.2.1 = .athrow → P el := fun el h1 h2 => hL el (by rw [← h]; exact List.mem_filter.mpr ⟨h1, by rw [h2]; rfl⟩)
theorem zNs_in : ∀ w ∈ zNs, ∃ (a : String) (i : Nat) (x : MethodName) (h : String), w = .methodLinkNest a i x h := by
  unfold zNs
  repeat (refine List.forall_mem_cons.mpr ⟨⟨_, _, _, _, rfl⟩, ?_⟩)
  exact fun _ h => nomatch h
/-- a walk of a face method is its contract -/
theorem zxGo {m : zMe} {j : Nat} (hm : zMt j = m) (hj : zOK zGw zNs vwCl zMt m) (hl : l.stackTraces = false) (hthr : ∀ el ∈ zco m, el.2.2.1 = .athrow → zxT l zGw B zxSt m el) {as : List Value} {G G' : Nat → Nat → Int32} {r : zRt} {k : zCd} {ls : List Value}
    (h : zEv zTT (zco m) k ls [] (zhp G) (r, zhp G')) (hk : k = zco m) (hls : ls = zen as (zmL m)) (hlen : as.length ≤ zmL m) (hnb : ∀ n, nb = some n → 139 ≤ n) : zxM zGw zNs l D vwCl K B zxSt lo nb m as (zhp G) r (zhp G') := by
  obtain ⟨n, hn⟩ := h
  subst hk
  subst hls
  subst hm
  exact zmetX hl zGw_good zok zNs_in (n := n) hj hthr hlen hn rfl rfl hnb
theorem zxh_C_addNode (hl : l.stackTraces = false) : ∀ el ∈ zco mC_addNode, el.2.2.1 = .athrow → zxT l zGw B zxSt mC_addNode el := zath_of [zx 7 3 .athrow 0, zx 30 3 .athrow 1] rfl (List.forall_mem_cons.mpr ⟨zxs_C_addNode_7 hl, List.forall_mem_cons.mpr ⟨zxs_C_addNode_30 hl, fun _ h => nomatch h⟩⟩)
theorem zxh_C_drain (hl : l.stackTraces = false) : ∀ el ∈ zco mC_drain, el.2.2.1 = .athrow → zxT l zGw B zxSt mC_drain el := zath_of [zx 11 3 .athrow 2, zx 32 3 .athrow 1] rfl (List.forall_mem_cons.mpr ⟨zxs_C_drain_11 hl, List.forall_mem_cons.mpr ⟨zxs_C_drain_32 hl, fun _ h => nomatch h⟩⟩)
theorem zxh_C_fail (hl : l.stackTraces = false) : ∀ el ∈ zco mC_fail, el.2.2.1 = .athrow → zxT l zGw B zxSt mC_fail el := zath_of [zx 11 3 .athrow 2, zx 32 3 .athrow 1] rfl (List.forall_mem_cons.mpr ⟨zxs_C_fail_11 hl, List.forall_mem_cons.mpr ⟨zxs_C_fail_32 hl, fun _ h => nomatch h⟩⟩)
theorem zxh_C_recover (hl : l.stackTraces = false) : ∀ el ∈ zco mC_recover, el.2.2.1 = .athrow → zxT l zGw B zxSt mC_recover el := zath_of [zx 11 3 .athrow 2, zx 32 3 .athrow 1] rfl (List.forall_mem_cons.mpr ⟨zxs_C_recover_11 hl, List.forall_mem_cons.mpr ⟨zxs_C_recover_32 hl, fun _ h => nomatch h⟩⟩)
theorem zxh_C_setWeight (hl : l.stackTraces = false) : ∀ el ∈ zco mC_setWeight, el.2.2.1 = .athrow → zxT l zGw B zxSt mC_setWeight el := zath_of [zx 11 3 .athrow 2, zx 28 3 .athrow 0] rfl (List.forall_mem_cons.mpr ⟨zxs_C_setWeight_11 hl, List.forall_mem_cons.mpr ⟨zxs_C_setWeight_28 hl, fun _ h => nomatch h⟩⟩)
theorem zxh_C_node (hl : l.stackTraces = false) : ∀ el ∈ zco mC_node, el.2.2.1 = .athrow → zxT l zGw B zxSt mC_node el := zath_of [zx 7 3 .athrow 2, zx 127 3 .athrow 0] rfl (List.forall_mem_cons.mpr ⟨zxs_C_node_7 hl, List.forall_mem_cons.mpr ⟨zxs_C_node_127 hl, fun _ h => nomatch h⟩⟩)
theorem zxh_C_nodes (hl : l.stackTraces = false) : ∀ el ∈ zco mC_nodes, el.2.2.1 = .athrow → zxT l zGw B zxSt mC_nodes el := zath_of [zx 9 3 .athrow 0] rfl (List.forall_mem_cons.mpr ⟨zxs_C_nodes_9 hl, fun _ h => nomatch h⟩)
theorem zxh_C_set (hl : l.stackTraces = false) : ∀ el ∈ zco mC_set, el.2.2.1 = .athrow → zxT l zGw B zxSt mC_set el := zath_of [zx 17 3 .athrow 0] rfl (List.forall_mem_cons.mpr ⟨zxs_C_set_17 hl, fun _ h => nomatch h⟩)
theorem zxh_C_point (hl : l.stackTraces = false) : ∀ el ∈ zco mC_point, el.2.2.1 = .athrow → zxT l zGw B zxSt mC_point el := zath_of [zx 17 3 .athrow 2, zx 78 3 .athrow 0] rfl (List.forall_mem_cons.mpr ⟨zxs_C_point_17 hl, List.forall_mem_cons.mpr ⟨zxs_C_point_78 hl, fun _ h => nomatch h⟩⟩)
theorem zxh_C_successor (hl : l.stackTraces = false) : ∀ el ∈ zco mC_successor, el.2.2.1 = .athrow → zxT l zGw B zxSt mC_successor el := zath_of [zx 11 3 .athrow 0, zx 33 3 .athrow 3] rfl (List.forall_mem_cons.mpr ⟨zxs_C_successor_11 hl, List.forall_mem_cons.mpr ⟨zxs_C_successor_33 hl, fun _ h => nomatch h⟩⟩)
theorem zxh_C_shard (hl : l.stackTraces = false) : ∀ el ∈ zco mC_shard, el.2.2.1 = .athrow → zxT l zGw B zxSt mC_shard el := zath_of [zx 7 3 .athrow 2, zx 140 3 .athrow 0] rfl (List.forall_mem_cons.mpr ⟨zxs_C_shard_7 hl, List.forall_mem_cons.mpr ⟨zxs_C_shard_140 hl, fun _ h => nomatch h⟩⟩)
theorem zxh_C_changedIf (hl : l.stackTraces = false) : ∀ el ∈ zco mC_changedIf, el.2.2.1 = .athrow → zxT l zGw B zxSt mC_changedIf el := zath_of [zx 7 3 .athrow 2, zx 28 3 .athrow 0, zx 50 3 .athrow 1] rfl (List.forall_mem_cons.mpr ⟨zxs_C_changedIf_7 hl, List.forall_mem_cons.mpr ⟨zxs_C_changedIf_28 hl, List.forall_mem_cons.mpr ⟨zxs_C_changedIf_50 hl, fun _ h => nomatch h⟩⟩⟩)
theorem zxh_C_leastSlack (hl : l.stackTraces = false) : ∀ el ∈ zco mC_leastSlack, el.2.2.1 = .athrow → zxT l zGw B zxSt mC_leastSlack el := zath_of [zx 12 3 .athrow 1, zx 36 3 .athrow 3] rfl (List.forall_mem_cons.mpr ⟨zxs_C_leastSlack_12 hl, List.forall_mem_cons.mpr ⟨zxs_C_leastSlack_36 hl, fun _ h => nomatch h⟩⟩)
theorem zxh_C_tick (hl : l.stackTraces = false) : ∀ el ∈ zco mC_tick, el.2.2.1 = .athrow → zxT l zGw B zxSt mC_tick el := zath_of [zx 7 3 .athrow 0] rfl (List.forall_mem_cons.mpr ⟨zxs_C_tick_7 hl, fun _ h => nomatch h⟩)
theorem zxh_C_move (hl : l.stackTraces = false) : ∀ el ∈ zco mC_move, el.2.2.1 = .athrow → zxT l zGw B zxSt mC_move el := zath_of [zx 14 3 .athrow 2, zx 32 3 .athrow 0] rfl (List.forall_mem_cons.mpr ⟨zxs_C_move_14 hl, List.forall_mem_cons.mpr ⟨zxs_C_move_32 hl, fun _ h => nomatch h⟩⟩)
theorem zxh_C_statistic (hl : l.stackTraces = false) : ∀ el ∈ zco mC_statistic, el.2.2.1 = .athrow → zxT l zGw B zxSt mC_statistic el := zath_of [zx 10 3 .athrow 0] rfl (List.forall_mem_cons.mpr ⟨zxs_C_statistic_10 hl, fun _ h => nomatch h⟩)
theorem zxh_C_event (hl : l.stackTraces = false) : ∀ el ∈ zco mC_event, el.2.2.1 = .athrow → zxT l zGw B zxSt mC_event el := zath_of [zx 14 3 .athrow 2, zx 32 3 .athrow 0] rfl (List.forall_mem_cons.mpr ⟨zxs_C_event_14 hl, List.forall_mem_cons.mpr ⟨zxs_C_event_32 hl, fun _ h => nomatch h⟩⟩)
theorem zxh_C_forget (hl : l.stackTraces = false) : ∀ el ∈ zco mC_forget, el.2.2.1 = .athrow → zxT l zGw B zxSt mC_forget el := zath_of [zx 7 3 .athrow 2] rfl (List.forall_mem_cons.mpr ⟨zxs_C_forget_7 hl, fun _ h => nomatch h⟩)
theorem zxh_C_feed (hl : l.stackTraces = false) : ∀ el ∈ zco mC_feed, el.2.2.1 = .athrow → zxT l zGw B zxSt mC_feed el := zath_of [zx 10 3 .athrow 1] rfl (List.forall_mem_cons.mpr ⟨zxs_C_feed_10 hl, fun _ h => nomatch h⟩)
theorem zxh_C_perform (hl : l.stackTraces = false) : ∀ el ∈ zco mC_perform, el.2.2.1 = .athrow → zxT l zGw B zxSt mC_perform el := zath_of [zx 89 3 .athrow 5] rfl (List.forall_mem_cons.mpr ⟨zxs_C_perform_89 hl, fun _ h => nomatch h⟩)
theorem zxh_C_undo (hl : l.stackTraces = false) : ∀ el ∈ zco mC_undo, el.2.2.1 = .athrow → zxT l zGw B zxSt mC_undo el := zath_of [zx 10 3 .athrow 1] rfl (List.forall_mem_cons.mpr ⟨zxs_C_undo_10 hl, fun _ h => nomatch h⟩)
theorem zxh_C_restore (hl : l.stackTraces = false) : ∀ el ∈ zco mC_restore, el.2.2.1 = .athrow → zxT l zGw B zxSt mC_restore el := zath_of [zx 7 3 .athrow 1] rfl (List.forall_mem_cons.mpr ⟨zxs_C_restore_7 hl, fun _ h => nomatch h⟩)
theorem zxh_C_route (hl : l.stackTraces = false) : ∀ el ∈ zco mC_route, el.2.2.1 = .athrow → zxT l zGw B zxSt mC_route el := zath_of [zx 19 3 .athrow 3] rfl (List.forall_mem_cons.mpr ⟨zxs_C_route_19 hl, fun _ h => nomatch h⟩)
theorem zxh_C_forecast (hl : l.stackTraces = false) : ∀ el ∈ zco mC_forecast, el.2.2.1 = .athrow → zxT l zGw B zxSt mC_forecast el := zath_of [zx 30 3 .athrow 3] rfl (List.forall_mem_cons.mpr ⟨zxs_C_forecast_30 hl, fun _ h => nomatch h⟩)
end ZMOUTH
