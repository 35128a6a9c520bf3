/-! ===== the law's pairs of calls (printed by wip/whole/gen_law.py) ===== -/
section ZLAWP
variable {l : Launch} {D : va_G} {K : Nat → ClassId} {lo : Nat} {G : Nat → Nat → Int32}
theorem lp_addNode (hst : l.stackTraces = false) (I : lwI G) (x1 : Int32) : lwP l D K lo mC_addNode jM_addNode [.int x1] (fun r => (∃ v, r = .inl (some (.int v))) ∨ r = .inr 0 ∨ r = .inr 1) (zk2 0 1) G := by
  obtain ⟨A, T, hC, hs, ⟨Cs, hd⟩, hZ, hA⟩ := I
  obtain ⟨G1, e1, p1, f1⟩ := C_addNode hC x1
  have hZ1 : zMZ G1 A T := hZ.up (fun a ha => f1 a (by omega) (Or.inr ha))
  obtain ⟨G2, v, c2, z2, rf, f2⟩ := M_addNode hZ1 x1
  refine ⟨G1, G2, _, v, zxGo zMt_C_addNode fC_addNode hst (zxh_C_addNode hst) e1 rfl rfl (Nat.le_of_ble_eq_true rfl) (fun n hn => by cases hn; decide), ?_, c2, rf, lwI_of p1 f1 hs ⟨Cs, hd⟩ z2 f2 (gAdd hA hZ.c6.1 hZ.c6.2 x1)⟩
  exact (show (∃ v, (qAdd A x1).1 = .inl (some (.int v))) ∨ (qAdd A x1).1 = .inr 0 ∨ (qAdd A x1).1 = .inr 1 from by unfold qAdd; (repeat' split); all_goals with_reducible first | exact Or.inl ⟨_, rfl⟩ | exact Or.inr rfl | exact Or.inr (Or.inl rfl) | exact Or.inr (Or.inr rfl) | exact Or.inr (Or.inr (Or.inl rfl)) | exact Or.inr (Or.inr (Or.inr rfl)))
theorem lp_drain (hst : l.stackTraces = false) (I : lwI G) (x1 : Int32) : lwP l D K lo mC_drain jM_drain [.int x1] (fun r => (∃ v, r = .inl (some (.int v))) ∨ r = .inr 2 ∨ r = .inr 1) (zk2 2 1) G := by
  obtain ⟨A, T, hC, hs, ⟨Cs, hd⟩, hZ, hA⟩ := I
  obtain ⟨G1, e1, p1, f1⟩ := C_drain hC x1
  have hZ1 : zMZ G1 A T := hZ.up (fun a ha => f1 a (by omega) (Or.inr ha))
  obtain ⟨G2, v, c2, z2, rf, f2⟩ := M_drain hZ1 x1
  refine ⟨G1, G2, _, v, zxGo zMt_C_drain fC_drain hst (zxh_C_drain hst) e1 rfl rfl (Nat.le_of_ble_eq_true rfl) (fun n hn => by cases hn; decide), ?_, c2, rf, lwI_of p1 f1 hs ⟨Cs, hd⟩ z2 f2 (gDrain hA hZ.c6.1 hZ.c6.2 x1)⟩
  exact (show (∃ v, (qDrain A x1).1 = .inl (some (.int v))) ∨ (qDrain A x1).1 = .inr 2 ∨ (qDrain A x1).1 = .inr 1 from by unfold qDrain; (repeat' split); all_goals with_reducible first | exact Or.inl ⟨_, rfl⟩ | exact Or.inr rfl | exact Or.inr (Or.inl rfl) | exact Or.inr (Or.inr rfl) | exact Or.inr (Or.inr (Or.inl rfl)) | exact Or.inr (Or.inr (Or.inr rfl)))
theorem lp_fail (hst : l.stackTraces = false) (I : lwI G) (x1 : Int32) : lwP l D K lo mC_fail jM_fail [.int x1] (fun r => (∃ v, r = .inl (some (.int v))) ∨ r = .inr 2 ∨ r = .inr 1) (zk2 2 1) G := by
  obtain ⟨A, T, hC, hs, ⟨Cs, hd⟩, hZ, hA⟩ := I
  obtain ⟨G1, e1, p1, f1⟩ := C_fail hC x1
  have hZ1 : zMZ G1 A T := hZ.up (fun a ha => f1 a (by omega) (Or.inr ha))
  obtain ⟨G2, v, c2, z2, rf, f2⟩ := M_fail hZ1 hA.1 x1
  refine ⟨G1, G2, _, v, zxGo zMt_C_fail fC_fail hst (zxh_C_fail hst) e1 rfl rfl (Nat.le_of_ble_eq_true rfl) (fun n hn => by cases hn; decide), ?_, c2, rf, lwI_of p1 f1 hs ⟨Cs, hd⟩ z2 f2 (gFail hA hZ.c6.1 hZ.c6.2 x1)⟩
  exact (show (∃ v, (qFail A x1).1 = .inl (some (.int v))) ∨ (qFail A x1).1 = .inr 2 ∨ (qFail A x1).1 = .inr 1 from by unfold qFail; (repeat' split); all_goals with_reducible first | exact Or.inl ⟨_, rfl⟩ | exact Or.inr rfl | exact Or.inr (Or.inl rfl) | exact Or.inr (Or.inr rfl) | exact Or.inr (Or.inr (Or.inl rfl)) | exact Or.inr (Or.inr (Or.inr rfl)))
theorem lp_recover (hst : l.stackTraces = false) (I : lwI G) (x1 : Int32) : lwP l D K lo mC_recover jM_recover [.int x1] (fun r => (∃ v, r = .inl (some (.int v))) ∨ r = .inr 2 ∨ r = .inr 1) (zk2 2 1) G := by
  obtain ⟨A, T, hC, hs, ⟨Cs, hd⟩, hZ, hA⟩ := I
  obtain ⟨G1, e1, p1, f1⟩ := C_recover hC x1
  have hZ1 : zMZ G1 A T := hZ.up (fun a ha => f1 a (by omega) (Or.inr ha))
  obtain ⟨G2, v, c2, z2, rf, f2⟩ := M_recover hZ1 hA.1 x1
  refine ⟨G1, G2, _, v, zxGo zMt_C_recover fC_recover hst (zxh_C_recover hst) e1 rfl rfl (Nat.le_of_ble_eq_true rfl) (fun n hn => by cases hn; decide), ?_, c2, rf, lwI_of p1 f1 hs ⟨Cs, hd⟩ z2 f2 (gRecover hA hZ.c6.1 hZ.c6.2 x1)⟩
  exact (show (∃ v, (qRecover A x1).1 = .inl (some (.int v))) ∨ (qRecover A x1).1 = .inr 2 ∨ (qRecover A x1).1 = .inr 1 from by unfold qRecover; (repeat' split); all_goals with_reducible first | exact Or.inl ⟨_, rfl⟩ | exact Or.inr rfl | exact Or.inr (Or.inl rfl) | exact Or.inr (Or.inr rfl) | exact Or.inr (Or.inr (Or.inl rfl)) | exact Or.inr (Or.inr (Or.inr rfl)))
theorem lp_setWeight (hst : l.stackTraces = false) (I : lwI G) (x1 x2 : Int32) : lwP l D K lo mC_setWeight jM_setWeight [.int x1, .int x2] (fun r => (∃ v, r = .inl (some (.int v))) ∨ r = .inr 2 ∨ r = .inr 0) (zk2 2 0) G := by
  obtain ⟨A, T, hC, hs, ⟨Cs, hd⟩, hZ, hA⟩ := I
  obtain ⟨G1, e1, p1, f1⟩ := C_setWeight hC x1 x2
  have hZ1 : zMZ G1 A T := hZ.up (fun a ha => f1 a (by omega) (Or.inr ha))
  obtain ⟨G2, v, c2, z2, rf, f2⟩ := M_setWeight hZ1 x1 x2
  refine ⟨G1, G2, _, v, zxGo zMt_C_setWeight fC_setWeight hst (zxh_C_setWeight hst) e1 rfl rfl (Nat.le_of_ble_eq_true rfl) (fun n hn => by cases hn; decide), ?_, c2, rf, lwI_of p1 f1 hs ⟨Cs, hd⟩ z2 f2 (gWei hA hZ.c6.1 hZ.c6.2 x1 x2)⟩
  exact (show (∃ v, (qWei A x1 x2).1 = .inl (some (.int v))) ∨ (qWei A x1 x2).1 = .inr 2 ∨ (qWei A x1 x2).1 = .inr 0 from by unfold qWei; (repeat' split); all_goals with_reducible first | exact Or.inl ⟨_, rfl⟩ | exact Or.inr rfl | exact Or.inr (Or.inl rfl) | exact Or.inr (Or.inr rfl) | exact Or.inr (Or.inr (Or.inl rfl)) | exact Or.inr (Or.inr (Or.inr rfl)))
theorem lp_node (hst : l.stackTraces = false) (I : lwI G) (x1 x2 : Int32) : lwP l D K lo mC_node jM_node [.int x1, .int x2] (fun r => (∃ v, r = .inl (some (.int v))) ∨ r = .inr 2 ∨ r = .inr 0) (zk2 2 0) G := by
  obtain ⟨A, T, hC, hs, ⟨Cs, hd⟩, hZ, hA⟩ := I
  obtain ⟨G1, e1, p1, f1⟩ := C_node hC x1 x2
  have hZ1 : zMZ G1 A T := hZ.up (fun a ha => f1 a (by omega) (Or.inr ha))
  obtain ⟨G2, v, c2, z2, rf, f2⟩ := M_node hZ1 hA.1 x1 x2
  refine ⟨G1, G2, _, v, zxGo zMt_C_node fC_node hst (zxh_C_node hst) e1 rfl rfl (Nat.le_of_ble_eq_true rfl) (fun n hn => by cases hn; decide), ?_, c2, rf, lwI_of p1 f1 hs ⟨Cs, hd⟩ z2 f2 (by unfold qNode; (repeat' split); all_goals with_reducible exact hA)⟩
  exact (show (∃ v, (qNode A x1 x2).1 = .inl (some (.int v))) ∨ (qNode A x1 x2).1 = .inr 2 ∨ (qNode A x1 x2).1 = .inr 0 from by unfold qNode; (repeat' split); all_goals with_reducible first | exact Or.inl ⟨_, rfl⟩ | exact Or.inr rfl | exact Or.inr (Or.inl rfl) | exact Or.inr (Or.inr rfl) | exact Or.inr (Or.inr (Or.inl rfl)) | exact Or.inr (Or.inr (Or.inr rfl)))
theorem lp_nodes (hst : l.stackTraces = false) (I : lwI G) (x1 : Int32) : lwP l D K lo mC_nodes jM_nodes [.int x1] (fun r => (∃ v, r = .inl (some (.int v))) ∨ r = .inr 0) (zk1 0) G := by
  obtain ⟨A, T, hC, hs, ⟨Cs, hd⟩, hZ, hA⟩ := I
  obtain ⟨G1, e1, p1, f1⟩ := C_nodes hC x1
  have hZ1 : zMZ G1 A T := hZ.up (fun a ha => f1 a (by omega) (Or.inr ha))
  obtain ⟨G2, v, c2, z2, rf, f2⟩ := M_nodes hZ1 x1
  refine ⟨G1, G2, _, v, zxGo zMt_C_nodes fC_nodes hst (zxh_C_nodes hst) e1 rfl rfl (Nat.le_of_ble_eq_true rfl) (fun n hn => by cases hn; decide), ?_, c2, rf, lwI_of p1 f1 hs ⟨Cs, hd⟩ z2 f2 (by unfold qNodes; (repeat' split); all_goals with_reducible exact hA)⟩
  exact (show (∃ v, (qNodes A x1).1 = .inl (some (.int v))) ∨ (qNodes A x1).1 = .inr 0 from by unfold qNodes; (repeat' split); all_goals with_reducible first | exact Or.inl ⟨_, rfl⟩ | exact Or.inr rfl | exact Or.inr (Or.inl rfl) | exact Or.inr (Or.inr rfl) | exact Or.inr (Or.inr (Or.inl rfl)) | exact Or.inr (Or.inr (Or.inr rfl)))
theorem lp_set (hst : l.stackTraces = false) (I : lwI G) (x1 x2 : Int32) : lwP l D K lo mC_set jM_set [.int x1, .int x2] (fun r => (∃ v, r = .inl (some (.int v))) ∨ r = .inr 0) (zk1 0) G := by
  obtain ⟨A, T, hC, hs, ⟨Cs, hd⟩, hZ, hA⟩ := I
  obtain ⟨G1, e1, p1, f1⟩ := C_set hC x1 x2
  have hZ1 : zMZ G1 A T := hZ.up (fun a ha => f1 a (by omega) (Or.inr ha))
  obtain ⟨G2, v, c2, z2, rf, f2⟩ := M_set hZ1 x1 x2
  refine ⟨G1, G2, _, v, zxGo zMt_C_set fC_set hst (zxh_C_set hst) e1 rfl rfl (Nat.le_of_ble_eq_true rfl) (fun n hn => by cases hn; decide), ?_, c2, rf, lwI_of p1 f1 hs ⟨Cs, hd⟩ z2 f2 (gSetting hA hZ.c6.1 hZ.c6.2 x1 x2)⟩
  exact (show (∃ v, (qSetting A x1 x2).1 = .inl (some (.int v))) ∨ (qSetting A x1 x2).1 = .inr 0 from by unfold qSetting; (repeat' split); all_goals with_reducible first | exact Or.inl ⟨_, rfl⟩ | exact Or.inr rfl | exact Or.inr (Or.inl rfl) | exact Or.inr (Or.inr rfl) | exact Or.inr (Or.inr (Or.inl rfl)) | exact Or.inr (Or.inr (Or.inr rfl)))
theorem lp_points (I : lwI G) : ∃ (G1 G2 : Nat → Nat → Int32) (v : Int32), zcal zTT jC_points [.ref 0] (zhp G) = some (some (.int v), zhp G1) ∧ zcal zTT jM_points [.ref 122] (zhp G1) = some (some (.int v), zhp G2) ∧ lwI G2 := by
  obtain ⟨A, T, hC, hs, ⟨Cs, hd⟩, hZ, hA⟩ := I
  obtain ⟨G1, e1, p1, f1⟩ := C_points hC
  have hZ1 : zMZ G1 A T := hZ.up (fun a ha => f1 a (by omega) (Or.inr ha))
  obtain ⟨G2, v, c2, z2, rf, f2⟩ := M_points hZ1 hA.1
  refine ⟨G1, G2, v, ?_, c2, lwI_of p1 f1 hs ⟨Cs, hd⟩ z2 f2 hA⟩
  rcases rf with ⟨v1, h1, -, h2⟩ | ⟨e0, h1, -⟩
  · rw [h1, ← h2] at e1
    exact zgo zMt_C_points e1
  · cases h1
theorem lp_point (hst : l.stackTraces = false) (I : lwI G) (x1 x2 : Int32) : lwP l D K lo mC_point jM_point [.int x1, .int x2] (fun r => (∃ v, r = .inl (some (.int v))) ∨ r = .inr 2 ∨ r = .inr 0) (zk2 2 0) G := by
  obtain ⟨A, T, hC, hs, ⟨Cs, hd⟩, hZ, hA⟩ := I
  obtain ⟨G1, e1, p1, f1⟩ := C_point hC x1 x2
  have hZ1 : zMZ G1 A T := hZ.up (fun a ha => f1 a (by omega) (Or.inr ha))
  obtain ⟨G2, v, c2, z2, rf, f2⟩ := M_point hZ1 hA.1 x1 x2
  refine ⟨G1, G2, _, v, zxGo zMt_C_point fC_point hst (zxh_C_point hst) e1 rfl rfl (Nat.le_of_ble_eq_true rfl) (fun n hn => by cases hn; decide), ?_, c2, rf, lwI_of p1 f1 hs ⟨Cs, hd⟩ z2 f2 (by unfold qPoint; (repeat' split); all_goals with_reducible exact hA)⟩
  exact (show (∃ v, (qPoint A x1 x2).1 = .inl (some (.int v))) ∨ (qPoint A x1 x2).1 = .inr 2 ∨ (qPoint A x1 x2).1 = .inr 0 from by unfold qPoint; (repeat' split); all_goals with_reducible first | exact Or.inl ⟨_, rfl⟩ | exact Or.inr rfl | exact Or.inr (Or.inl rfl) | exact Or.inr (Or.inr rfl) | exact Or.inr (Or.inr (Or.inl rfl)) | exact Or.inr (Or.inr (Or.inr rfl)))
theorem lp_successor (hst : l.stackTraces = false) (I : lwI G) (x1 : Int32) : lwP l D K lo mC_successor jM_successor [.int x1] (fun r => (∃ v, r = .inl (some (.int v))) ∨ r = .inr 0 ∨ r = .inr 3) (zk2 0 3) G := by
  obtain ⟨A, T, hC, hs, ⟨Cs, hd⟩, hZ, hA⟩ := I
  obtain ⟨G1, e1, p1, f1⟩ := C_successor hC x1
  have hZ1 : zMZ G1 A T := hZ.up (fun a ha => f1 a (by omega) (Or.inr ha))
  obtain ⟨G2, v, c2, z2, rf, f2⟩ := M_successor hZ1 hA.1 x1
  refine ⟨G1, G2, _, v, zxGo zMt_C_successor fC_successor hst (zxh_C_successor hst) e1 rfl rfl (Nat.le_of_ble_eq_true rfl) (fun n hn => by cases hn; decide), ?_, c2, rf, lwI_of p1 f1 hs ⟨Cs, hd⟩ z2 f2 (by unfold qSucc; (repeat' split); all_goals with_reducible exact hA)⟩
  exact (show (∃ v, (qSucc A x1).1 = .inl (some (.int v))) ∨ (qSucc A x1).1 = .inr 0 ∨ (qSucc A x1).1 = .inr 3 from by unfold qSucc; (repeat' split); all_goals with_reducible first | exact Or.inl ⟨_, rfl⟩ | exact Or.inr rfl | exact Or.inr (Or.inl rfl) | exact Or.inr (Or.inr rfl) | exact Or.inr (Or.inr (Or.inl rfl)) | exact Or.inr (Or.inr (Or.inr rfl)))
theorem lp_shard (hst : l.stackTraces = false) (I : lwI G) (x1 x2 : Int32) : lwP l D K lo mC_shard jM_shard [.int x1, .int x2] (fun r => (∃ v, r = .inl (some (.int v))) ∨ r = .inr 2 ∨ r = .inr 0) (zk2 2 0) G := by
  obtain ⟨A, T, hC, hs, ⟨Cs, hd⟩, hZ, hA⟩ := I
  obtain ⟨G1, e1, p1, f1⟩ := C_shard hC x1 x2
  have hZ1 : zMZ G1 A T := hZ.up (fun a ha => f1 a (by omega) (Or.inr ha))
  obtain ⟨G2, v, c2, z2, rf, f2⟩ := M_shard hZ1 hA.1 x1 x2
  refine ⟨G1, G2, _, v, zxGo zMt_C_shard fC_shard hst (zxh_C_shard hst) e1 rfl rfl (Nat.le_of_ble_eq_true rfl) (fun n hn => by cases hn; decide), ?_, c2, rf, lwI_of p1 f1 hs ⟨Cs, hd⟩ z2 f2 (by unfold qShard; (repeat' split); all_goals with_reducible exact hA)⟩
  exact (show (∃ v, (qShard A x1 x2).1 = .inl (some (.int v))) ∨ (qShard A x1 x2).1 = .inr 2 ∨ (qShard A x1 x2).1 = .inr 0 from by unfold qShard; (repeat' split); all_goals with_reducible first | exact Or.inl ⟨_, rfl⟩ | exact Or.inr rfl | exact Or.inr (Or.inl rfl) | exact Or.inr (Or.inr rfl) | exact Or.inr (Or.inr (Or.inl rfl)) | exact Or.inr (Or.inr (Or.inr rfl)))
theorem lp_route (hst : l.stackTraces = false) (I : lwI G) (x1 : Int32) : lwP l D K lo mC_route jM_route [.int x1] (fun r => (∃ v, r = .inl (some (.int v))) ∨ r = .inr 3) (zk1 3) G := by
  obtain ⟨A, T, hC, hs, ⟨Cs, hd⟩, hZ, hA⟩ := I
  obtain ⟨G1, e1, p1, f1⟩ := C_route hC x1
  have hZ1 : zMZ G1 A T := hZ.up (fun a ha => f1 a (by omega) (Or.inr ha))
  obtain ⟨G2, v, c2, z2, rf, f2⟩ := M_route hZ1 hA.1 x1
  refine ⟨G1, G2, _, v, zxGo zMt_C_route fC_route hst (zxh_C_route hst) e1 rfl rfl (Nat.le_of_ble_eq_true rfl) (fun n hn => by cases hn; decide), ?_, c2, rf, lwI_of p1 f1 hs ⟨Cs, hd⟩ z2 f2 (by unfold qRoute; (repeat' split); all_goals with_reducible exact hA)⟩
  exact (show (∃ v, (qRoute A x1).1 = .inl (some (.int v))) ∨ (qRoute A x1).1 = .inr 3 from by unfold qRoute; (repeat' split); all_goals with_reducible first | exact Or.inl ⟨_, rfl⟩ | exact Or.inr rfl | exact Or.inr (Or.inl rfl) | exact Or.inr (Or.inr rfl) | exact Or.inr (Or.inr (Or.inl rfl)) | exact Or.inr (Or.inr (Or.inr rfl)))
theorem lp_pending (I : lwI G) : ∃ (G1 G2 : Nat → Nat → Int32) (v : Int32), zcal zTT jC_pending [.ref 0] (zhp G) = some (some (.int v), zhp G1) ∧ zcal zTT jM_pending [.ref 122] (zhp G1) = some (some (.int v), zhp G2) ∧ lwI G2 := by
  obtain ⟨A, T, hC, hs, ⟨Cs, hd⟩, hZ, hA⟩ := I
  obtain ⟨G1, e1, p1, f1⟩ := C_pending hC
  have hZ1 : zMZ G1 A T := hZ.up (fun a ha => f1 a (by omega) (Or.inr ha))
  obtain ⟨G2, v, c2, z2, rf, f2⟩ := M_pending hZ1 hA.1
  refine ⟨G1, G2, v, ?_, c2, lwI_of p1 f1 hs ⟨Cs, hd⟩ z2 f2 hA⟩
  rcases rf with ⟨v1, h1, -, h2⟩ | ⟨e0, h1, -⟩
  · rw [h1, ← h2] at e1
    exact zgo zMt_C_pending e1
  · cases h1
theorem lp_changedIf (hst : l.stackTraces = false) (I : lwI G) (x1 x2 : Int32) : lwP l D K lo mC_changedIf jM_changedIf [.int x1, .int x2] (fun r => (∃ v, r = .inl (some (.int v))) ∨ r = .inr 2 ∨ r = .inr 0 ∨ r = .inr 1) (zk3 2 0 1) G := by
  obtain ⟨A, T, hC, hs, ⟨Cs, hd⟩, hZ, hA⟩ := I
  obtain ⟨G1, e1, p1, f1⟩ := C_changedIf hC x1 x2
  have hZ1 : zMZ G1 A T := hZ.up (fun a ha => f1 a (by omega) (Or.inr ha))
  obtain ⟨G2, v, c2, z2, rf, f2⟩ := M_changedIf hZ1 hA.1 x1 x2
  refine ⟨G1, G2, _, v, zxGo zMt_C_changedIf fC_changedIf hst (zxh_C_changedIf hst) e1 rfl rfl (Nat.le_of_ble_eq_true rfl) (fun n hn => by cases hn; decide), ?_, c2, rf, lwI_of p1 f1 hs ⟨Cs, hd⟩ z2 f2 (by unfold qChg; (repeat' split); all_goals with_reducible exact hA)⟩
  exact (show (∃ v, (qChg A x1 x2).1 = .inl (some (.int v))) ∨ (qChg A x1 x2).1 = .inr 2 ∨ (qChg A x1 x2).1 = .inr 0 ∨ (qChg A x1 x2).1 = .inr 1 from by unfold qChg; (repeat' split); all_goals with_reducible first | exact Or.inl ⟨_, rfl⟩ | exact Or.inr rfl | exact Or.inr (Or.inl rfl) | exact Or.inr (Or.inr rfl) | exact Or.inr (Or.inr (Or.inl rfl)) | exact Or.inr (Or.inr (Or.inr rfl)))
theorem lp_leastSlack (hst : l.stackTraces = false) (I : lwI G) : lwP l D K lo mC_leastSlack jM_leastSlack [] (fun r => (∃ v, r = .inl (some (.int v))) ∨ r = .inr 3 ∨ r = .inr 1) (zk2 3 1) G := by
  obtain ⟨A, T, hC, hs, ⟨Cs, hd⟩, hZ, hA⟩ := I
  obtain ⟨G1, e1, p1, f1⟩ := C_leastSlack hC
  have hZ1 : zMZ G1 A T := hZ.up (fun a ha => f1 a (by omega) (Or.inr ha))
  obtain ⟨G2, v, c2, z2, rf, f2⟩ := M_leastSlack hZ1 hA.1
  refine ⟨G1, G2, _, v, zxGo zMt_C_leastSlack fC_leastSlack hst (zxh_C_leastSlack hst) e1 rfl rfl (Nat.le_of_ble_eq_true rfl) (fun n hn => by cases hn; decide), ?_, c2, rf, lwI_of p1 f1 hs ⟨Cs, hd⟩ z2 f2 (by unfold qLeast; (repeat' split); all_goals with_reducible exact hA)⟩
  exact (show (∃ v, (qLeast A).1 = .inl (some (.int v))) ∨ (qLeast A).1 = .inr 3 ∨ (qLeast A).1 = .inr 1 from by unfold qLeast; (repeat' split); all_goals with_reducible first | exact Or.inl ⟨_, rfl⟩ | exact Or.inr rfl | exact Or.inr (Or.inl rfl) | exact Or.inr (Or.inr rfl) | exact Or.inr (Or.inr (Or.inl rfl)) | exact Or.inr (Or.inr (Or.inr rfl)))
theorem lp_tick (hst : l.stackTraces = false) (I : lwI G) (x1 : Int32) : lwP l D K lo mC_tick jM_tick [.int x1] (fun r => (∃ v, r = .inl (some (.int v))) ∨ r = .inr 0) (zk1 0) G := by
  obtain ⟨A, T, hC, hs, ⟨Cs, hd⟩, hZ, hA⟩ := I
  obtain ⟨B, b1, b2, b3, b4⟩ := hA.1.iv
  obtain ⟨G1, e1, p1, f1⟩ := C_tick hC b4 (by omega) x1
  have hZ1 : zMZ G1 A T := hZ.up (fun a ha => f1 a (by omega) (Or.inr ha))
  obtain ⟨G2, v, c2, z2, rf, f2⟩ := M_tick hZ1 hA.1 b2 b3 x1
  refine ⟨G1, G2, _, v, zxGo zMt_C_tick fC_tick hst (zxh_C_tick hst) e1 rfl rfl (Nat.le_of_ble_eq_true rfl) (fun n hn => by cases hn; decide), ?_, c2, rf, lwI_of p1 f1 hs ⟨Cs, hd⟩ z2 f2 (gTick hA hZ.c6.1 hZ.c6.2 b2 x1)⟩
  exact (show (∃ v, (qTick A B x1).1 = .inl (some (.int v))) ∨ (qTick A B x1).1 = .inr 0 from by unfold qTick; (repeat' split); all_goals with_reducible first | exact Or.inl ⟨_, rfl⟩ | exact Or.inr rfl | exact Or.inr (Or.inl rfl) | exact Or.inr (Or.inr rfl) | exact Or.inr (Or.inr (Or.inl rfl)) | exact Or.inr (Or.inr (Or.inr rfl)))
theorem lp_moves (I : lwI G) : ∃ (G1 G2 : Nat → Nat → Int32) (v : Int32), zcal zTT jC_moves [.ref 0] (zhp G) = some (some (.int v), zhp G1) ∧ zcal zTT jM_moves [.ref 122] (zhp G1) = some (some (.int v), zhp G2) ∧ lwI G2 := by
  obtain ⟨A, T, hC, hs, ⟨Cs, hd⟩, hZ, hA⟩ := I
  obtain ⟨G1, e1, p1, f1⟩ := C_moves hC
  have hZ1 : zMZ G1 A T := hZ.up (fun a ha => f1 a (by omega) (Or.inr ha))
  obtain ⟨G2, v, c2, z2, rf, f2⟩ := M_moves hZ1
  refine ⟨G1, G2, v, ?_, c2, lwI_of p1 f1 hs ⟨Cs, hd⟩ z2 f2 hA⟩
  rcases rf with ⟨v1, h1, -, h2⟩ | ⟨e0, h1, -⟩
  · rw [h1, ← h2] at e1
    exact zgo zMt_C_moves e1
  · cases h1
theorem lp_move (hst : l.stackTraces = false) (I : lwI G) (x1 x2 : Int32) : lwP l D K lo mC_move jM_move [.int x1, .int x2] (fun r => (∃ v, r = .inl (some (.int v))) ∨ r = .inr 2 ∨ r = .inr 0) (zk2 2 0) G := by
  obtain ⟨A, T, hC, hs, ⟨Cs, hd⟩, hZ, hA⟩ := I
  obtain ⟨G1, e1, p1, f1⟩ := C_move hC x1 x2
  have hZ1 : zMZ G1 A T := hZ.up (fun a ha => f1 a (by omega) (Or.inr ha))
  obtain ⟨G2, v, c2, z2, rf, f2⟩ := M_move hZ1 x1 x2
  refine ⟨G1, G2, _, v, zxGo zMt_C_move fC_move hst (zxh_C_move hst) e1 rfl rfl (Nat.le_of_ble_eq_true rfl) (fun n hn => by cases hn; decide), ?_, c2, rf, lwI_of p1 f1 hs ⟨Cs, hd⟩ z2 f2 (by unfold qMove; (repeat' split); all_goals with_reducible exact hA)⟩
  exact (show (∃ v, (qMove (sM (cS A)) A x1 x2).1 = .inl (some (.int v))) ∨ (qMove (sM (cS A)) A x1 x2).1 = .inr 2 ∨ (qMove (sM (cS A)) A x1 x2).1 = .inr 0 from by unfold qMove; (repeat' split); all_goals with_reducible first | exact Or.inl ⟨_, rfl⟩ | exact Or.inr rfl | exact Or.inr (Or.inl rfl) | exact Or.inr (Or.inr rfl) | exact Or.inr (Or.inr (Or.inl rfl)) | exact Or.inr (Or.inr (Or.inr rfl)))
theorem lp_forecast (hst : l.stackTraces = false) (I : lwI G) : lwP l D K lo mC_forecast jM_forecast [] (fun r => (∃ v, r = .inl (some (.int v))) ∨ r = .inr 3) (zk1 3) G := by
  obtain ⟨A, T, hC, hs, ⟨Cs, hd⟩, hZ, hA⟩ := I
  obtain ⟨B, b1, b2, b3, b4⟩ := hA.1.iv
  obtain ⟨G1, e1, p1, f1⟩ := C_forecast hC b4 (by omega)
  have hZ1 : zMZ G1 A T := hZ.up (fun a ha => f1 a (by omega) (Or.inr ha))
  obtain ⟨G2, v, c2, z2, rf, f2⟩ := M_forecast hZ1 hA.1 b2 b3
  refine ⟨G1, G2, _, v, zxGo zMt_C_forecast fC_forecast hst (zxh_C_forecast hst) e1 rfl rfl (Nat.le_of_ble_eq_true rfl) (fun n hn => by cases hn; decide), ?_, c2, rf, lwI_of p1 f1 hs ⟨Cs, hd⟩ z2 f2 (by unfold qFore; (repeat' split); all_goals with_reducible exact hA)⟩
  exact (show (∃ v, (qFore A B).1 = .inl (some (.int v))) ∨ (qFore A B).1 = .inr 3 from by unfold qFore; (repeat' split); all_goals with_reducible first | exact Or.inl ⟨_, rfl⟩ | exact Or.inr rfl | exact Or.inr (Or.inl rfl) | exact Or.inr (Or.inr rfl) | exact Or.inr (Or.inr (Or.inl rfl)) | exact Or.inr (Or.inr (Or.inr rfl)))
theorem lp_statistic (hst : l.stackTraces = false) (I : lwI G) (x1 : Int32) : lwP l D K lo mC_statistic jM_statistic [.int x1] (fun r => (∃ v, r = .inl (some (.int v))) ∨ r = .inr 0) (zk1 0) G := by
  obtain ⟨A, T, hC, hs, ⟨Cs, hd⟩, hZ, hA⟩ := I
  obtain ⟨G1, e1, p1, f1⟩ := C_statistic hC x1
  have hZ1 : zMZ G1 A T := hZ.up (fun a ha => f1 a (by omega) (Or.inr ha))
  obtain ⟨G2, v, c2, z2, rf, f2⟩ := M_statistic hZ1 x1
  refine ⟨G1, G2, _, v, zxGo zMt_C_statistic fC_statistic hst (zxh_C_statistic hst) e1 rfl rfl (Nat.le_of_ble_eq_true rfl) (fun n hn => by cases hn; decide), ?_, c2, rf, lwI_of p1 f1 hs ⟨Cs, hd⟩ z2 f2 (by unfold qStat; (repeat' split); all_goals with_reducible exact hA)⟩
  exact (show (∃ v, (qStat A x1).1 = .inl (some (.int v))) ∨ (qStat A x1).1 = .inr 0 from by unfold qStat; (repeat' split); all_goals with_reducible first | exact Or.inl ⟨_, rfl⟩ | exact Or.inr rfl | exact Or.inr (Or.inl rfl) | exact Or.inr (Or.inr rfl) | exact Or.inr (Or.inr (Or.inl rfl)) | exact Or.inr (Or.inr (Or.inr rfl)))
theorem lp_events (I : lwI G) : ∃ (G1 G2 : Nat → Nat → Int32) (v : Int32), zcal zTT jC_events [.ref 0] (zhp G) = some (some (.int v), zhp G1) ∧ zcal zTT jM_events [.ref 122] (zhp G1) = some (some (.int v), zhp G2) ∧ lwI G2 := by
  obtain ⟨A, T, hC, hs, ⟨Cs, hd⟩, hZ, hA⟩ := I
  obtain ⟨G1, e1, p1, f1⟩ := C_events hC
  have hZ1 : zMZ G1 A T := hZ.up (fun a ha => f1 a (by omega) (Or.inr ha))
  obtain ⟨G2, v, c2, z2, rf, f2⟩ := M_events hZ1
  refine ⟨G1, G2, v, ?_, c2, lwI_of p1 f1 hs ⟨Cs, hd⟩ z2 f2 hA⟩
  rcases rf with ⟨v1, h1, -, h2⟩ | ⟨e0, h1, -⟩
  · rw [h1, ← h2] at e1
    exact zgo zMt_C_events e1
  · cases h1
theorem lp_event (hst : l.stackTraces = false) (I : lwI G) (x1 x2 : Int32) : lwP l D K lo mC_event jM_event [.int x1, .int x2] (fun r => (∃ v, r = .inl (some (.int v))) ∨ r = .inr 2 ∨ r = .inr 0) (zk2 2 0) G := by
  obtain ⟨A, T, hC, hs, ⟨Cs, hd⟩, hZ, hA⟩ := I
  obtain ⟨G1, e1, p1, f1⟩ := C_event hC x1 x2
  have hZ1 : zMZ G1 A T := hZ.up (fun a ha => f1 a (by omega) (Or.inr ha))
  obtain ⟨G2, v, c2, z2, rf, f2⟩ := M_event hZ1 x1 x2
  refine ⟨G1, G2, _, v, zxGo zMt_C_event fC_event hst (zxh_C_event hst) e1 rfl rfl (Nat.le_of_ble_eq_true rfl) (fun n hn => by cases hn; decide), ?_, c2, rf, lwI_of p1 f1 hs ⟨Cs, hd⟩ z2 f2 (by unfold qMove; (repeat' split); all_goals with_reducible exact hA)⟩
  exact (show (∃ v, (qMove (sE (cS A)) A x1 x2).1 = .inl (some (.int v))) ∨ (qMove (sE (cS A)) A x1 x2).1 = .inr 2 ∨ (qMove (sE (cS A)) A x1 x2).1 = .inr 0 from by unfold qMove; (repeat' split); all_goals with_reducible first | exact Or.inl ⟨_, rfl⟩ | exact Or.inr rfl | exact Or.inr (Or.inl rfl) | exact Or.inr (Or.inr rfl) | exact Or.inr (Or.inr (Or.inl rfl)) | exact Or.inr (Or.inr (Or.inr rfl)))
theorem lp_forget (hst : l.stackTraces = false) (I : lwI G) (x1 : Int32) : lwP l D K lo mC_forget jM_forget [.int x1] (fun r => (∃ v, r = .inl (some (.int v))) ∨ r = .inr 2) (zk1 2) G := by
  obtain ⟨A, T, hC, hs, ⟨Cs, hd⟩, hZ, hA⟩ := I
  obtain ⟨G1, e1, p1, f1⟩ := C_forget hC x1
  have hZ1 : zMZ G1 A T := hZ.up (fun a ha => f1 a (by omega) (Or.inr ha))
  obtain ⟨G2, v, c2, z2, rf, f2⟩ := M_forget hZ1 x1
  refine ⟨G1, G2, _, v, zxGo zMt_C_forget fC_forget hst (zxh_C_forget hst) e1 rfl rfl (Nat.le_of_ble_eq_true rfl) (fun n hn => by cases hn; decide), ?_, c2, rf, lwI_of p1 f1 hs ⟨Cs, hd⟩ z2 f2 (gForget hA hZ.c6.1 hZ.c6.2 x1)⟩
  exact (show (∃ v, (qForget A x1).1 = .inl (some (.int v))) ∨ (qForget A x1).1 = .inr 2 from by unfold qForget; (repeat' split); all_goals with_reducible first | exact Or.inl ⟨_, rfl⟩ | exact Or.inr rfl | exact Or.inr (Or.inl rfl) | exact Or.inr (Or.inr rfl) | exact Or.inr (Or.inr (Or.inl rfl)) | exact Or.inr (Or.inr (Or.inr rfl)))
theorem lp_feed (hst : l.stackTraces = false) (I : lwI G) (x1 : Int32) (hv : vp_nar .char x1 = x1) : lwP l D K lo mC_feed jM_feed [.int x1] (fun r => (∃ v, r = .inl (some (.int v))) ∨ r = .inr 1) (zk1 1) G := by
  obtain ⟨A, T, hC, hs, ⟨Cs, hd⟩, hZ, hA⟩ := I
  obtain ⟨G1, e1, p1, s1, d1, f1⟩ := C_feed hC hs hd x1
  rw [hv] at s1
  have hZ1 : zMZ G1 A T := hZ.up f1
  obtain ⟨G2, v, c2, z2, rf, f2⟩ := M_feed hZ1 x1
  refine ⟨G1, G2, _, v, zxGo zMt_C_feed fC_feed hst (zxh_C_feed hst) e1 rfl rfl (Nat.le_of_ble_eq_true rfl) (fun n hn => by cases hn; decide), ?_, c2, rf, lwI_of2 p1 s1 ⟨Cs, d1⟩ z2 f2 hA⟩
  split
  · exact Or.inl ⟨_, rfl⟩
  · exact Or.inr rfl
theorem lp_perform (hst : l.stackTraces = false) (I : lwI G) : lwP l D K lo mC_perform jM_perform [] (fun r => (∃ v, r = .inl (some (.int v))) ∨ r = .inr 5) (zk1 5) G := by
  obtain ⟨A, T, hC, hs, ⟨Cs, hd⟩, hZ, hA⟩ := I
  obtain ⟨B, b1, b2, b3, b4⟩ := hA.1.iv
  obtain ⟨G1, e1, p1, s1, d1, f1⟩ := C_perform hC hs hd b4 (by omega)
  have hZ1 : zMZ G1 A T := hZ.up f1
  obtain ⟨G2, v, c2, z2, rf, f2⟩ := M_perform hZ1 hA.1 b2 b3
  refine ⟨G1, G2, _, v, zxGo zMt_C_perform fC_perform hst (zxh_C_perform hst) e1 rfl rfl (by decide) (fun n hn => by cases hn; decide), ?_, c2, rf, lwI_of2 p1 s1 d1 z2 f2 (gPerf hA hZ.c6.1 hZ.c6.2 b2)⟩
  exact (show (∃ v, (qPerf A T B).1 = .inl (some (.int v))) ∨ (qPerf A T B).1 = .inr 5 from by
    unfold qPerf
    split
    · generalize zRun B (pAll T 20 0 []).2.2 (cS A) = o
      cases o with
      | none => exact Or.inr rfl
      | some X => exact Or.inl ⟨_, rfl⟩
    · exact Or.inl ⟨_, rfl⟩)
theorem lp_undo (hst : l.stackTraces = false) (I : lwI G) : lwP l D K lo mC_undo jM_undo [] (fun r => (∃ v, r = .inl (some (.int v))) ∨ r = .inr 1) (zk1 1) G := by
  obtain ⟨A, T, hC, hs, ⟨Cs, hd⟩, hZ, hA⟩ := I
  obtain ⟨G1, e1, p1, f1⟩ := C_undo hC
  have hZ1 : zMZ G1 A T := hZ.up (fun a ha => f1 a (by omega) (Or.inr ha))
  obtain ⟨G2, v, c2, z2, rf, f2⟩ := M_undo hZ1
  refine ⟨G1, G2, _, v, zxGo zMt_C_undo fC_undo hst (zxh_C_undo hst) e1 rfl rfl (Nat.le_of_ble_eq_true rfl) (fun n hn => by cases hn; decide), ?_, c2, rf, lwI_of p1 f1 hs ⟨Cs, hd⟩ z2 f2 (gUndo hA hZ.c6.1 hZ.c6.2)⟩
  exact (show (∃ v, (qUndo A).1 = .inl (some (.int v))) ∨ (qUndo A).1 = .inr 1 from by unfold qUndo; (repeat' split); all_goals with_reducible first | exact Or.inl ⟨_, rfl⟩ | exact Or.inr rfl | exact Or.inr (Or.inl rfl) | exact Or.inr (Or.inr rfl) | exact Or.inr (Or.inr (Or.inl rfl)) | exact Or.inr (Or.inr (Or.inr rfl)))
theorem lp_save (I : lwI G) : ∃ (G1 G2 : Nat → Nat → Int32) (v : Int32), zcal zTT jC_save [.ref 0] (zhp G) = some (some (.int v), zhp G1) ∧ zcal zTT jM_save [.ref 122] (zhp G1) = some (some (.int v), zhp G2) ∧ lwI G2 := by
  obtain ⟨A, T, hC, hs, ⟨Cs, hd⟩, hZ, hA⟩ := I
  obtain ⟨G1, e1, p1, f1⟩ := C_save hC
  have hZ1 : zMZ G1 A T := hZ.up (fun a ha => f1 a (by omega) (Or.inr ha))
  obtain ⟨G2, v, c2, z2, rf, f2⟩ := M_save hZ1
  refine ⟨G1, G2, v, ?_, c2, lwI_of p1 f1 hs ⟨Cs, hd⟩ z2 f2 (gSave hA)⟩
  rcases rf with ⟨v1, h1, -, h2⟩ | ⟨e0, h1, -⟩
  · rw [h1, ← h2] at e1
    exact zgo zMt_C_save e1
  · cases h1
theorem lp_restore (hst : l.stackTraces = false) (I : lwI G) : lwP l D K lo mC_restore jM_restore [] (fun r => (∃ v, r = .inl (some (.int v))) ∨ r = .inr 1) (zk1 1) G := by
  obtain ⟨A, T, hC, hs, ⟨Cs, hd⟩, hZ, hA⟩ := I
  obtain ⟨G1, e1, p1, f1⟩ := C_restore hC
  have hZ1 : zMZ G1 A T := hZ.up (fun a ha => f1 a (by omega) (Or.inr ha))
  obtain ⟨G2, v, c2, z2, rf, f2⟩ := M_restore hZ1
  refine ⟨G1, G2, _, v, zxGo zMt_C_restore fC_restore hst (zxh_C_restore hst) e1 rfl rfl (Nat.le_of_ble_eq_true rfl) (fun n hn => by cases hn; decide), ?_, c2, rf, lwI_of p1 f1 hs ⟨Cs, hd⟩ z2 f2 (gRestore hA)⟩
  exact (show (∃ v, (qRestore A).1 = .inl (some (.int v))) ∨ (qRestore A).1 = .inr 1 from by unfold qRestore; (repeat' split); all_goals with_reducible first | exact Or.inl ⟨_, rfl⟩ | exact Or.inr rfl | exact Or.inr (Or.inl rfl) | exact Or.inr (Or.inr rfl) | exact Or.inr (Or.inr (Or.inl rfl)) | exact Or.inr (Or.inr (Or.inr rfl)))
end ZLAWP
