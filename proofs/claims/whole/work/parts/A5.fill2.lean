section ZFILL2
variable {l : Launch} {D : va_G} {K : Nat → ClassId} {lo : Nat}
def mC_gf : zMe := (yX6_greatestFill, cX6_greatestFill, 8, (Option.some Jvm.ClassFile.FieldType.double), 5, 113, [])
def mM_gf : zMe := (yX7_greatestFill, cX7_greatestFill, 6, (Option.some Jvm.ClassFile.FieldType.double), 3, 71, [])
theorem zvp {n k : Nat} (h : n < k) (hk : k < 4096) : vp_in (nI n) k := fun q => by
  rcases q with q | q
  · exact nI_pos (by omega) q
  · rw [zcl_n (by omega)] at q; omega
set_option maxRecDepth 100000 in
set_option maxHeartbeats 4000000 in
theorem zx_greatestFill (hst : l.stackTraces = false) {G : Nat → Nat → Int32} {A : zCA} (h : zCP G A) (hg : zGo (cS A)) : ∃ G', zCP G' A ∧ (∀ a, 102 ≤ a → (a ≤ 106 ∨ 122 ≤ a) → G' a = G a) ∧ vx_Met l yX6_greatestFill (zwl zGw mC_gf) (zxrm mC_gf) (va_Pc [.ref lo] (zxPc zNs D vwCl K zxB zxSt lo (some 139) (zhp G))) (fun _ st o t => ¬ (cR A).length = 0 ∧ o = .returned (some (.double (zGF (cS A) 8))) ∧ zWd D vwCl lo K (zhp G') t.heap ∧ va_F (zA lo (some 139)) st t) (fun C st t => (cR A).length = 0 ∧ C = zxE 4 ∧ zWd D vwCl lo K (zhp G') t.heap ∧ va_F (zA lo (some 139)) st t) 1 6 (zA lo (some 139)) := by
  obtain ⟨G1, c1, h1, s1, r1, f1⟩ := h.cur
  refine ⟨G1, h1, fun a _ _ => f1 a (by omega) (by omega), ?_⟩
  refine vx_ofW (cc := cX6_greatestFill) (maxL := 8) (ret := (Option.some Jvm.ClassFile.FieldType.double)) (by decide) rfl ?_
  intro p e s m args below meth c s₁ BL hml hno hv
  obtain ⟨rfl, ⟨hWd, hKK, hex⟩, hX⟩ := hv
  have hts0 := atoms_spec (ws := zwl zGw mC_gf) BL.pre
  have hts : ∀ w ∈ zGw, w.before ([Value.ref lo]).toArray s = true := fun w hw => hts0 w (List.mem_cons_of_mem _ hw)
  have hown : s.vm.findClass "ShardRebalancer" = some m.cls := findClass_of_methodNamed BL.named
  have hl := lv_entry [Value.ref lo] (n := 8) (Nat.le_of_ble_eq_true rfl)
  rw [lg_entry_eq]
  generalize (lg_sl [Value.ref lo] ++ List.replicate (8 - (lg_sl [Value.ref lo]).length) Slot.unset).toArray = ls at hl ⊢
  have hl : lv_has ls 8 [(0, .ref lo)] := hl
  have hx := BL.exec
  have hb := BL.bytes
  have hret := BL.returns
  have hlk := BL.notSynchronized
  have fix : CallFix p m c cX6_greatestFill 8 s ([Value.ref lo]).toArray zGw "ShardRebalancer" := ⟨hx, hb, hml, hown, hts⟩
  have hS : va_S (zA lo (some 139)) s.heap s.heap [] := va_S.rf
  refine lv_aload_n hx hb dX6_greatestFill_0 rfl (lv_at hl 0 rfl) ?_
  refine zhV (own := "ShardRebalancer") (as := []) (a := 0) (ci := 7) (ix := 128) (n := 0) (nL := 8) (nb := some 139) (rest := []) c1 (Nat.le_of_ble_eq_true rfl) (fun n hn => by cases hn; decide) fix hWd hKK hS (fun _ h => h) (by decide) rfl rfl rfl hl.1 (List.forall_mem_cons.mpr ⟨gw_of 227 (by decide +kernel), List.forall_mem_cons.mpr ⟨gw_of 229 (by decide +kernel), List.forall_mem_cons.mpr ⟨gs_of 0 (by decide +kernel), List.forall_mem_cons.mpr ⟨gw_of 1 (by decide +kernel), zwl_in (gw_of 230 (by decide +kernel))⟩⟩⟩⟩) ⟨rfl, by decide, by decide, by decide +kernel⟩ (Nat.le_of_ble_eq_true rfl) (Nat.le_of_ble_eq_true rfl) ⟨Nat.zero_le _, Nat.zero_le _⟩ (Nat.le_of_ble_eq_true rfl) dX6_greatestFill_1 (fun H1 L1 hW hz1 hk1 hS => ?_)
  refine lv_astore_n (lv' := [(1, .ref (lo + 108)), (0, .ref lo)]) hx hb dX6_greatestFill_4 rfl hl (by decide) rfl (fun ls hl => ?_)
  refine lv_aload_n hx hb dX6_greatestFill_5 rfl (lv_at hl 0 rfl) ?_
  refine zhG fix gu_X1 hW hKK (ci := 3) (z := 8) (v := .int (nI (cR A).length)) rfl (by decide) (gw_of 175 (by decide +kernel)) (by rw [zgf_i (by decide) rfl rfl, r1.1]) dX6_greatestFill_6 ?_
  refine lv_if_ne (tgt := 22) hx hb dX6_greatestFill_9 (by decide) (fun hc => ?_) (fun hc => ?_)
  · have hne : ¬ (cR A).length = 0 := fun q => hc (by rw [q]; exact nI_0)
    have loop : ∀ k n, n + k = 8 → ∀ (H : Heap) (locs : List Loc) (ls : Array Slot), lv_has ls 8 [(4, .int (nI n)), (2, .double (zGF (cS A) n)), (1, .ref (lo + 108)), (0, .ref lo)] → zWd D vwCl lo K (zhp G1) H → va_S (zA lo (some 139)) s.heap H locs → W p l e (headSpec (zwl zGw mC_gf) (zxrm mC_gf)).room s m ([Value.ref lo]).toArray below meth c H locs 0 0 (vx_MQ below (fun _ st o t => ¬ (cR A).length = 0 ∧ o = .returned (some (.double (zGF (cS A) 8))) ∧ zWd D vwCl lo K (zhp G1) t.heap ∧ va_F (zA lo (some 139)) st t) (fun C st t => (cR A).length = 0 ∧ C = zxE 4 ∧ zWd D vwCl lo K (zhp G1) t.heap ∧ va_F (zA lo (some 139)) st t) ([Value.ref lo]).toArray s 1 6 (zA lo (some 139))) (F0 m 27 ls []) := by
      intro k
      induction k with
      | zero =>
        intro n hn H locs ls hl hW hS
        have hn : n = 8 := by omega
        subst hn
        refine lv_iload hx hb dX6_greatestFill_27 (lv_at hl 0 rfl) ?_
        refine lv_bipush (v := nI 8) hx hb dX6_greatestFill_29 (by decide) ?_
        refine lv_icmp_ge (tgt := 83) hx hb dX6_greatestFill_31 (by decide) (fun hc => ?_) (fun hc => ?_)
        · refine lv_dload_n hx hb dX6_greatestFill_83 rfl (lv_at hl 1 rfl) ?_
          refine W.widen (k := 1) (n := 6) (by omega) (by omega) ?_
          refine vx_ret ?_
          exact W.dret hx hb hret (fun t ht _ => ⟨hne, rfl, by rw [ht]; exact hW, hS.F ht⟩) hS.2.2 dX6_greatestFill_84 hlk
        · exact absurd (Int32.le_refl _) hc
      | succ k ih =>
        intro n hn H locs ls hl hW hS
        have h8 : n < 8 := by omega
        have s2 : G1 110 n = zCp (sN (cS A)) (sW (cS A)) (sC (cS A) 0) n := s1.2.2.1 n h8
        refine lv_iload hx hb dX6_greatestFill_27 (lv_at hl 0 rfl) ?_
        refine lv_bipush (v := nI 8) hx hb dX6_greatestFill_29 (by decide) ?_
        refine lv_icmp_ge (tgt := 83) hx hb dX6_greatestFill_31 (by decide) (fun hc => absurd hc (nI_ge h8 (by omega))) (fun hc => ?_)
        refine lv_aload_n hx hb dX6_greatestFill_34 rfl (lv_at hl 2 rfl) ?_
        refine lv_iload hx hb dX6_greatestFill_35 (lv_at hl 0 rfl) ?_
        by_cases hN : sN (cS A) n = 1
        · obtain ⟨b1, b2, b3⟩ := zca_b hg h8 hN
          have hcp : zcal zTT jP_capacityOf [.ref 108, .int (nI n)] (zhp G1) = some (some (.int (nI (zca (cS A) n))), zhp G1) := by
            rw [P_capacityOf rfl, if_pos (zrg_n (by omega) h8), zcl_n (by omega), ← b1, ← s2]
          refine zhV (own := "ShardRebalancer") (as := [.int (nI n)]) (a := 108) (ci := 3) (ix := 132) (n := 1) (nL := 8) (nb := some 139) (rest := []) hcp (Nat.le_of_ble_eq_true rfl) (fun n hn => by cases hn; decide) fix hW hKK hS (fun _ h => h) (by decide) rfl rfl rfl hl.1 (List.forall_mem_cons.mpr ⟨gw_of 568 (by decide +kernel), List.forall_mem_cons.mpr ⟨gw_of 569 (by decide +kernel), List.forall_mem_cons.mpr ⟨gw_of 570 (by decide +kernel), List.forall_mem_cons.mpr ⟨gw_of 8 (by decide +kernel), zwl_in (gw_of 571 (by decide +kernel))⟩⟩⟩⟩) ⟨rfl, by decide, by decide, by decide +kernel⟩ (Nat.le_of_ble_eq_true rfl) (Nat.le_of_ble_eq_true rfl) ⟨Nat.zero_le _, Nat.zero_le _⟩ (Nat.le_of_ble_eq_true rfl) dX6_greatestFill_37 (fun H1 L1 hW hz1 hk1 hS => ?_)
          refine lv_istore (lv' := [(5, .int (nI (zca (cS A) n))), (4, .int (nI n)), (2, .double (zGF (cS A) n)), (1, .ref (lo + 108)), (0, .ref lo)]) hx hb dX6_greatestFill_40 hl (by decide) rfl (fun ls hl => ?_)
          refine lv_iload hx hb dX6_greatestFill_42 (lv_at hl 0 rfl) ?_
          refine lv_if_le (tgt := 77) hx hb dX6_greatestFill_44 (by decide) (fun hc => absurd hc (of_eq_false (show (nI (zca (cS A) n) ≤ 0) = False from zle_f (s := 0) (n := zca (cS A) n) (by omega) (by omega)))) (fun hc => ?_)
          refine lv_aload_n hx hb dX6_greatestFill_47 rfl (lv_at hl 4 rfl) ?_
          refine zhG fix gu_X6 hW hKK (ci := 7) (a := 0) (z := 0) (v := .ref 1) rfl (by decide) (gw_of 195 (by decide +kernel)) (zgf_r (by decide) rfl rfl) dX6_greatestFill_48 ?_
          refine lv_iload hx hb dX6_greatestFill_51 (lv_at hl 1 rfl) ?_
          have how := T_ownedShardsS (p := 1) rfl h1.1 (nI n)
          refine zhV (own := "ShardRebalancer") (as := [.int (nI n)]) (a := 1) (ci := 6) (ix := 102) (n := 1) (nL := 8) (nb := some 139) (rest := []) how (Nat.le_of_ble_eq_true rfl) (fun n hn => by cases hn; decide) fix hW hKK hS (fun _ h => h) (by decide) rfl rfl rfl hl.1 (List.forall_mem_cons.mpr ⟨gw_of 522 (by decide +kernel), List.forall_mem_cons.mpr ⟨gw_of 523 (by decide +kernel), List.forall_mem_cons.mpr ⟨gw_of 524 (by decide +kernel), List.forall_mem_cons.mpr ⟨gw_of 2 (by decide +kernel), zwl_in (gw_of 525 (by decide +kernel))⟩⟩⟩⟩) ⟨rfl, by decide, by decide, by decide +kernel⟩ (Nat.le_of_ble_eq_true rfl) (Nat.le_of_ble_eq_true rfl) ⟨Nat.zero_le _, Nat.zero_le _⟩ (Nat.le_of_ble_eq_true rfl) dX6_greatestFill_53 (fun H1 L1 hW hz1 hk1 hS => ?_)
          refine lv_i2d hx hb dX6_greatestFill_56 ?_
          refine lv_iload hx hb dX6_greatestFill_57 (lv_at hl 0 rfl) ?_
          refine lv_i2d hx hb dX6_greatestFill_59 ?_
          refine lv_ddiv hx hb dX6_greatestFill_60 (zFL_n (zOwd (cS A) (nI n)) (zOwd_b _ _) (zca (cS A) n) b3 b2) ?_
          refine lv_topd (fun y ey => ?_)
          have ey : y = zFL (zOwd (cS A) (nI n)) (zca (cS A) n) := ey
          refine lv_dstore (lv' := [(6, .double y), (5, .int (nI (zca (cS A) n))), (4, .int (nI n)), (2, .double (zGF (cS A) n)), (1, .ref (lo + 108)), (0, .ref lo)]) hx hb dX6_greatestFill_61 hl (by decide) rfl (fun ls hl => ?_)
          refine lv_dload hx hb dX6_greatestFill_63 (lv_at hl 0 rfl) ?_
          refine lv_dload_n hx hb dX6_greatestFill_65 rfl (lv_at hl 3 rfl) ?_
          refine lv_dcmp hx hb dX6_greatestFill_66 ?_
          refine lv_if_le (tgt := 75) hx hb dX6_greatestFill_67 (by decide) (fun hq => ?_) (fun hq => ?_)
          · have k9 := ih (n + 1) (by omega)
            rw [zGF_1 hN (by rw [← ey]; exact hq)] at k9
            refine lv_dload_n hx hb dX6_greatestFill_75 rfl (lv_at hl 3 rfl) ?_
            refine lv_dstore_n (lv' := [(2, .double (zGF (cS A) n)), (6, .double y), (5, .int (nI (zca (cS A) n))), (4, .int (nI n)), (1, .ref (lo + 108)), (0, .ref lo)]) hx hb dX6_greatestFill_76 rfl hl (by decide) rfl (fun ls hl => ?_)
            refine lv_iinc (v := (nI (n + 1))) (lv' := [(4, .int (nI (n + 1))), (2, .double (zGF (cS A) n)), (6, .double y), (5, .int (nI (zca (cS A) n))), (1, .ref (lo + 108)), (0, .ref lo)]) hx hb dX6_greatestFill_77 hl (k := 3) rfl (nI_1 n) (by decide) rfl (fun ls hl => ?_)
            refine lv_goto (tgt := 27) hx hb dX6_greatestFill_80 (by decide) ?_
            exact k9 _ _ _ (lv_sub hl [0, 1, 4, 5] rfl) hW hS
          · have k9 := ih (n + 1) (by omega)
            rw [zGF_2 hN (by rw [← ey]; exact hq), ← ey] at k9
            refine lv_dload hx hb dX6_greatestFill_70 (lv_at hl 0 rfl) ?_
            refine lv_goto (tgt := 76) hx hb dX6_greatestFill_72 (by decide) ?_
            refine lv_dstore_n (lv' := [(2, .double y), (6, .double y), (5, .int (nI (zca (cS A) n))), (4, .int (nI n)), (1, .ref (lo + 108)), (0, .ref lo)]) hx hb dX6_greatestFill_76 rfl hl (by decide) rfl (fun ls hl => ?_)
            refine lv_iinc (v := (nI (n + 1))) (lv' := [(4, .int (nI (n + 1))), (2, .double y), (6, .double y), (5, .int (nI (zca (cS A) n))), (1, .ref (lo + 108)), (0, .ref lo)]) hx hb dX6_greatestFill_77 hl (k := 3) rfl (nI_1 n) (by decide) rfl (fun ls hl => ?_)
            refine lv_goto (tgt := 27) hx hb dX6_greatestFill_80 (by decide) ?_
            exact k9 _ _ _ (lv_sub hl [0, 1, 4, 5] rfl) hW hS
        · have hcp : zcal zTT jP_capacityOf [.ref 108, .int (nI n)] (zhp G1) = some (some (.int 0), zhp G1) := by
            rw [P_capacityOf rfl, if_pos (zrg_n (by omega) h8), zcl_n (by omega), s2]
            unfold zCp
            rw [if_neg hN]
          refine zhV (own := "ShardRebalancer") (as := [.int (nI n)]) (a := 108) (ci := 3) (ix := 132) (n := 1) (nL := 8) (nb := some 139) (rest := []) hcp (Nat.le_of_ble_eq_true rfl) (fun n hn => by cases hn; decide) fix hW hKK hS (fun _ h => h) (by decide) rfl rfl rfl hl.1 (List.forall_mem_cons.mpr ⟨gw_of 568 (by decide +kernel), List.forall_mem_cons.mpr ⟨gw_of 569 (by decide +kernel), List.forall_mem_cons.mpr ⟨gw_of 570 (by decide +kernel), List.forall_mem_cons.mpr ⟨gw_of 8 (by decide +kernel), zwl_in (gw_of 571 (by decide +kernel))⟩⟩⟩⟩) ⟨rfl, by decide, by decide, by decide +kernel⟩ (Nat.le_of_ble_eq_true rfl) (Nat.le_of_ble_eq_true rfl) ⟨Nat.zero_le _, Nat.zero_le _⟩ (Nat.le_of_ble_eq_true rfl) dX6_greatestFill_37 (fun H1 L1 hW hz1 hk1 hS => ?_)
          refine lv_istore (lv' := [(5, .int 0), (4, .int (nI n)), (2, .double (zGF (cS A) n)), (1, .ref (lo + 108)), (0, .ref lo)]) hx hb dX6_greatestFill_40 hl (by decide) rfl (fun ls hl => ?_)
          refine lv_iload hx hb dX6_greatestFill_42 (lv_at hl 0 rfl) ?_
          refine lv_if_le (tgt := 77) hx hb dX6_greatestFill_44 (by decide) (fun hc => ?_) (fun hc => absurd (by decide) hc)
          have k9 := ih (n + 1) (by omega)
          rw [zGF_3 hN] at k9
          refine lv_iinc (v := (nI (n + 1))) (lv' := [(4, .int (nI (n + 1))), (5, .int 0), (2, .double (zGF (cS A) n)), (1, .ref (lo + 108)), (0, .ref lo)]) hx hb dX6_greatestFill_77 hl (k := 1) rfl (nI_1 n) (by decide) rfl (fun ls hl => ?_)
          refine lv_goto (tgt := 27) hx hb dX6_greatestFill_80 (by decide) ?_
          exact k9 _ _ _ (lv_sub hl [0, 2, 3, 4] rfl) hW hS
    refine lv_dconst0 hx hb dX6_greatestFill_22 ?_
    refine lv_dstore_n (lv' := [(2, .double FP.dconst0), (1, .ref (lo + 108)), (0, .ref lo)]) hx hb dX6_greatestFill_23 rfl hl (by decide) rfl (fun ls hl => ?_)
    refine lv_iconst (v := 0) hx hb dX6_greatestFill_24 (by decide) ?_
    refine lv_istore (lv' := [(4, .int 0), (2, .double FP.dconst0), (1, .ref (lo + 108)), (0, .ref lo)]) hx hb dX6_greatestFill_25 hl (by decide) rfl (fun ls hl => ?_)
    exact loop 8 0 rfl _ _ _ (lv_sub hl [0, 1, 2, 3] rfl) hW hS
  · have h0 : (cR A).length = 0 := (nI_eq (by have := r1.2.1; omega) (by omega)).mp (hc.trans nI_0.symm)
    exact (zthrS hst rfl zxf_4 zxn_fit (by decide) zxk_4 zxi_4 zxa_4 zGw_good (text := "no node is active") (List.mem_of_getElem? (i := 14) rfl) dX6_greatestFill_12 dX6_greatestFill_15 dX6_greatestFill_16 dX6_greatestFill_18 dX6_greatestFill_21 : zxT l zGw zxB zxSt mC_gf (zx 12 3 .athrow 4)) lo (some 139) p e _ s m _ below meth c H1 L1 ls _ _ hx hb hown hts hX hS (hl.1.trans hml.symm) hno (Nat.le_of_ble_eq_true rfl) (Nat.le_of_ble_eq_true rfl) (Nat.le_refl _) (Nat.le_refl _) hlk (fun t _ a1 a2 => ⟨h0, rfl, zWd_up hW a1 a2, Nat.le_trans hS.1 a1, fun q q1 q2 => (a2 q (Nat.lt_of_lt_of_le q1 hS.1)).trans (hS.2.1 q q1 q2)⟩)
end ZFILL2
