section ZFILL3
variable {l : Launch} {D : va_G} {K : Nat → ClassId} {lo : Nat}
set_option maxRecDepth 100000 in
set_option maxHeartbeats 4000000 in
theorem zm_greatestFill {G : Nat → Nat → Int32} {A : zCA} {T : List Int32} (h : zMZ G A T) (hg : zGo (cS A)) : ∃ G' v, zMZ G' A T ∧ ((¬ (cR A).length = 0 ∧ G' 122 6 = 0 ∧ v = zGF (cS A) 8) ∨ ((cR A).length = 0 ∧ G' 122 6 = 1)) ∧ (∀ a, a < 122 → G' a = G a) ∧ Met l yX7_greatestFill (zwl zGw mM_gf) (zrm mM_gf 0 0) (va_Pc [.ref (lo + 122)] (zPc false zNs D vwCl K lo (zhp G))) (fun _ st o t => o = .returned (some (.double v)) ∧ zWd D vwCl lo K (zhp G') t.heap ∧ va_F (zA lo (some 139)) st t) 0 0 (zA lo (some 139)) := by
  obtain ⟨G1, c1, h1, f1⟩ := M_layTargets h.1.mo hg.2.1 h.2.2.2.2.2.1
  have e9 : G1 122 9 = nI (cR A).length := h1.1.1
  have hle : (cR A).length ≤ 160 := h1.1.2.1
  obtain ⟨t, ht⟩ : ∃ t : Int32, t = if (cR A).length = 0 then 1 else 0 := ⟨_, rfl⟩
  obtain ⟨v, hv9⟩ : ∃ v, v = if (cR A).length = 0 then FP.dconst0 else zGF (cS A) 8 := ⟨_, rfl⟩
  obtain ⟨G2, hG2⟩ : ∃ G2, G2 = zw G1 122 6 t := ⟨_, rfl⟩
  have F : zMJ G G2 := by rw [hG2]; exact f1.j.tr (zMJ.w6 t)
  have e123 : G2 123 = G 123 := by rw [hG2, zw_oth _ (by omega)]; exact f1.1 123 (by omega) (by omega)
  have e6 : G2 122 6 = t := by rw [hG2]; exact zw_eq _ _ _ _
  have hZ : zMZ G2 A T := h.fr F e123
  have s2 : ∀ n, n < 8 → G2 132 n = zCp (sN (cS A)) (sW (cS A)) (sC (cS A) 0) n := fun n hn => by rw [hG2, zw_oth _ (by omega)]; exact h1.2.1 n hn
  refine ⟨G2, v, hZ, ?_, F.lo, ?_⟩
  · by_cases h0 : (cR A).length = 0
    · exact Or.inr ⟨h0, by rw [e6, ht, if_pos h0]⟩
    · exact Or.inl ⟨h0, by rw [e6, ht, if_neg h0], by rw [hv9, if_neg h0]⟩
  refine Met.ofW (cc := cX7_greatestFill) (maxL := 6) (ret := (Option.some Jvm.ClassFile.FieldType.double)) (by decide) rfl ?_
  intro p e s m args below meth c s₁ BL hml hv
  obtain ⟨rfl, hWd, hKK, hex⟩ := hv
  have hts0 := atoms_spec (ws := zwl zGw mM_gf) BL.pre
  have hts : ∀ w ∈ zGw, w.before ([Value.ref (lo + 122)]).toArray s = true := fun w hw => hts0 w (List.mem_cons_of_mem _ hw)
  have hown : s.vm.findClass "ShardRebalancerModel" = some m.cls := findClass_of_methodNamed BL.named
  have hl := lv_entry [Value.ref (lo + 122)] (n := 6) (Nat.le_of_ble_eq_true rfl)
  rw [lg_entry_eq]
  generalize (lg_sl [Value.ref (lo + 122)] ++ List.replicate (6 - (lg_sl [Value.ref (lo + 122)]).length) Slot.unset).toArray = ls at hl ⊢
  have hl : lv_has ls 6 [(0, .ref (lo + 122))] := hl
  have hx := BL.exec
  have hb := BL.bytes
  have hret := BL.returns
  have hlk := BL.notSynchronized
  have fix : CallFix p m c cX7_greatestFill 6 s ([Value.ref (lo + 122)]).toArray zGw "ShardRebalancerModel" := ⟨hx, hb, hml, hown, hts⟩
  have hS : va_S (zA lo (some 139)) s.heap s.heap [] := va_S.rf
  have fin : ∀ (H : Heap) (locs : List Loc) (ls : Array Slot), lv_has ls 6 [(1, .double v), (0, .ref (lo + 122))] → zWd D vwCl lo K (zhp G2) H → va_S (zA lo (some 139)) s.heap H locs → W p l e (headSpec (zwl zGw mM_gf) (zrm mM_gf 0 0)).room s m ([Value.ref (lo + 122)]).toArray below meth c H locs 0 0 (MQ below (fun _ st o t => o = .returned (some (.double v)) ∧ zWd D vwCl lo K (zhp G2) t.heap ∧ va_F (zA lo (some 139)) st t) ([Value.ref (lo + 122)]).toArray s 0 0 (zA lo (some 139))) (F0 m 86 ls []) := by
    intro H locs ls hl hW hS
    refine lv_dload_n hx hb dX7_greatestFill_86 rfl (lv_at hl 0 rfl) ?_
    exact W.dret hx hb hret (fun t ht _ => ⟨rfl, by rw [ht]; exact hW, hS.F ht⟩) hS.2.2 dX7_greatestFill_87 hlk
  have loop : ∀ k n, n + k = 8 → ¬ (cR A).length = 0 → ∀ (H : Heap) (locs : List Loc) (ls : Array Slot), lv_has ls 6 [(3, .int (nI n)), (1, .double (zGF (cS A) n)), (0, .ref (lo + 122))] → zWd D vwCl lo K (zhp G2) H → va_S (zA lo (some 139)) s.heap H locs → W p l e (headSpec (zwl zGw mM_gf) (zrm mM_gf 0 0)).room s m ([Value.ref (lo + 122)]).toArray below meth c H locs 0 0 (MQ below (fun _ st o t => o = .returned (some (.double v)) ∧ zWd D vwCl lo K (zhp G2) t.heap ∧ va_F (zA lo (some 139)) st t) ([Value.ref (lo + 122)]).toArray s 0 0 (zA lo (some 139))) (F0 m 24 ls []) := by
    intro k
    induction k with
    | zero =>
      intro n hn h0 H locs ls hl hW hS
      have hn : n = 8 := by omega
      subst hn
      have ev : zGF (cS A) 8 = v := by rw [hv9, if_neg h0]
      refine lv_iload_n hx hb dX7_greatestFill_24 rfl (lv_at hl 0 rfl) ?_
      refine lv_bipush (v := nI 8) hx hb dX7_greatestFill_25 (by decide) ?_
      refine lv_icmp_ge (tgt := 86) hx hb dX7_greatestFill_27 (by decide) (fun hc => ?_) (fun hc => ?_)
      · rw [ev] at hl
        exact fin _ _ _ (lv_sub hl [1, 2] rfl) hW hS
      · exact absurd (Int32.le_refl _) hc
    | succ k ih =>
      intro n hn h0 H locs ls hl hW hS
      have h8 : n < 8 := by omega
      have e60 : G2 122 6 = 0 := by rw [e6, ht, if_neg h0]
      refine lv_iload_n hx hb dX7_greatestFill_24 rfl (lv_at hl 0 rfl) ?_
      refine lv_bipush (v := nI 8) hx hb dX7_greatestFill_25 (by decide) ?_
      refine lv_icmp_ge (tgt := 86) hx hb dX7_greatestFill_27 (by decide) (fun hc => absurd hc (nI_ge h8 (by omega))) (fun hc => ?_)
      refine lv_aload_n hx hb dX7_greatestFill_30 rfl (lv_at hl 2 rfl) ?_
      refine zhG fix gu_X7 hW hKK (ci := 8) (a := 122) (z := 6) (v := .int 0) rfl (by decide) (gw_of 1022 (by decide +kernel)) (by rw [zgf_i (by decide) rfl rfl, e60]) dX7_greatestFill_31 ?_
      refine lv_if_ne (tgt := 86) hx hb dX7_greatestFill_34 (by decide) (fun hc => absurd rfl hc) (fun hc => ?_)
      refine lv_aload_n hx hb dX7_greatestFill_37 rfl (lv_at hl 2 rfl) ?_
      refine lv_iload_n hx hb dX7_greatestFill_38 rfl (lv_at hl 0 rfl) ?_
      refine lv_iconst (v := 1) hx hb dX7_greatestFill_39 (by decide) ?_
      have his := M_is h8 hZ.1.mo 1
      have hex2 : ∀ (y : UInt64), (y = FP.dconst0 ∧ ¬ sN (cS A) n = 1 ∨ y = zFL (zOwd (cS A) (nI n)) (zca (cS A) n) ∧ sN (cS A) n = 1) → ∀ (H : Heap) (locs : List Loc) (ls : Array Slot), lv_has ls 6 [(3, .int (nI n)), (1, .double (zGF (cS A) n)), (0, .ref (lo + 122))] → zWd D vwCl lo K (zhp G2) H → va_S (zA lo (some 139)) s.heap H locs → W p l e (headSpec (zwl zGw mM_gf) (zrm mM_gf 0 0)).room s m ([Value.ref (lo + 122)]).toArray below meth c H locs 0 0 (MQ below (fun _ st o t => o = .returned (some (.double v)) ∧ zWd D vwCl lo K (zhp G2) t.heap ∧ va_F (zA lo (some 139)) st t) ([Value.ref (lo + 122)]).toArray s 0 0 (zA lo (some 139))) (F0 m 64 ls [.double y]) := by
        intro y hy H locs ls hl hW hS
        refine lv_dstore (lv' := [(4, .double y), (3, .int (nI n)), (1, .double (zGF (cS A) n)), (0, .ref (lo + 122))]) hx hb dX7_greatestFill_64 hl (by decide) rfl (fun ls hl => ?_)
        refine lv_dload hx hb dX7_greatestFill_66 (lv_at hl 0 rfl) ?_
        refine lv_dload_n hx hb dX7_greatestFill_68 rfl (lv_at hl 2 rfl) ?_
        refine lv_dcmp hx hb dX7_greatestFill_69 ?_
        have k9 := ih (n + 1) (by omega) h0
        refine lv_if_le (tgt := 78) hx hb dX7_greatestFill_70 (by decide) (fun hq => ?_) (fun hq => ?_)
        · have eq9 : zGF (cS A) (n + 1) = zGF (cS A) n := by
            rcases hy with ⟨hy, hN⟩ | ⟨hy, hN⟩
            · exact zGF_3 hN
            · exact zGF_1 hN (by rw [← hy]; exact hq)
          rw [eq9] at k9
          refine lv_dload_n hx hb dX7_greatestFill_78 rfl (lv_at hl 2 rfl) ?_
          refine lv_dstore_n (lv' := [(1, .double (zGF (cS A) n)), (4, .double y), (3, .int (nI n)), (0, .ref (lo + 122))]) hx hb dX7_greatestFill_79 rfl hl (by decide) rfl (fun ls hl => ?_)
          refine lv_iinc (v := (nI (n + 1))) (lv' := [(3, .int (nI (n + 1))), (1, .double (zGF (cS A) n)), (4, .double y), (0, .ref (lo + 122))]) hx hb dX7_greatestFill_80 hl (k := 2) rfl (nI_1 n) (by decide) rfl (fun ls hl => ?_)
          refine lv_goto (tgt := 24) hx hb dX7_greatestFill_83 (by decide) ?_
          exact k9 _ _ _ (lv_sub hl [0, 1, 3] rfl) hW hS
        · have eq9 : zGF (cS A) (n + 1) = y := by
            rcases hy with ⟨hy, hN⟩ | ⟨hy, hN⟩
            · exact absurd (by rw [hy]; exact (zGF_v hg n (by omega)).z) hq
            · rw [zGF_2 hN (by rw [← hy]; exact hq), hy]
          rw [eq9] at k9
          refine lv_dload hx hb dX7_greatestFill_73 (lv_at hl 0 rfl) ?_
          refine lv_goto (tgt := 79) hx hb dX7_greatestFill_75 (by decide) ?_
          refine lv_dstore_n (lv' := [(1, .double y), (4, .double y), (3, .int (nI n)), (0, .ref (lo + 122))]) hx hb dX7_greatestFill_79 rfl hl (by decide) rfl (fun ls hl => ?_)
          refine lv_iinc (v := (nI (n + 1))) (lv' := [(3, .int (nI (n + 1))), (1, .double y), (4, .double y), (0, .ref (lo + 122))]) hx hb dX7_greatestFill_80 hl (k := 2) rfl (nI_1 n) (by decide) rfl (fun ls hl => ?_)
          refine lv_goto (tgt := 24) hx hb dX7_greatestFill_83 (by decide) ?_
          exact k9 _ _ _ (lv_sub hl [0, 1, 3] rfl) hW hS
      by_cases hN : sN (cS A) n = 1
      · obtain ⟨b1, b2, b3⟩ := zca_b hg h8 hN
        rw [if_pos hN] at his
        refine zhV (own := "ShardRebalancerModel") (as := [.int (nI n), .int 1]) (a := 122) (ci := 8) (ix := 79) (n := 2) (nL := 6) (nb := some 139) (rest := []) his (Nat.le_of_ble_eq_true rfl) (fun n hn => by cases hn; decide) fix hW hKK hS (fun _ h => h) (by decide) rfl rfl rfl hl.1 (List.forall_mem_cons.mpr ⟨gw_of 1105 (by decide +kernel), List.forall_mem_cons.mpr ⟨gw_of 1107 (by decide +kernel), List.forall_mem_cons.mpr ⟨gs_of 17 (by decide +kernel), List.forall_mem_cons.mpr ⟨gw_of 9 (by decide +kernel), zwl_in (gw_of 1108 (by decide +kernel))⟩⟩⟩⟩) ⟨rfl, by decide, by decide, by decide +kernel⟩ (Nat.le_of_ble_eq_true rfl) (Nat.le_of_ble_eq_true rfl) ⟨Nat.zero_le _, Nat.zero_le _⟩ (Nat.le_of_ble_eq_true rfl) dX7_greatestFill_40 (fun H1 L1 hW hz1 hk1 hS => ?_)
        refine lv_if_eq (tgt := 63) hx hb dX7_greatestFill_43 (by decide) (fun hc => absurd hc (by decide)) (fun hc => ?_)
        refine lv_aload_n hx hb dX7_greatestFill_46 rfl (lv_at hl 2 rfl) ?_
        refine lv_iload_n hx hb dX7_greatestFill_47 rfl (lv_at hl 0 rfl) ?_
        have how := M_owned hZ.1.mo (nI n)
        refine zhV (own := "ShardRebalancerModel") (as := [.int (nI n)]) (a := 122) (ci := 8) (ix := 109) (n := 1) (nL := 6) (nb := some 139) (rest := []) how (Nat.le_of_ble_eq_true rfl) (fun n hn => by cases hn; decide) fix hW hKK hS (fun _ h => h) (by decide) rfl rfl rfl hl.1 (List.forall_mem_cons.mpr ⟨gw_of 1139 (by decide +kernel), List.forall_mem_cons.mpr ⟨gw_of 1141 (by decide +kernel), List.forall_mem_cons.mpr ⟨gs_of 23 (by decide +kernel), List.forall_mem_cons.mpr ⟨gw_of 9 (by decide +kernel), zwl_in (gw_of 1142 (by decide +kernel))⟩⟩⟩⟩) ⟨rfl, by decide, by decide, by decide +kernel⟩ (Nat.le_of_ble_eq_true rfl) (Nat.le_of_ble_eq_true rfl) ⟨Nat.zero_le _, Nat.zero_le _⟩ (Nat.le_of_ble_eq_true rfl) dX7_greatestFill_48 (fun H1 L1 hW hz1 hk1 hS => ?_)
        refine lv_i2d hx hb dX7_greatestFill_51 ?_
        refine lv_aload_n hx hb dX7_greatestFill_52 rfl (lv_at hl 2 rfl) ?_
        refine zhG fix gu_X7 hW hKK (ci := 8) (a := 122) (z := 13) (v := .ref 132) rfl (by decide) (gw_of 1029 (by decide +kernel)) (zgf_r (by decide) rfl rfl) dX7_greatestFill_53 ?_
        refine lv_iload_n hx hb dX7_greatestFill_56 rfl (lv_at hl 0 rfl) ?_
        have hat := zws_get (lo := lo) (K := K) (E := zhp G2) (p := 132) (Nat.le_of_ble_eq_true rfl)
        refine va_iald hx hb hKK.1 hW.1 132 0 (cA := K 0) (n := 8) (f := G2 132) hat rfl (zvp h8 (by omega)) dX7_greatestFill_57 ?_
        rw [zcl_n (s := n) (by omega), s2 n h8, b1]
        refine lv_i2d hx hb dX7_greatestFill_58 ?_
        refine lv_ddiv hx hb dX7_greatestFill_59 (zFL_n (zOwd (cS A) (nI n)) (zOwd_b _ _) (zca (cS A) n) b3 b2) ?_
        refine lv_topd (fun y ey => ?_)
        refine lv_goto (tgt := 64) hx hb dX7_greatestFill_60 (by decide) ?_
        exact hex2 y (Or.inr ⟨ey, hN⟩) _ _ _ hl hW hS
      · rw [if_neg hN] at his
        refine zhV (own := "ShardRebalancerModel") (as := [.int (nI n), .int 1]) (a := 122) (ci := 8) (ix := 79) (n := 2) (nL := 6) (nb := some 139) (rest := []) his (Nat.le_of_ble_eq_true rfl) (fun n hn => by cases hn; decide) fix hW hKK hS (fun _ h => h) (by decide) rfl rfl rfl hl.1 (List.forall_mem_cons.mpr ⟨gw_of 1105 (by decide +kernel), List.forall_mem_cons.mpr ⟨gw_of 1107 (by decide +kernel), List.forall_mem_cons.mpr ⟨gs_of 17 (by decide +kernel), List.forall_mem_cons.mpr ⟨gw_of 9 (by decide +kernel), zwl_in (gw_of 1108 (by decide +kernel))⟩⟩⟩⟩) ⟨rfl, by decide, by decide, by decide +kernel⟩ (Nat.le_of_ble_eq_true rfl) (Nat.le_of_ble_eq_true rfl) ⟨Nat.zero_le _, Nat.zero_le _⟩ (Nat.le_of_ble_eq_true rfl) dX7_greatestFill_40 (fun H1 L1 hW hz1 hk1 hS => ?_)
        refine lv_if_eq (tgt := 63) hx hb dX7_greatestFill_43 (by decide) (fun hc => ?_) (fun hc => absurd rfl hc)
        refine lv_dconst0 hx hb dX7_greatestFill_63 ?_
        exact hex2 _ (Or.inl ⟨rfl, hN⟩) _ _ _ hl hW hS
  refine lv_aload_n hx hb dX7_greatestFill_0 rfl (lv_at hl 0 rfl) ?_
  refine zhV (own := "ShardRebalancerModel") (as := []) (a := 122) (ci := 8) (ix := 138) (n := 0) (nL := 6) (nb := some 139) (rest := []) c1 (Nat.le_of_ble_eq_true rfl) (fun n hn => by cases hn; decide) fix hWd hKK hS (fun _ h => h) (by decide) rfl rfl rfl hl.1 (List.forall_mem_cons.mpr ⟨gw_of 1187 (by decide +kernel), List.forall_mem_cons.mpr ⟨gw_of 1189 (by decide +kernel), List.forall_mem_cons.mpr ⟨gs_of 30 (by decide +kernel), List.forall_mem_cons.mpr ⟨gw_of 9 (by decide +kernel), zwl_in (gw_of 1190 (by decide +kernel))⟩⟩⟩⟩) ⟨rfl, by decide, by decide, by decide +kernel⟩ (Nat.le_of_ble_eq_true rfl) (Nat.le_of_ble_eq_true rfl) ⟨Nat.zero_le _, Nat.zero_le _⟩ (Nat.le_of_ble_eq_true rfl) dX7_greatestFill_1 (fun H1 L1 hW hz1 hk1 hS => ?_)
  refine lv_aload_n hx hb dX7_greatestFill_4 rfl (lv_at hl 0 rfl) ?_
  refine lv_aload_n hx hb dX7_greatestFill_5 rfl (lv_at hl 0 rfl) ?_
  refine zhG fix gu_X7 hW hKK (ci := 8) (a := 122) (z := 9) (v := .int (nI (cR A).length)) rfl (by decide) (gw_of 1025 (by decide +kernel)) (by rw [zgf_i (by decide) rfl rfl, e9]) dX7_greatestFill_6 ?_
  have put : ∀ x, x = t → W p l e (headSpec (zwl zGw mM_gf) (zrm mM_gf 0 0)).room s m ([Value.ref (lo + 122)]).toArray below meth c H1 L1 0 0 (MQ below (fun _ st o t => o = .returned (some (.double v)) ∧ zWd D vwCl lo K (zhp G2) t.heap ∧ va_F (zA lo (some 139)) st t) ([Value.ref (lo + 122)]).toArray s 0 0 (zA lo (some 139))) (F0 m 17 ls [.int x, .ref (lo + 122)]) := by
    intro x hx9
    subst hx9
    refine zhP fix gu_X7 hW hKK hS (fun n hn => by cases hn; decide) (ci := 8) (z := 6) rfl (by decide) (gw_of 1022 (by decide +kernel)) (Nat.le_of_ble_eq_true rfl) rfl rfl tyX7_ok nmX7 rfl rfl dX7_greatestFill_17 (fun H2 L2 hW hS => ?_)
    rw [← hG2] at hW
    refine lv_dconst0 hx hb dX7_greatestFill_20 ?_
    refine lv_dstore_n (lv' := [(1, .double FP.dconst0), (0, .ref (lo + 122))]) hx hb dX7_greatestFill_21 rfl hl (by decide) rfl (fun ls hl => ?_)
    refine lv_iconst (v := 0) hx hb dX7_greatestFill_22 (by decide) ?_
    refine lv_istore_n (lv' := [(3, .int 0), (1, .double FP.dconst0), (0, .ref (lo + 122))]) hx hb dX7_greatestFill_23 rfl hl (by decide) rfl (fun ls hl => ?_)
    by_cases h0 : (cR A).length = 0
    · have ev : FP.dconst0 = v := by rw [hv9, if_pos h0]
      have e61 : G2 122 6 = 1 := by rw [e6, ht, if_pos h0]
      refine lv_iload_n hx hb dX7_greatestFill_24 rfl (lv_at hl 0 rfl) ?_
      refine lv_bipush (v := nI 8) hx hb dX7_greatestFill_25 (by decide) ?_
      refine lv_icmp_ge (tgt := 86) hx hb dX7_greatestFill_27 (by decide) (fun hc => absurd hc (by decide)) (fun hc => ?_)
      refine lv_aload_n hx hb dX7_greatestFill_30 rfl (lv_at hl 2 rfl) ?_
      refine zhG fix gu_X7 hW hKK (ci := 8) (a := 122) (z := 6) (v := .int 1) rfl (by decide) (gw_of 1022 (by decide +kernel)) (by rw [zgf_i (by decide) rfl rfl, e61]) dX7_greatestFill_31 ?_
      refine lv_if_ne (tgt := 86) hx hb dX7_greatestFill_34 (by decide) (fun hc => ?_) (fun hc => absurd hc (by decide))
      rw [ev] at hl
      exact fin _ _ _ (lv_sub hl [1, 2] rfl) hW hS
    · exact loop 8 0 rfl h0 _ _ _ (lv_sub hl [0, 1, 2] rfl) hW hS
  refine lv_if_ne (tgt := 16) hx hb dX7_greatestFill_9 (by decide) (fun hc => ?_) (fun hc => ?_)
  · have h0 : ¬ (cR A).length = 0 := fun q => hc (by rw [q]; exact nI_0)
    refine lv_iconst (v := 0) hx hb dX7_greatestFill_16 (by decide) ?_
    exact put 0 (by rw [ht, if_neg h0])
  · have h0 : (cR A).length = 0 := (nI_eq (by omega) (by omega)).mp (hc.trans nI_0.symm)
    refine lv_iconst (v := 1) hx hb dX7_greatestFill_12 (by decide) ?_
    refine lv_goto (tgt := 17) hx hb dX7_greatestFill_13 (by decide) ?_
    exact put 1 (by rw [ht, if_pos h0])
end ZFILL3
