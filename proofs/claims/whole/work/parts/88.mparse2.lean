section ZMPARSE2
variable {G G' : Nat → Nat → Int32} {T : List Int32} {a : Nat} {b : Bool}
theorem zMX.c8 (h : zMX G T a b) (k : Nat) (v : Int32) : zMX (zw G 138 k v) T a b := by
  obtain ⟨h1, h2, h3, h4, h5, h6⟩ := h
  exact ⟨by rw [zw_oth _ (by omega)]; exact h1, h2, fun i hi => by rw [zw_oth _ (by omega)]; exact h3 i hi, by rw [zw_oth _ (by omega)]; exact h4, h5, by rw [zw_oth _ (by omega)]; exact h6⟩
theorem zMX.w22 (h : zMX G T a b) (v : Int32) : zMX (zw G 122 22 v) T a b := by
  obtain ⟨h1, h2, h3, h4, h5, h6⟩ := h
  exact ⟨by rw [zw_ne _ (Or.inr (by omega))]; exact h1, h2, fun i hi => by rw [zw_oth _ (by omega)]; exact h3 i hi, by rw [zw_ne _ (Or.inr (by omega))]; exact h4, h5, by rw [zw_ne _ (Or.inr (by omega))]; exact h6⟩
theorem M_numG (h : zMX G T a b) : ∃ G' v c d, zcal zTT jM_number [.ref 122] (zhp G) = some (some (.int v), zhp G') ∧ zMX G' T c d ∧ zML G G' ∧ (b = true → c = a ∧ d = true) ∧ (b = false → c = (pNum T a).2 ∧ d = decide ((pNum T a).1 = -1) ∧ (¬ (pNum T a).1 = -1 → v = (pNum T a).1)) := by
  cases b with
  | true =>
    obtain ⟨G', c1, h1, h2⟩ := M_numberB h
    exact ⟨G', 0, a, true, c1, h1, h2, fun _ => ⟨rfl, rfl⟩, fun h => absurd h (by decide)⟩
  | false =>
    obtain ⟨G', v, c1, h1, h2, h3⟩ := M_number h
    exact ⟨G', v, _, _, c1, h1, h3, fun h => absurd h (by decide), fun _ => ⟨rfl, rfl, h2⟩⟩
theorem M_takeG (h : zMX G T a b) {w : Int32} (hw : ¬ w = -1) : ∃ G' c d, zcal zTT jM_take [.ref 122, .int w] (zhp G) = some (none, zhp G') ∧ zMX G' T c d ∧ zML G G' ∧ (b = true → c = a ∧ d = true) ∧ (b = false → c = (pAcc T w a).2 ∧ d = !(pAcc T w a).1) := by
  cases b with
  | true =>
    obtain ⟨G', c1, h1, h2⟩ := M_takeB h w
    exact ⟨G', a, true, c1, h1, h2, fun _ => ⟨rfl, rfl⟩, fun h => absurd h (by decide)⟩
  | false =>
    obtain ⟨G', c1, h1, h2⟩ := M_take h hw
    exact ⟨G', _, _, c1, h1, h2, fun h => absurd h (by decide), fun _ => ⟨rfl, rfl⟩⟩
/-- a command's end: the semicolon -/
theorem M_rcT (h : zMX G T a b) {c : Nat} (hc : G 122 22 = nI c) (x : Int32) : ∃ G' e d, zEv zTT (zco mM_readCommand) kM_readCommand_129 [.ref 122, .int x] [] (zhp G) (.inl none, zhp G') ∧ zMX G' T e d ∧ (b = true → e = a ∧ d = true) ∧ (b = false → e = (pAcc T (nI 59) a).2 ∧ d = !(pAcc T (nI 59) a).1) ∧ G' 122 22 = nI (c + 1) ∧ (∀ q, q ≠ 122 → G' q = G q) ∧ ∀ k, k ≠ 20 → k ≠ 21 → k ≠ 22 → G' 122 k = G 122 k := by
  obtain ⟨G1, e, d, c1, h1, h2, h3, h4⟩ := M_takeG h (w := nI 59) (by decide)
  have e22 : G1 122 22 = nI c := by rw [h2.2 22 (by omega) (by omega)]; exact hc
  refine ⟨zw G1 122 22 (nI (c + 1)), e, d, ?_, h1.w22 _, h3, h4, zw_eq _ _ _ _, fun q hq => by rw [zw_oth _ hq]; exact h2.1 q hq, fun k k1 k2 k3 => by rw [zw_ne _ (Or.inr k3)]; exact h2.2 k k1 k2⟩
  rw [kM_readCommand_129]
  simp only [kM_readCommand_0, kM_readCommand_46, kM_readCommand_66, kM_readCommand_67, zjM_readCommand_46, zjM_readCommand_47, zjM_readCommand_66, zjM_readCommand_67, zjM_readCommand_129, ev_iload, ev_aload, ev_istore, ev_astore, ev_iconst, ev_null, ev_iinc, ev_iadd, ev_isub, ev_imul, ev_iand, ev_ior, ev_ixor, ev_ishl, ev_ishr, ev_iushr, ev_idiv, ev_irem, ev_icmp, ev_if, ev_ifnull, ev_ifnullN, ev_goto, ev_dupi, ev_dupr, ev_dup2, ev_pop, ev_getf, ev_puti, ev_putr, ev_iald, ev_cald, ev_aald, ev_iast, ev_cast, ev_alen, ev_tsw, ev_lsw, ev_max, ev_min, ev_obj, ev_cp, ev_throw, ev_iret, ev_aret, ev_aretN, ev_ret, ev_new, ev_newa, ev_anew, ev_is0, ev_is1, ev_is2, ev_is3, ev_is4, ev_iv1, ev_iv2, ev_iv3, ev_iv4, ev_iv5, ev_ip1, ev_ip2, zlg_0, zls_0, zlg_1, zls_1, zlg_2, zls_2, zlg_3, zls_3, zlg_4, zls_4, zlg_5, zls_5, zlg_6, zls_6, zlg_7, zls_7, zlg_8, zls_8, zlg_9, zls_9, zlg_10, zls_10, zlg_11, zls_11, ev_jif, zLI_i, zLR_r, zOV_s, List.length_cons, List.length_nil, zcd, decide_eq_true_eq, true_and, and_true, Option.toList_some, Option.toList_none, List.cons_append, List.nil_append, zrf, if_true, if_false, true_or, or_true, false_or, or_false, and_self, zwr_w, zG_hp, Nat.reduceAdd, Nat.reduceLT, Nat.reduceLeDiff, Nat.zero_le, reduceIte, not_true_eq_false, not_false_eq_true, Prod.mk.injEq, Sum.inl.injEq, Option.some.injEq, Value.int.injEq, Value.ref.injEq, zsw, ev_jif, zB01, Bool.false_eq_true, one_ne, zero_eqone, nI_1, gT0_0, gT0_1, gT0_2, gT0_3, gT0_4, gT0_5, gT0_6, gT0_7, oT0, aT1, aT2, aT3, aT4, aT5, aT6, gT7_0, pgT7_0, gT7_1, gT7_2, pgT7_2, oT7, aT8, gT9_0, pgT9_0, gT9_1, gT9_2, pgT9_2, oT9, aT10, gP0_0, gP0_1, gP0_2, gP0_3, gP0_4, gP0_5, gP0_6, gP0_7, pgP0_7, gP0_8, pgP0_8, oP0, aP1, aP2, aP3, aP4, aP5, aP6, gR0_0, pgR0_0, gR0_1, gR0_2, pgR0_2, oR0, aR1, g0_0, g0_1, g0_2, g0_3, g0_4, g0_5, g0_6, g0_7, pg0_7, g0_8, pg0_8, o0, g34_0, g34_1, pg34_1, g34_2, pg34_2, o34, g102_0, g102_1, pg102_1, g102_2, pg102_2, g102_3, g102_4, g102_5, g102_6, pg102_6, o102, g122_0, g122_1, g122_2, g122_3, pg122_3, g122_4, g122_5, pg122_5, g122_6, pg122_6, g122_7, g122_8, g122_9, pg122_9, g122_10, g122_11, g122_12, g122_13, g122_14, g122_15, g122_16, g122_17, g122_18, pg122_18, g122_19, g122_20, pg122_20, g122_21, pg122_21, g122_22, pg122_22, g122_23, o122, a103, a104, a105, a106, a107, a123, a124, a125, a126, a127, a128, a129, a130, a131, a132, a133, a134, a135, a136, a137, a138, q35, zisT_1, zisT_12, zisT_23, zisT_36, zisT_47, zisT_58, zisT_69, zisT_80, zisT_91, zisP_108, zisP_115, zisR_8, zisR_10, zisR_19, zisR_21, zisR_30, zisR_32, zisR_43, zisR_45, zisR_54, zisR_56, zisR_65, zisR_67, zisR_76, zisR_78, zisR_87, zisR_89, zisR_98, zisR_100, id zisT_1, id zisT_12, id zisT_23, id zisP_108, id zisP_115, id (zisR_T7 zisT_1), id (zisR_T9 zisT_1), c1, e22]
theorem M_readCommand (h : zMX G T a b) {Cs : List zCm} (hd : zMD G Cs) (hl : Cs.length < 20) : ∃ G', zcal zTT jM_readCommand [.ref 122] (zhp G) = some (none, zhp G') ∧ zMX G' T (pCmd T a).2 (!(pCmd T a).1.isSome) ∧ (∀ m, (pCmd T a).1 = some m → zMD G' (Cs ++ [m])) ∧ zMK G G' := by
  have ch := M_here h
  obtain ⟨d1, d2⟩ := hd
  obtain ⟨g1, g2, g3, g4, g5, g6⟩ := h
  generalize hcl : Cs.length = c at *
  by_cases hL : pLet (pCur T a) = true
  · have hlt := pLet_lt hL
    obtain ⟨H, hH⟩ : ∃ H, H = zw (zw (zw G 122 21 0) 122 20 (nI (a + 1))) 138 (3 * c) (pCur T a) := ⟨_, rfl⟩
    have hX : zMX H T (a + 1) false := by
      rw [hH]
      exact zMX.c8 ⟨by rw [zw_ne _ (Or.inr (by omega)), zw_ne _ (Or.inr (by omega))]; exact g1, g2, fun i hi => by rw [zw_oth _ (by omega), zw_oth _ (by omega)]; exact g3 i hi, zw_eq _ _ _ _, hlt, by rw [zw_ne _ (Or.inr (by omega)), zw_eq]; rfl⟩ _ _
    have H22 : H 122 22 = nI c := by rw [hH, zw_oth _ (by omega), zw_ne _ (Or.inr (by omega)), zw_ne _ (Or.inr (by omega))]; exact d1
    obtain ⟨G4, v, e4, b4, c4, x4, l4, _, n4⟩ := M_numG hX
    obtain ⟨n41, n42, n43⟩ := n4 rfl
    have x5 := x4.c8 (3 * c + 1) v
    have e22 : zw G4 138 (3 * c + 1) v 122 22 = nI c := by rw [zw_oth _ (by omega), l4.2 22 (by omega) (by omega)]; exact H22
    have r20 : zw G 122 21 0 122 20 = nI a := by rw [zw_ne _ (Or.inr (by omega))]; exact g4
    have r21 : zw G 122 21 0 122 21 = 0 := zw_eq _ _ _ _
    have r22 : zw (zw G 122 21 0) 122 20 (nI (a + 1)) 122 22 = nI c := by rw [zw_ne _ (Or.inr (by omega)), zw_ne _ (Or.inr (by omega))]; exact d1
    have r22b : zw (zw (zw G 122 21 0) 122 20 (nI (a + 1))) 138 (3 * c) (pCur T a) 122 22 = nI c := by rw [← hH]; exact H22
    have row : ∀ K : Nat → Nat → Int32, (∀ k, k ≠ 3 * c + 2 → K 138 k = zw G4 138 (3 * c + 1) v 138 k) → (∀ i, i < c → K 138 (3 * i) = (Cs.getD i zC0).1 ∧ K 138 (3 * i + 1) = (Cs.getD i zC0).2.1 ∧ ((Cs.getD i zC0).1 = nI 119 → K 138 (3 * i + 2) = (Cs.getD i zC0).2.2)) ∧ K 138 (3 * c) = pCur T a ∧ K 138 (3 * c + 1) = v := by
      intro K hK
      have o : ∀ k, k ≠ 3 * c + 2 → k ≠ 3 * c + 1 → K 138 k = H 138 k := fun k k1 k2 => by rw [hK k k1, zw_ne _ (Or.inr k2), l4.1 138 (by omega)]
      have o2 : ∀ k, k ≠ 3 * c → H 138 k = G 138 k := fun k hk => by rw [hH, zw_ne _ (Or.inr hk), zw_oth _ (by omega), zw_oth _ (by omega)]
      refine ⟨fun i hi => ?_, ?_, ?_⟩
      · obtain ⟨q1, q2, q3⟩ := d2 i hi
        refine ⟨by rw [o _ (by omega) (by omega), o2 _ (by omega)]; exact q1, by rw [o _ (by omega) (by omega), o2 _ (by omega)]; exact q2, fun hq => by rw [o _ (by omega) (by omega), o2 _ (by omega)]; exact q3 hq⟩
      · rw [o _ (by omega) (by omega), hH, zw_eq]
      · rw [hK _ (by omega), zw_eq]
    have mkD : ∀ (K : Nat → Nat → Int32) (m : zCm), K 122 22 = nI (c + 1) → (∀ k, k ≠ 3 * c + 2 → K 138 k = zw G4 138 (3 * c + 1) v 138 k) → m.1 = pCur T a → m.2.1 = v → (m.1 = nI 119 → K 138 (3 * c + 2) = m.2.2) → zMD K (Cs ++ [m]) := by
      intro K m k1 k2 k3 k4 k5
      obtain ⟨r1, r2, r3⟩ := row K k2
      refine ⟨by rw [k1, List.length_append, hcl]; rfl, fun i hi => ?_⟩
      rw [List.length_append, hcl, List.length_singleton] at hi
      by_cases e : i < c
      · have eg : (Cs ++ [m]).getD i zC0 = Cs.getD i zC0 := by simp only [List.getD_eq_getElem?_getD, List.getElem?_append_left (show i < Cs.length by omega)]
        rw [eg]
        exact r1 i e
      · have e2 : i = c := by omega
        have eg : (Cs ++ [m]).getD i zC0 = m := by rw [e2, ← hcl]; simp
        rw [eg, e2]
        exact ⟨by rw [r2, k3], by rw [r3, k4], k5⟩
    have frH : zMK G H := by rw [hH]; exact ⟨fun x x1 x2 => by rw [zw_oth _ x2, zw_oth _ x1, zw_oth _ x1], fun k k1 k2 _ => by rw [zw_oth _ (by omega), zw_ne _ (Or.inr k1), zw_ne _ (Or.inr k2)]⟩
    have fr5 : zMK G (zw G4 138 (3 * c + 1) v) := (frH.tr l4.k).tr ⟨fun x _ x2 => zw_oth _ x2, fun k _ _ _ => by rw [zw_oth _ (by omega)]⟩
    by_cases h119 : pCur T a = nI 119
    · obtain ⟨G6, e6, b6, c6, x6, l6, k6, m6⟩ := M_takeG x5 (w := nI 61) (by decide)
      have r22c : G6 122 22 = nI c := by rw [l6.2 22 (by omega) (by omega)]; exact e22
      obtain ⟨G7, v7, e7, b7, c7, x7, l7, k7, m7⟩ := M_numG x6
      have x8 := x7.c8 (3 * c + 2) v7
      have e228 : zw G7 138 (3 * c + 2) v7 122 22 = nI c := by rw [zw_oth _ (by omega), l7.2 22 (by omega) (by omega)]; exact r22c
      obtain ⟨G9, e9, b9, w9, x9, k9, m9, q9, o9, f9⟩ := M_rcT x8 e228 (nI 119)
      have fr9 : zMK G G9 := (((fr5.tr l6.k).tr l7.k).tr (show zMK G7 (zw G7 138 (3 * c + 2) v7) from ⟨fun x _ x2 => zw_oth _ x2, fun k _ _ _ => by rw [zw_oth _ (by omega)]⟩)).tr ⟨fun x x1 _ => o9 x x1, f9⟩
      have walk : zcal zTT jM_readCommand [.ref 122] (zhp G) = some (none, zhp G9) := by
        refine zgo zMt_M_readCommand (show zEv zTT (zco mM_readCommand) kM_readCommand_0 [.ref 122, zU] [] _ _ from ?_)
        refine M_rc0 (pCur T a) _ _ ?_ ch
        rw [if_pos hL]
        rw [hH] at c4
        rw [h119] at c4 r22b ⊢
        have et : (nI 119 = nI 119) = True := eq_true rfl
        rw [kM_readCommand_47]
        simp only [kM_readCommand_0, kM_readCommand_46, kM_readCommand_66, kM_readCommand_67, zjM_readCommand_46, zjM_readCommand_47, zjM_readCommand_66, zjM_readCommand_67, zjM_readCommand_129, ev_iload, ev_aload, ev_istore, ev_astore, ev_iconst, ev_null, ev_iinc, ev_iadd, ev_isub, ev_imul, ev_iand, ev_ior, ev_ixor, ev_ishl, ev_ishr, ev_iushr, ev_idiv, ev_irem, ev_icmp, ev_if, ev_ifnull, ev_ifnullN, ev_goto, ev_dupi, ev_dupr, ev_dup2, ev_pop, ev_getf, ev_puti, ev_putr, ev_iald, ev_cald, ev_aald, ev_iast, ev_cast, ev_alen, ev_tsw, ev_lsw, ev_max, ev_min, ev_obj, ev_cp, ev_throw, ev_iret, ev_aret, ev_aretN, ev_ret, ev_new, ev_newa, ev_anew, ev_is0, ev_is1, ev_is2, ev_is3, ev_is4, ev_iv1, ev_iv2, ev_iv3, ev_iv4, ev_iv5, ev_ip1, ev_ip2, zlg_0, zls_0, zlg_1, zls_1, zlg_2, zls_2, zlg_3, zls_3, zlg_4, zls_4, zlg_5, zls_5, zlg_6, zls_6, zlg_7, zls_7, zlg_8, zls_8, zlg_9, zls_9, zlg_10, zls_10, zlg_11, zls_11, ev_jif, zLI_i, zLR_r, zOV_s, List.length_cons, List.length_nil, zcd, decide_eq_true_eq, true_and, and_true, Option.toList_some, Option.toList_none, List.cons_append, List.nil_append, zrf, if_true, if_false, true_or, or_true, false_or, or_false, and_self, zwr_w, zG_hp, Nat.reduceAdd, Nat.reduceLT, Nat.reduceLeDiff, Nat.zero_le, reduceIte, not_true_eq_false, not_false_eq_true, Prod.mk.injEq, Sum.inl.injEq, Option.some.injEq, Value.int.injEq, Value.ref.injEq, zsw, ev_jif, zB01, Bool.false_eq_true, one_ne, zero_eqone, nI_1, gT0_0, gT0_1, gT0_2, gT0_3, gT0_4, gT0_5, gT0_6, gT0_7, oT0, aT1, aT2, aT3, aT4, aT5, aT6, gT7_0, pgT7_0, gT7_1, gT7_2, pgT7_2, oT7, aT8, gT9_0, pgT9_0, gT9_1, gT9_2, pgT9_2, oT9, aT10, gP0_0, gP0_1, gP0_2, gP0_3, gP0_4, gP0_5, gP0_6, gP0_7, pgP0_7, gP0_8, pgP0_8, oP0, aP1, aP2, aP3, aP4, aP5, aP6, gR0_0, pgR0_0, gR0_1, gR0_2, pgR0_2, oR0, aR1, g0_0, g0_1, g0_2, g0_3, g0_4, g0_5, g0_6, g0_7, pg0_7, g0_8, pg0_8, o0, g34_0, g34_1, pg34_1, g34_2, pg34_2, o34, g102_0, g102_1, pg102_1, g102_2, pg102_2, g102_3, g102_4, g102_5, g102_6, pg102_6, o102, g122_0, g122_1, g122_2, g122_3, pg122_3, g122_4, g122_5, pg122_5, g122_6, pg122_6, g122_7, g122_8, g122_9, pg122_9, g122_10, g122_11, g122_12, g122_13, g122_14, g122_15, g122_16, g122_17, g122_18, pg122_18, g122_19, g122_20, pg122_20, g122_21, pg122_21, g122_22, pg122_22, g122_23, o122, a103, a104, a105, a106, a107, a123, a124, a125, a126, a127, a128, a129, a130, a131, a132, a133, a134, a135, a136, a137, a138, q35, zisT_1, zisT_12, zisT_23, zisT_36, zisT_47, zisT_58, zisT_69, zisT_80, zisT_91, zisP_108, zisP_115, zisR_8, zisR_10, zisR_19, zisR_21, zisR_30, zisR_32, zisR_43, zisR_45, zisR_54, zisR_56, zisR_65, zisR_67, zisR_76, zisR_78, zisR_87, zisR_89, zisR_98, zisR_100, id zisT_1, id zisT_12, id zisT_23, id zisP_108, id zisP_115, id (zisR_T7 zisT_1), id (zisR_T9 zisT_1), p21_0, r20, r21, r22, r22b, zmul, nI_add, zi_n (s := 3 * c) (n := 180) (by omega) (by omega), zcl_n (s := 3 * c) (by omega), zi_n (s := 3 * c + 1) (n := 180) (by omega) (by omega), zcl_n (s := 3 * c + 1) (by omega), zi_n (s := 3 * c + 2) (n := 180) (by omega) (by omega), zcl_n (s := 3 * c + 2) (by omega), c4, et, c6, r22c, c7]
        exact w9
      have a8 : ∀ k, k ≠ 3 * c + 2 → G9 138 k = zw G4 138 (3 * c + 1) v 138 k := fun k hk => by rw [o9 138 (by omega), zw_ne _ (Or.inr hk), l7.1 138 (by omega), l6.1 138 (by omega)]
      refine ⟨G9, walk, ?_, fun m hm => ?_, fr9⟩
      · unfold pCmd pWei
        rw [if_pos hL, if_pos h119]
        by_cases hn : (pNum T (a + 1)).1 = -1
        · rw [decide_eq_true hn] at n42
          obtain ⟨y1, y2⟩ := k6 n42
          obtain ⟨y3, y4⟩ := k7 y2
          obtain ⟨y5, y6⟩ := k9 y4
          rw [if_pos hn, ← n41, ← y1, ← y3, ← y5]
          rw [y6] at x9
          exact x9
        · rw [decide_eq_false hn] at n42
          obtain ⟨y1, y2⟩ := m6 n42
          rw [if_neg hn, ← n41]
          by_cases ha : (pAcc T (nI 61) e4).1 = true
          · rw [ha] at y2
            obtain ⟨y3, y4, y5⟩ := m7 y2
            rw [if_pos ha, ← y1]
            by_cases hw : (pNum T e6).1 = -1
            · rw [decide_eq_true hw] at y4
              obtain ⟨y6, y7⟩ := k9 y4
              rw [if_pos hw, ← y3, ← y6]
              rw [y7] at x9
              exact x9
            · rw [decide_eq_false hw] at y4
              obtain ⟨y6, y7⟩ := m9 y4
              rw [if_neg hw, ← y3]
              by_cases hs : (pAcc T (nI 59) e7).1 = true
              · rw [if_pos hs, ← y6]
                rw [y7, hs] at x9
                exact x9
              · rw [if_neg hs, ← y6]
                have hs : (pAcc T (nI 59) e7).1 = false := by simpa using hs
                rw [y7, hs] at x9
                exact x9
          · have ha2 : (pAcc T (nI 61) e4).1 = false := by simpa using ha
            rw [ha2] at y2
            obtain ⟨y3, y4⟩ := k7 y2
            obtain ⟨y5, y6⟩ := k9 y4
            rw [if_neg ha, if_pos rfl, ← y1, ← y3, ← y5]
            rw [y6] at x9
            exact x9
      · unfold pCmd pWei at hm
        rw [if_pos hL, if_pos h119] at hm
        by_cases hn : (pNum T (a + 1)).1 = -1
        · rw [if_pos hn] at hm; exact absurd hm (by simp)
        · rw [if_neg hn, ← n41] at hm
          rw [decide_eq_false hn] at n42
          obtain ⟨y1, y2⟩ := m6 n42
          by_cases ha : (pAcc T (nI 61) e4).1 = true
          · rw [if_pos ha, ← y1] at hm
            rw [ha] at y2
            obtain ⟨y3, y4, y5⟩ := m7 y2
            by_cases hw : (pNum T e6).1 = -1
            · rw [if_pos hw] at hm; exact absurd hm (by simp)
            · rw [if_neg hw, ← y3] at hm
              by_cases hs : (pAcc T (nI 59) e7).1 = true
              · rw [if_pos hs] at hm
                have hm := Option.some.inj hm
                refine mkD G9 m q9 a8 (by rw [← hm]) (by rw [← hm]; exact (n43 hn).symm) (fun _ => ?_)
                rw [o9 138 (by omega), zw_eq, ← hm]
                exact y5 hw
              · rw [if_neg hs] at hm; exact absurd hm (by simp)
          · rw [if_neg ha, if_pos rfl] at hm; exact absurd hm (by simp)
    · obtain ⟨G9, e9, b9, w9, x9, k9, m9, q9, o9, f9⟩ := M_rcT x5 e22 (pCur T a)
      have fr9 : zMK G G9 := fr5.tr ⟨fun x x1 _ => o9 x x1, f9⟩
      have walk : zcal zTT jM_readCommand [.ref 122] (zhp G) = some (none, zhp G9) := by
        refine zgo zMt_M_readCommand (show zEv zTT (zco mM_readCommand) kM_readCommand_0 [.ref 122, zU] [] _ _ from ?_)
        refine M_rc0 (pCur T a) _ _ ?_ ch
        rw [if_pos hL]
        rw [hH] at c4
        have et := eq_false h119
        generalize pCur T a = x at *
        rw [kM_readCommand_47]
        simp only [kM_readCommand_0, kM_readCommand_46, kM_readCommand_66, kM_readCommand_67, zjM_readCommand_46, zjM_readCommand_47, zjM_readCommand_66, zjM_readCommand_67, zjM_readCommand_129, ev_iload, ev_aload, ev_istore, ev_astore, ev_iconst, ev_null, ev_iinc, ev_iadd, ev_isub, ev_imul, ev_iand, ev_ior, ev_ixor, ev_ishl, ev_ishr, ev_iushr, ev_idiv, ev_irem, ev_icmp, ev_if, ev_ifnull, ev_ifnullN, ev_goto, ev_dupi, ev_dupr, ev_dup2, ev_pop, ev_getf, ev_puti, ev_putr, ev_iald, ev_cald, ev_aald, ev_iast, ev_cast, ev_alen, ev_tsw, ev_lsw, ev_max, ev_min, ev_obj, ev_cp, ev_throw, ev_iret, ev_aret, ev_aretN, ev_ret, ev_new, ev_newa, ev_anew, ev_is0, ev_is1, ev_is2, ev_is3, ev_is4, ev_iv1, ev_iv2, ev_iv3, ev_iv4, ev_iv5, ev_ip1, ev_ip2, zlg_0, zls_0, zlg_1, zls_1, zlg_2, zls_2, zlg_3, zls_3, zlg_4, zls_4, zlg_5, zls_5, zlg_6, zls_6, zlg_7, zls_7, zlg_8, zls_8, zlg_9, zls_9, zlg_10, zls_10, zlg_11, zls_11, ev_jif, zLI_i, zLR_r, zOV_s, List.length_cons, List.length_nil, zcd, decide_eq_true_eq, true_and, and_true, Option.toList_some, Option.toList_none, List.cons_append, List.nil_append, zrf, if_true, if_false, true_or, or_true, false_or, or_false, and_self, zwr_w, zG_hp, Nat.reduceAdd, Nat.reduceLT, Nat.reduceLeDiff, Nat.zero_le, reduceIte, not_true_eq_false, not_false_eq_true, Prod.mk.injEq, Sum.inl.injEq, Option.some.injEq, Value.int.injEq, Value.ref.injEq, zsw, ev_jif, zB01, Bool.false_eq_true, one_ne, zero_eqone, nI_1, gT0_0, gT0_1, gT0_2, gT0_3, gT0_4, gT0_5, gT0_6, gT0_7, oT0, aT1, aT2, aT3, aT4, aT5, aT6, gT7_0, pgT7_0, gT7_1, gT7_2, pgT7_2, oT7, aT8, gT9_0, pgT9_0, gT9_1, gT9_2, pgT9_2, oT9, aT10, gP0_0, gP0_1, gP0_2, gP0_3, gP0_4, gP0_5, gP0_6, gP0_7, pgP0_7, gP0_8, pgP0_8, oP0, aP1, aP2, aP3, aP4, aP5, aP6, gR0_0, pgR0_0, gR0_1, gR0_2, pgR0_2, oR0, aR1, g0_0, g0_1, g0_2, g0_3, g0_4, g0_5, g0_6, g0_7, pg0_7, g0_8, pg0_8, o0, g34_0, g34_1, pg34_1, g34_2, pg34_2, o34, g102_0, g102_1, pg102_1, g102_2, pg102_2, g102_3, g102_4, g102_5, g102_6, pg102_6, o102, g122_0, g122_1, g122_2, g122_3, pg122_3, g122_4, g122_5, pg122_5, g122_6, pg122_6, g122_7, g122_8, g122_9, pg122_9, g122_10, g122_11, g122_12, g122_13, g122_14, g122_15, g122_16, g122_17, g122_18, pg122_18, g122_19, g122_20, pg122_20, g122_21, pg122_21, g122_22, pg122_22, g122_23, o122, a103, a104, a105, a106, a107, a123, a124, a125, a126, a127, a128, a129, a130, a131, a132, a133, a134, a135, a136, a137, a138, q35, zisT_1, zisT_12, zisT_23, zisT_36, zisT_47, zisT_58, zisT_69, zisT_80, zisT_91, zisP_108, zisP_115, zisR_8, zisR_10, zisR_19, zisR_21, zisR_30, zisR_32, zisR_43, zisR_45, zisR_54, zisR_56, zisR_65, zisR_67, zisR_76, zisR_78, zisR_87, zisR_89, zisR_98, zisR_100, id zisT_1, id zisT_12, id zisT_23, id zisP_108, id zisP_115, id (zisR_T7 zisT_1), id (zisR_T9 zisT_1), p21_0, r20, r21, r22, r22b, zmul, nI_add, zi_n (s := 3 * c) (n := 180) (by omega) (by omega), zcl_n (s := 3 * c) (by omega), zi_n (s := 3 * c + 1) (n := 180) (by omega) (by omega), zcl_n (s := 3 * c + 1) (by omega), c4, et]
        exact w9
      have a8 : ∀ k, k ≠ 3 * c + 2 → G9 138 k = zw G4 138 (3 * c + 1) v 138 k := fun k hk => by rw [o9 138 (by omega)]
      have z01 : ¬ (0 : Int32) = -1 := by decide
      refine ⟨G9, walk, ?_, fun m hm => ?_, fr9⟩
      · unfold pCmd pWei
        rw [if_pos hL, if_neg h119]
        by_cases hn : (pNum T (a + 1)).1 = -1
        · rw [decide_eq_true hn] at n42
          obtain ⟨y1, y2⟩ := k9 n42
          rw [if_pos hn, ← n41, ← y1]
          rw [y2] at x9
          exact x9
        · rw [decide_eq_false hn] at n42
          obtain ⟨y1, y2⟩ := m9 n42
          rw [if_neg hn, ← n41]
          dsimp only
          rw [if_neg z01]
          by_cases hs : (pAcc T (nI 59) e4).1 = true
          · rw [if_pos hs, ← y1]
            rw [y2, hs] at x9
            exact x9
          · rw [if_neg hs, ← y1]
            have hs : (pAcc T (nI 59) e4).1 = false := by simpa using hs
            rw [y2, hs] at x9
            exact x9
      · unfold pCmd pWei at hm
        rw [if_pos hL, if_neg h119] at hm
        by_cases hn : (pNum T (a + 1)).1 = -1
        · rw [if_pos hn] at hm; exact absurd hm (by simp)
        · rw [if_neg hn, ← n41] at hm
          dsimp only at hm
          rw [if_neg z01] at hm
          by_cases hs : (pAcc T (nI 59) e4).1 = true
          · rw [if_pos hs] at hm
            have hm := Option.some.inj hm
            refine mkD G9 m q9 a8 (by rw [← hm]) (by rw [← hm]; exact (n43 hn).symm) (fun hh => ?_)
            rw [← hm] at hh
            exact absurd hh h119
          · rw [if_neg hs] at hm; exact absurd hm (by simp)
  · obtain ⟨H, hH⟩ : ∃ H, H = zw (zw (zw G 122 21 1) 122 20 (nI a)) 138 (3 * c) (pCur T a) := ⟨_, rfl⟩
    have hX : zMX H T a true := by
      rw [hH]
      exact zMX.c8 ⟨by rw [zw_ne _ (Or.inr (by omega)), zw_ne _ (Or.inr (by omega))]; exact g1, g2, fun i hi => by rw [zw_oth _ (by omega), zw_oth _ (by omega)]; exact g3 i hi, zw_eq _ _ _ _, g5, by rw [zw_ne _ (Or.inr (by omega)), zw_eq]; rfl⟩ _ _
    have H22 : H 122 22 = nI c := by rw [hH, zw_oth _ (by omega), zw_ne _ (Or.inr (by omega)), zw_ne _ (Or.inr (by omega))]; exact d1
    obtain ⟨G4, v, e4, b4, c4, x4, l4, n4, _⟩ := M_numG hX
    obtain ⟨n41, n42⟩ := n4 rfl
    have x5 := x4.c8 (3 * c + 1) v
    have e22 : zw G4 138 (3 * c + 1) v 122 22 = nI c := by rw [zw_oth _ (by omega), l4.2 22 (by omega) (by omega)]; exact H22
    have r20 : zw G 122 21 1 122 20 = nI a := by rw [zw_ne _ (Or.inr (by omega))]; exact g4
    have r21 : zw G 122 21 1 122 21 = 1 := zw_eq _ _ _ _
    have r22 : zw (zw G 122 21 1) 122 20 (nI a) 122 22 = nI c := by rw [zw_ne _ (Or.inr (by omega)), zw_ne _ (Or.inr (by omega))]; exact d1
    have r22b : zw (zw (zw G 122 21 1) 122 20 (nI a)) 138 (3 * c) (pCur T a) 122 22 = nI c := by rw [← hH]; exact H22
    have frH : zMK G H := by rw [hH]; exact ⟨fun x x1 x2 => by rw [zw_oth _ x2, zw_oth _ x1, zw_oth _ x1], fun k k1 k2 _ => by rw [zw_oth _ (by omega), zw_ne _ (Or.inr k1), zw_ne _ (Or.inr k2)]⟩
    have fr5 : zMK G (zw G4 138 (3 * c + 1) v) := (frH.tr l4.k).tr ⟨fun x _ x2 => zw_oth _ x2, fun k _ _ _ => by rw [zw_oth _ (by omega)]⟩
    have h119 : ¬ pCur T a = nI 119 := fun e => hL (by rw [e]; decide)
    obtain ⟨G9, e9, b9, w9, x9, k9, m9, q9, o9, f9⟩ := M_rcT x5 e22 (pCur T a)
    obtain ⟨y1, y2⟩ := k9 n42
    refine ⟨G9, ?_, ?_, fun m hm => ?_, fr5.tr ⟨fun x x1 _ => o9 x x1, f9⟩⟩
    · refine zgo zMt_M_readCommand (show zEv zTT (zco mM_readCommand) kM_readCommand_0 [.ref 122, zU] [] _ _ from ?_)
      refine M_rc0 (pCur T a) _ _ ?_ ch
      rw [if_neg hL]
      rw [hH] at c4
      have et := eq_false h119
      generalize pCur T a = x at *
      rw [kM_readCommand_47]
      simp only [kM_readCommand_0, kM_readCommand_46, kM_readCommand_66, kM_readCommand_67, zjM_readCommand_46, zjM_readCommand_47, zjM_readCommand_66, zjM_readCommand_67, zjM_readCommand_129, ev_iload, ev_aload, ev_istore, ev_astore, ev_iconst, ev_null, ev_iinc, ev_iadd, ev_isub, ev_imul, ev_iand, ev_ior, ev_ixor, ev_ishl, ev_ishr, ev_iushr, ev_idiv, ev_irem, ev_icmp, ev_if, ev_ifnull, ev_ifnullN, ev_goto, ev_dupi, ev_dupr, ev_dup2, ev_pop, ev_getf, ev_puti, ev_putr, ev_iald, ev_cald, ev_aald, ev_iast, ev_cast, ev_alen, ev_tsw, ev_lsw, ev_max, ev_min, ev_obj, ev_cp, ev_throw, ev_iret, ev_aret, ev_aretN, ev_ret, ev_new, ev_newa, ev_anew, ev_is0, ev_is1, ev_is2, ev_is3, ev_is4, ev_iv1, ev_iv2, ev_iv3, ev_iv4, ev_iv5, ev_ip1, ev_ip2, zlg_0, zls_0, zlg_1, zls_1, zlg_2, zls_2, zlg_3, zls_3, zlg_4, zls_4, zlg_5, zls_5, zlg_6, zls_6, zlg_7, zls_7, zlg_8, zls_8, zlg_9, zls_9, zlg_10, zls_10, zlg_11, zls_11, ev_jif, zLI_i, zLR_r, zOV_s, List.length_cons, List.length_nil, zcd, decide_eq_true_eq, true_and, and_true, Option.toList_some, Option.toList_none, List.cons_append, List.nil_append, zrf, if_true, if_false, true_or, or_true, false_or, or_false, and_self, zwr_w, zG_hp, Nat.reduceAdd, Nat.reduceLT, Nat.reduceLeDiff, Nat.zero_le, reduceIte, not_true_eq_false, not_false_eq_true, Prod.mk.injEq, Sum.inl.injEq, Option.some.injEq, Value.int.injEq, Value.ref.injEq, zsw, ev_jif, zB01, Bool.false_eq_true, one_ne, zero_eqone, nI_1, gT0_0, gT0_1, gT0_2, gT0_3, gT0_4, gT0_5, gT0_6, gT0_7, oT0, aT1, aT2, aT3, aT4, aT5, aT6, gT7_0, pgT7_0, gT7_1, gT7_2, pgT7_2, oT7, aT8, gT9_0, pgT9_0, gT9_1, gT9_2, pgT9_2, oT9, aT10, gP0_0, gP0_1, gP0_2, gP0_3, gP0_4, gP0_5, gP0_6, gP0_7, pgP0_7, gP0_8, pgP0_8, oP0, aP1, aP2, aP3, aP4, aP5, aP6, gR0_0, pgR0_0, gR0_1, gR0_2, pgR0_2, oR0, aR1, g0_0, g0_1, g0_2, g0_3, g0_4, g0_5, g0_6, g0_7, pg0_7, g0_8, pg0_8, o0, g34_0, g34_1, pg34_1, g34_2, pg34_2, o34, g102_0, g102_1, pg102_1, g102_2, pg102_2, g102_3, g102_4, g102_5, g102_6, pg102_6, o102, g122_0, g122_1, g122_2, g122_3, pg122_3, g122_4, g122_5, pg122_5, g122_6, pg122_6, g122_7, g122_8, g122_9, pg122_9, g122_10, g122_11, g122_12, g122_13, g122_14, g122_15, g122_16, g122_17, g122_18, pg122_18, g122_19, g122_20, pg122_20, g122_21, pg122_21, g122_22, pg122_22, g122_23, o122, a103, a104, a105, a106, a107, a123, a124, a125, a126, a127, a128, a129, a130, a131, a132, a133, a134, a135, a136, a137, a138, q35, zisT_1, zisT_12, zisT_23, zisT_36, zisT_47, zisT_58, zisT_69, zisT_80, zisT_91, zisP_108, zisP_115, zisR_8, zisR_10, zisR_19, zisR_21, zisR_30, zisR_32, zisR_43, zisR_45, zisR_54, zisR_56, zisR_65, zisR_67, zisR_76, zisR_78, zisR_87, zisR_89, zisR_98, zisR_100, id zisT_1, id zisT_12, id zisT_23, id zisP_108, id zisP_115, id (zisR_T7 zisT_1), id (zisR_T9 zisT_1), p21_1, r20, r21, r22, r22b, zadd0, zmul, nI_add, zi_n (s := 3 * c) (n := 180) (by omega) (by omega), zcl_n (s := 3 * c) (by omega), zi_n (s := 3 * c + 1) (n := 180) (by omega) (by omega), zcl_n (s := 3 * c + 1) (by omega), c4, et]
      exact w9
    · unfold pCmd
      rw [if_neg hL]
      rw [y2, y1, n41] at x9
      exact x9
    · unfold pCmd at hm
      rw [if_neg hL] at hm
      exact absurd hm (by simp)
end ZMPARSE2
