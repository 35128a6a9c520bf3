section ZMODEL8
variable {G G' : Nat → Nat → Int32} {S : zSt} {tg : Nat → Int32}
/-- a move as all moves are: a shard, a source, a destination, a progress short of the size -/
def zgm (m : zMv) : Prop := ∃ s a, s < 32 ∧ m.1 = nI s ∧ zow m.2.1 ∧ (∃ d, d < 8 ∧ m.2.2.1 = nI d) ∧ a < zsz s ∧ m.2.2.2 = nI a
theorem sTg_n {s : Nat} (h : s < 32) : sTg tg (nI s) = tg s := by rw [sTg, zrg_n (by omega) h, zcl_n (by omega)]; rfl
theorem M_isLost (hM : zMO G S) (ht : zAg 32 (G 133) tg) {i : Nat} (hi : i < (sM S).length) (hg : zgm ((sM S).getD i zM0)) : zcal zTT jM_isLost [.ref 122, .int (nI i)] (zhp G) = some (some (.int (if zMC tg S ((sM S).getD i zM0) = true then 1 else 0)), zhp G) := by
  have a0 := M_of0 hM hi
  have a1 := M_of1 hM hi
  have a2 := M_of2 hM hi
  generalize (sM S).getD i zM0 = m at *
  obtain ⟨s, a, hs, e1, hw, ⟨d, hd, e2⟩, ha, e3⟩ := hg
  have eT : G 133 s = tg s := ht s hs
  have eO := hM.2.2.2.2.1 s hs
  unfold zMC
  rw [e1] at a0 ⊢
  rw [e2] at a2 ⊢
  rw [sTg_n hs, sOwn_n hs]
  by_cases h1 : nI d = tg s
  · have h1' : (tg s = nI d) = True := eq_true h1.symm
    have h1'' : (nI d = tg s) = True := eq_true h1
    rcases hw with h2 | ⟨r, hr, h2⟩
    · rw [h2] at a1 ⊢
      have em : ((-1 : Int32) < 0) = True := by decide
      simp only [h1'', not_true_eq_false, decide_false, Bool.false_or, Bool.false_and, Bool.false_eq_true, if_false]
      refine zgo zMt_M_isLost (show zEv zTT (zco mM_isLost) kM_isLost_0 [.ref 122, .int (nI i), zU, zU] [] _ _ from ?_)
      simp only [kM_isLost_0, kM_isLost_55, kM_isLost_59, kM_isLost_60, zjM_isLost_55, zjM_isLost_59, zjM_isLost_60, ev_iload, ev_aload, ev_istore, ev_astore, ev_iconst, ev_null, ev_iinc, ev_iadd, ev_isub, ev_imul, ev_iand, ev_ior, ev_ixor, ev_ishl, ev_ishr, ev_iushr, ev_idiv, ev_irem, ev_icmp, ev_if, ev_ifnull, ev_ifnullN, ev_goto, ev_dupi, ev_dupr, ev_dup2, ev_pop, ev_getf, ev_puti, ev_putr, ev_iald, ev_cald, ev_aald, ev_iast, ev_cast, ev_alen, ev_tsw, ev_lsw, ev_max, ev_min, ev_obj, ev_cp, ev_throw, ev_iret, ev_aret, ev_aretN, ev_ret, ev_new, ev_newa, ev_anew, ev_is0, ev_is1, ev_is2, ev_is3, ev_is4, ev_iv1, ev_iv2, ev_iv3, ev_iv4, ev_iv5, ev_ip1, ev_ip2, zlg_0, zls_0, zlg_1, zls_1, zlg_2, zls_2, zlg_3, zls_3, zlg_4, zls_4, zlg_5, zls_5, zlg_6, zls_6, zlg_7, zls_7, zlg_8, zls_8, zlg_9, zls_9, zlg_10, zls_10, zlg_11, zls_11, ev_jif, zLI_i, zLR_r, zOV_s, List.length_cons, List.length_nil, zcd, decide_eq_true_eq, true_and, and_true, Option.toList_some, Option.toList_none, List.cons_append, List.nil_append, zrf, if_true, if_false, true_or, or_true, false_or, or_false, and_self, zwr_w, zG_hp, Nat.reduceAdd, Nat.reduceLT, Nat.reduceLeDiff, Nat.zero_le, reduceIte, not_true_eq_false, not_false_eq_true, Prod.mk.injEq, Sum.inl.injEq, Option.some.injEq, Value.int.injEq, Value.ref.injEq, zsw, ev_jif, zB01, Bool.false_eq_true, one_ne, zero_eqone, nI_1, gT0_0, gT0_1, gT0_2, gT0_3, gT0_4, gT0_5, gT0_6, gT0_7, oT0, aT1, aT2, aT3, aT4, aT5, aT6, gT7_0, pgT7_0, gT7_1, gT7_2, pgT7_2, oT7, aT8, gT9_0, pgT9_0, gT9_1, gT9_2, pgT9_2, oT9, aT10, gP0_0, gP0_1, gP0_2, gP0_3, gP0_4, gP0_5, gP0_6, gP0_7, pgP0_7, gP0_8, pgP0_8, oP0, aP1, aP2, aP3, aP4, aP5, aP6, gR0_0, pgR0_0, gR0_1, gR0_2, pgR0_2, oR0, aR1, g0_0, g0_1, g0_2, g0_3, g0_4, g0_5, g0_6, g0_7, pg0_7, g0_8, pg0_8, o0, g34_0, g34_1, pg34_1, g34_2, pg34_2, o34, g102_0, g102_1, pg102_1, g102_2, pg102_2, g102_3, g102_4, g102_5, g102_6, pg102_6, o102, g122_0, g122_1, g122_2, g122_3, pg122_3, g122_4, g122_5, pg122_5, g122_6, pg122_6, g122_7, g122_8, g122_9, pg122_9, g122_10, g122_11, g122_12, g122_13, g122_14, g122_15, g122_16, g122_17, g122_18, pg122_18, g122_19, g122_20, pg122_20, g122_21, pg122_21, g122_22, pg122_22, g122_23, o122, a103, a104, a105, a106, a107, a123, a124, a125, a126, a127, a128, a129, a130, a131, a132, a133, a134, a135, a136, a137, a138, q35, zisT_1, zisT_12, zisT_23, zisT_36, zisT_47, zisT_58, zisT_69, zisT_80, zisT_91, zisP_108, zisP_115, zisR_8, zisR_10, zisR_19, zisR_21, zisR_30, zisR_32, zisR_43, zisR_45, zisR_54, zisR_56, zisR_65, zisR_67, zisR_76, zisR_78, zisR_87, zisR_89, zisR_98, zisR_100, id zisT_1, id zisT_12, id zisT_23, id zisP_108, id zisP_115, id (zisR_T7 zisT_1), id (zisR_T9 zisT_1), a0, a1, a2, zi_n (s := s) (n := 32) (by omega) (by omega), zcl_n (s := s) (by omega), eT, h1'', em]
    · rw [h2] at a1 ⊢
      have hne : (nI r = -1) = False := zeq_m1 (by omega)
      rw [sSta_n hr]
      have c3 := M_is hr hM (nI 3)
      simp only [h1'', hne, not_true_eq_false, not_false_eq_true, decide_true, decide_false, Bool.false_or, Bool.true_and]
      by_cases h3 : nI r = sO S s
      · have h3' : (sO S s = nI r) = True := eq_true h3.symm
        have h3'' : (nI r = sO S s) = True := eq_true h3
        by_cases h4 : sN S r = nI 3
        · rw [if_pos h4] at c3
          have h4' := eq_true h4
          simp only [h4', decide_true, Bool.or_true, if_true]
          refine zgo zMt_M_isLost (show zEv zTT (zco mM_isLost) kM_isLost_0 [.ref 122, .int (nI i), zU, zU] [] _ _ from ?_)
          simp only [kM_isLost_0, kM_isLost_55, kM_isLost_59, kM_isLost_60, zjM_isLost_55, zjM_isLost_59, zjM_isLost_60, ev_iload, ev_aload, ev_istore, ev_astore, ev_iconst, ev_null, ev_iinc, ev_iadd, ev_isub, ev_imul, ev_iand, ev_ior, ev_ixor, ev_ishl, ev_ishr, ev_iushr, ev_idiv, ev_irem, ev_icmp, ev_if, ev_ifnull, ev_ifnullN, ev_goto, ev_dupi, ev_dupr, ev_dup2, ev_pop, ev_getf, ev_puti, ev_putr, ev_iald, ev_cald, ev_aald, ev_iast, ev_cast, ev_alen, ev_tsw, ev_lsw, ev_max, ev_min, ev_obj, ev_cp, ev_throw, ev_iret, ev_aret, ev_aretN, ev_ret, ev_new, ev_newa, ev_anew, ev_is0, ev_is1, ev_is2, ev_is3, ev_is4, ev_iv1, ev_iv2, ev_iv3, ev_iv4, ev_iv5, ev_ip1, ev_ip2, zlg_0, zls_0, zlg_1, zls_1, zlg_2, zls_2, zlg_3, zls_3, zlg_4, zls_4, zlg_5, zls_5, zlg_6, zls_6, zlg_7, zls_7, zlg_8, zls_8, zlg_9, zls_9, zlg_10, zls_10, zlg_11, zls_11, ev_jif, zLI_i, zLR_r, zOV_s, List.length_cons, List.length_nil, zcd, decide_eq_true_eq, true_and, and_true, Option.toList_some, Option.toList_none, List.cons_append, List.nil_append, zrf, if_true, if_false, true_or, or_true, false_or, or_false, and_self, zwr_w, zG_hp, Nat.reduceAdd, Nat.reduceLT, Nat.reduceLeDiff, Nat.zero_le, reduceIte, not_true_eq_false, not_false_eq_true, Prod.mk.injEq, Sum.inl.injEq, Option.some.injEq, Value.int.injEq, Value.ref.injEq, zsw, ev_jif, zB01, Bool.false_eq_true, one_ne, zero_eqone, nI_1, gT0_0, gT0_1, gT0_2, gT0_3, gT0_4, gT0_5, gT0_6, gT0_7, oT0, aT1, aT2, aT3, aT4, aT5, aT6, gT7_0, pgT7_0, gT7_1, gT7_2, pgT7_2, oT7, aT8, gT9_0, pgT9_0, gT9_1, gT9_2, pgT9_2, oT9, aT10, gP0_0, gP0_1, gP0_2, gP0_3, gP0_4, gP0_5, gP0_6, gP0_7, pgP0_7, gP0_8, pgP0_8, oP0, aP1, aP2, aP3, aP4, aP5, aP6, gR0_0, pgR0_0, gR0_1, gR0_2, pgR0_2, oR0, aR1, g0_0, g0_1, g0_2, g0_3, g0_4, g0_5, g0_6, g0_7, pg0_7, g0_8, pg0_8, o0, g34_0, g34_1, pg34_1, g34_2, pg34_2, o34, g102_0, g102_1, pg102_1, g102_2, pg102_2, g102_3, g102_4, g102_5, g102_6, pg102_6, o102, g122_0, g122_1, g122_2, g122_3, pg122_3, g122_4, g122_5, pg122_5, g122_6, pg122_6, g122_7, g122_8, g122_9, pg122_9, g122_10, g122_11, g122_12, g122_13, g122_14, g122_15, g122_16, g122_17, g122_18, pg122_18, g122_19, g122_20, pg122_20, g122_21, pg122_21, g122_22, pg122_22, g122_23, o122, a103, a104, a105, a106, a107, a123, a124, a125, a126, a127, a128, a129, a130, a131, a132, a133, a134, a135, a136, a137, a138, q35, zisT_1, zisT_12, zisT_23, zisT_36, zisT_47, zisT_58, zisT_69, zisT_80, zisT_91, zisP_108, zisP_115, zisR_8, zisR_10, zisR_19, zisR_21, zisR_30, zisR_32, zisR_43, zisR_45, zisR_54, zisR_56, zisR_65, zisR_67, zisR_76, zisR_78, zisR_87, zisR_89, zisR_98, zisR_100, id zisT_1, id zisT_12, id zisT_23, id zisP_108, id zisP_115, id (zisR_T7 zisT_1), id (zisR_T9 zisT_1), a0, a1, a2, zi_n (s := s) (n := 32) (by omega) (by omega), zcl_n (s := s) (by omega), eT, h1'', zlt_0 (s := r) (by omega), znn (s := r) (by omega), nI_add, zi_n (s := 28 + s) (n := 340) (by omega) (by omega), zcl_n (s := 28 + s) (by omega), a123, eO, h3', c3]
        · rw [if_neg h4] at c3
          have h4' := eq_false h4
          simp only [h4', h3'', decide_false, decide_true, not_true_eq_false, Bool.or_false, Bool.false_eq_true, if_false]
          refine zgo zMt_M_isLost (show zEv zTT (zco mM_isLost) kM_isLost_0 [.ref 122, .int (nI i), zU, zU] [] _ _ from ?_)
          simp only [kM_isLost_0, kM_isLost_55, kM_isLost_59, kM_isLost_60, zjM_isLost_55, zjM_isLost_59, zjM_isLost_60, ev_iload, ev_aload, ev_istore, ev_astore, ev_iconst, ev_null, ev_iinc, ev_iadd, ev_isub, ev_imul, ev_iand, ev_ior, ev_ixor, ev_ishl, ev_ishr, ev_iushr, ev_idiv, ev_irem, ev_icmp, ev_if, ev_ifnull, ev_ifnullN, ev_goto, ev_dupi, ev_dupr, ev_dup2, ev_pop, ev_getf, ev_puti, ev_putr, ev_iald, ev_cald, ev_aald, ev_iast, ev_cast, ev_alen, ev_tsw, ev_lsw, ev_max, ev_min, ev_obj, ev_cp, ev_throw, ev_iret, ev_aret, ev_aretN, ev_ret, ev_new, ev_newa, ev_anew, ev_is0, ev_is1, ev_is2, ev_is3, ev_is4, ev_iv1, ev_iv2, ev_iv3, ev_iv4, ev_iv5, ev_ip1, ev_ip2, zlg_0, zls_0, zlg_1, zls_1, zlg_2, zls_2, zlg_3, zls_3, zlg_4, zls_4, zlg_5, zls_5, zlg_6, zls_6, zlg_7, zls_7, zlg_8, zls_8, zlg_9, zls_9, zlg_10, zls_10, zlg_11, zls_11, ev_jif, zLI_i, zLR_r, zOV_s, List.length_cons, List.length_nil, zcd, decide_eq_true_eq, true_and, and_true, Option.toList_some, Option.toList_none, List.cons_append, List.nil_append, zrf, if_true, if_false, true_or, or_true, false_or, or_false, and_self, zwr_w, zG_hp, Nat.reduceAdd, Nat.reduceLT, Nat.reduceLeDiff, Nat.zero_le, reduceIte, not_true_eq_false, not_false_eq_true, Prod.mk.injEq, Sum.inl.injEq, Option.some.injEq, Value.int.injEq, Value.ref.injEq, zsw, ev_jif, zB01, Bool.false_eq_true, one_ne, zero_eqone, nI_1, gT0_0, gT0_1, gT0_2, gT0_3, gT0_4, gT0_5, gT0_6, gT0_7, oT0, aT1, aT2, aT3, aT4, aT5, aT6, gT7_0, pgT7_0, gT7_1, gT7_2, pgT7_2, oT7, aT8, gT9_0, pgT9_0, gT9_1, gT9_2, pgT9_2, oT9, aT10, gP0_0, gP0_1, gP0_2, gP0_3, gP0_4, gP0_5, gP0_6, gP0_7, pgP0_7, gP0_8, pgP0_8, oP0, aP1, aP2, aP3, aP4, aP5, aP6, gR0_0, pgR0_0, gR0_1, gR0_2, pgR0_2, oR0, aR1, g0_0, g0_1, g0_2, g0_3, g0_4, g0_5, g0_6, g0_7, pg0_7, g0_8, pg0_8, o0, g34_0, g34_1, pg34_1, g34_2, pg34_2, o34, g102_0, g102_1, pg102_1, g102_2, pg102_2, g102_3, g102_4, g102_5, g102_6, pg102_6, o102, g122_0, g122_1, g122_2, g122_3, pg122_3, g122_4, g122_5, pg122_5, g122_6, pg122_6, g122_7, g122_8, g122_9, pg122_9, g122_10, g122_11, g122_12, g122_13, g122_14, g122_15, g122_16, g122_17, g122_18, pg122_18, g122_19, g122_20, pg122_20, g122_21, pg122_21, g122_22, pg122_22, g122_23, o122, a103, a104, a105, a106, a107, a123, a124, a125, a126, a127, a128, a129, a130, a131, a132, a133, a134, a135, a136, a137, a138, q35, zisT_1, zisT_12, zisT_23, zisT_36, zisT_47, zisT_58, zisT_69, zisT_80, zisT_91, zisP_108, zisP_115, zisR_8, zisR_10, zisR_19, zisR_21, zisR_30, zisR_32, zisR_43, zisR_45, zisR_54, zisR_56, zisR_65, zisR_67, zisR_76, zisR_78, zisR_87, zisR_89, zisR_98, zisR_100, id zisT_1, id zisT_12, id zisT_23, id zisP_108, id zisP_115, id (zisR_T7 zisT_1), id (zisR_T9 zisT_1), a0, a1, a2, zi_n (s := s) (n := 32) (by omega) (by omega), zcl_n (s := s) (by omega), eT, h1'', zlt_0 (s := r) (by omega), znn (s := r) (by omega), nI_add, zi_n (s := 28 + s) (n := 340) (by omega) (by omega), zcl_n (s := 28 + s) (by omega), a123, eO, h3', c3]
      · have h3' : (sO S s = nI r) = False := eq_false (fun h => h3 h.symm)
        have h3'' : (nI r = sO S s) = False := eq_false h3
        simp only [h3'', not_false_eq_true, decide_true, Bool.true_or, if_true]
        refine zgo zMt_M_isLost (show zEv zTT (zco mM_isLost) kM_isLost_0 [.ref 122, .int (nI i), zU, zU] [] _ _ from ?_)
        simp only [kM_isLost_0, kM_isLost_55, kM_isLost_59, kM_isLost_60, zjM_isLost_55, zjM_isLost_59, zjM_isLost_60, ev_iload, ev_aload, ev_istore, ev_astore, ev_iconst, ev_null, ev_iinc, ev_iadd, ev_isub, ev_imul, ev_iand, ev_ior, ev_ixor, ev_ishl, ev_ishr, ev_iushr, ev_idiv, ev_irem, ev_icmp, ev_if, ev_ifnull, ev_ifnullN, ev_goto, ev_dupi, ev_dupr, ev_dup2, ev_pop, ev_getf, ev_puti, ev_putr, ev_iald, ev_cald, ev_aald, ev_iast, ev_cast, ev_alen, ev_tsw, ev_lsw, ev_max, ev_min, ev_obj, ev_cp, ev_throw, ev_iret, ev_aret, ev_aretN, ev_ret, ev_new, ev_newa, ev_anew, ev_is0, ev_is1, ev_is2, ev_is3, ev_is4, ev_iv1, ev_iv2, ev_iv3, ev_iv4, ev_iv5, ev_ip1, ev_ip2, zlg_0, zls_0, zlg_1, zls_1, zlg_2, zls_2, zlg_3, zls_3, zlg_4, zls_4, zlg_5, zls_5, zlg_6, zls_6, zlg_7, zls_7, zlg_8, zls_8, zlg_9, zls_9, zlg_10, zls_10, zlg_11, zls_11, ev_jif, zLI_i, zLR_r, zOV_s, List.length_cons, List.length_nil, zcd, decide_eq_true_eq, true_and, and_true, Option.toList_some, Option.toList_none, List.cons_append, List.nil_append, zrf, if_true, if_false, true_or, or_true, false_or, or_false, and_self, zwr_w, zG_hp, Nat.reduceAdd, Nat.reduceLT, Nat.reduceLeDiff, Nat.zero_le, reduceIte, not_true_eq_false, not_false_eq_true, Prod.mk.injEq, Sum.inl.injEq, Option.some.injEq, Value.int.injEq, Value.ref.injEq, zsw, ev_jif, zB01, Bool.false_eq_true, one_ne, zero_eqone, nI_1, gT0_0, gT0_1, gT0_2, gT0_3, gT0_4, gT0_5, gT0_6, gT0_7, oT0, aT1, aT2, aT3, aT4, aT5, aT6, gT7_0, pgT7_0, gT7_1, gT7_2, pgT7_2, oT7, aT8, gT9_0, pgT9_0, gT9_1, gT9_2, pgT9_2, oT9, aT10, gP0_0, gP0_1, gP0_2, gP0_3, gP0_4, gP0_5, gP0_6, gP0_7, pgP0_7, gP0_8, pgP0_8, oP0, aP1, aP2, aP3, aP4, aP5, aP6, gR0_0, pgR0_0, gR0_1, gR0_2, pgR0_2, oR0, aR1, g0_0, g0_1, g0_2, g0_3, g0_4, g0_5, g0_6, g0_7, pg0_7, g0_8, pg0_8, o0, g34_0, g34_1, pg34_1, g34_2, pg34_2, o34, g102_0, g102_1, pg102_1, g102_2, pg102_2, g102_3, g102_4, g102_5, g102_6, pg102_6, o102, g122_0, g122_1, g122_2, g122_3, pg122_3, g122_4, g122_5, pg122_5, g122_6, pg122_6, g122_7, g122_8, g122_9, pg122_9, g122_10, g122_11, g122_12, g122_13, g122_14, g122_15, g122_16, g122_17, g122_18, pg122_18, g122_19, g122_20, pg122_20, g122_21, pg122_21, g122_22, pg122_22, g122_23, o122, a103, a104, a105, a106, a107, a123, a124, a125, a126, a127, a128, a129, a130, a131, a132, a133, a134, a135, a136, a137, a138, q35, zisT_1, zisT_12, zisT_23, zisT_36, zisT_47, zisT_58, zisT_69, zisT_80, zisT_91, zisP_108, zisP_115, zisR_8, zisR_10, zisR_19, zisR_21, zisR_30, zisR_32, zisR_43, zisR_45, zisR_54, zisR_56, zisR_65, zisR_67, zisR_76, zisR_78, zisR_87, zisR_89, zisR_98, zisR_100, id zisT_1, id zisT_12, id zisT_23, id zisP_108, id zisP_115, id (zisR_T7 zisT_1), id (zisR_T9 zisT_1), a0, a1, a2, zi_n (s := s) (n := 32) (by omega) (by omega), zcl_n (s := s) (by omega), eT, h1'', zlt_0 (s := r) (by omega), znn (s := r) (by omega), nI_add, zi_n (s := 28 + s) (n := 340) (by omega) (by omega), zcl_n (s := 28 + s) (by omega), a123, eO, h3']
  · have h1'' : (nI d = tg s) = False := eq_false h1
    simp only [h1'', not_false_eq_true, decide_true, Bool.true_or, if_true]
    refine zgo zMt_M_isLost (show zEv zTT (zco mM_isLost) kM_isLost_0 [.ref 122, .int (nI i), zU, zU] [] _ _ from ?_)
    simp only [kM_isLost_0, kM_isLost_55, kM_isLost_59, kM_isLost_60, zjM_isLost_55, zjM_isLost_59, zjM_isLost_60, ev_iload, ev_aload, ev_istore, ev_astore, ev_iconst, ev_null, ev_iinc, ev_iadd, ev_isub, ev_imul, ev_iand, ev_ior, ev_ixor, ev_ishl, ev_ishr, ev_iushr, ev_idiv, ev_irem, ev_icmp, ev_if, ev_ifnull, ev_ifnullN, ev_goto, ev_dupi, ev_dupr, ev_dup2, ev_pop, ev_getf, ev_puti, ev_putr, ev_iald, ev_cald, ev_aald, ev_iast, ev_cast, ev_alen, ev_tsw, ev_lsw, ev_max, ev_min, ev_obj, ev_cp, ev_throw, ev_iret, ev_aret, ev_aretN, ev_ret, ev_new, ev_newa, ev_anew, ev_is0, ev_is1, ev_is2, ev_is3, ev_is4, ev_iv1, ev_iv2, ev_iv3, ev_iv4, ev_iv5, ev_ip1, ev_ip2, zlg_0, zls_0, zlg_1, zls_1, zlg_2, zls_2, zlg_3, zls_3, zlg_4, zls_4, zlg_5, zls_5, zlg_6, zls_6, zlg_7, zls_7, zlg_8, zls_8, zlg_9, zls_9, zlg_10, zls_10, zlg_11, zls_11, ev_jif, zLI_i, zLR_r, zOV_s, List.length_cons, List.length_nil, zcd, decide_eq_true_eq, true_and, and_true, Option.toList_some, Option.toList_none, List.cons_append, List.nil_append, zrf, if_true, if_false, true_or, or_true, false_or, or_false, and_self, zwr_w, zG_hp, Nat.reduceAdd, Nat.reduceLT, Nat.reduceLeDiff, Nat.zero_le, reduceIte, not_true_eq_false, not_false_eq_true, Prod.mk.injEq, Sum.inl.injEq, Option.some.injEq, Value.int.injEq, Value.ref.injEq, zsw, ev_jif, zB01, Bool.false_eq_true, one_ne, zero_eqone, nI_1, gT0_0, gT0_1, gT0_2, gT0_3, gT0_4, gT0_5, gT0_6, gT0_7, oT0, aT1, aT2, aT3, aT4, aT5, aT6, gT7_0, pgT7_0, gT7_1, gT7_2, pgT7_2, oT7, aT8, gT9_0, pgT9_0, gT9_1, gT9_2, pgT9_2, oT9, aT10, gP0_0, gP0_1, gP0_2, gP0_3, gP0_4, gP0_5, gP0_6, gP0_7, pgP0_7, gP0_8, pgP0_8, oP0, aP1, aP2, aP3, aP4, aP5, aP6, gR0_0, pgR0_0, gR0_1, gR0_2, pgR0_2, oR0, aR1, g0_0, g0_1, g0_2, g0_3, g0_4, g0_5, g0_6, g0_7, pg0_7, g0_8, pg0_8, o0, g34_0, g34_1, pg34_1, g34_2, pg34_2, o34, g102_0, g102_1, pg102_1, g102_2, pg102_2, g102_3, g102_4, g102_5, g102_6, pg102_6, o102, g122_0, g122_1, g122_2, g122_3, pg122_3, g122_4, g122_5, pg122_5, g122_6, pg122_6, g122_7, g122_8, g122_9, pg122_9, g122_10, g122_11, g122_12, g122_13, g122_14, g122_15, g122_16, g122_17, g122_18, pg122_18, g122_19, g122_20, pg122_20, g122_21, pg122_21, g122_22, pg122_22, g122_23, o122, a103, a104, a105, a106, a107, a123, a124, a125, a126, a127, a128, a129, a130, a131, a132, a133, a134, a135, a136, a137, a138, q35, zisT_1, zisT_12, zisT_23, zisT_36, zisT_47, zisT_58, zisT_69, zisT_80, zisT_91, zisP_108, zisP_115, zisR_8, zisR_10, zisR_19, zisR_21, zisR_30, zisR_32, zisR_43, zisR_45, zisR_54, zisR_56, zisR_65, zisR_67, zisR_76, zisR_78, zisR_87, zisR_89, zisR_98, zisR_100, id zisT_1, id zisT_12, id zisT_23, id zisP_108, id zisP_115, id (zisR_T7 zisT_1), id (zisR_T9 zisT_1), a0, a1, a2, zi_n (s := s) (n := 32) (by omega) (by omega), zcl_n (s := s) (by omega), eT, h1'']
/-- the reference's sizes -/
def zSI (G : Nat → Nat → Int32) : Prop := ∀ s, s < 32 → G 127 s = zSz (nI s)
theorem zMO.stp (hM : zMO G S) {i : Nat} (hi : i < (sM S).length) {m : zMv} (hm : (sM S).getD i zM0 = m) : zMO (zw G 123 (92 + 4 * i + 3) (m.2.2.2 + 1)) (zStp S i m) := by
  obtain ⟨h10, h8, hmv⟩ := hM.2.2.2.2.2.2.1
  unfold zStp
  refine hM.vM (fun k h1 h2 => zw_ne _ (Or.inr (by omega))) ⟨by rw [zw_ne _ (Or.inr (by omega)), List.length_set]; exact h10, by rw [List.length_set]; exact h8, fun j k hj hk => ?_⟩
  rw [List.length_set] at hj
  have e : ((sM S).set i (m.1, m.2.1, m.2.2.1, m.2.2.2 + 1)).getD j zM0 = if j = i then (m.1, m.2.1, m.2.2.1, m.2.2.2 + 1) else (sM S).getD j zM0 := by
    simp only [List.getD_eq_getElem?_getD, List.getElem?_set]
    by_cases e : i = j
    · subst e; simp [hi]
    · rw [if_neg e, if_neg (Ne.symm e)]
  rw [e]
  by_cases e2 : j = i
  · subst e2
    rw [if_pos rfl]
    by_cases e3 : k = 3
    · subst e3; rw [zw_eq]; rfl
    · rw [zw_ne _ (Or.inr (by omega)), hmv j k hj hk, hm]
      rcases (show k = 0 ∨ k = 1 ∨ k = 2 by omega) with rfl | rfl | rfl <;> rfl
  · rw [if_neg e2, zw_ne _ (Or.inr (by omega))]
    exact hmv j k hj hk
theorem M_goOn (hM : zMO G S) (ht : zAg 32 (G 133) tg) (hz : zSI G) (hg : ∀ m, m ∈ sM S → zgm m) : ∃ G', zcal zTT jM_goOn [.ref 122] (zhp G) = some (none, zhp G') ∧ zMO G' (zAd tg (sM S) 0 S) ∧ ∀ a, a ≠ 123 → G' a = G a := by
  have e10 : (nI 10).toNatClampNeg = 10 := by decide
  have z10 : zi (nI 10) 340 = true := by decide
  have e3 : (nI 3).toNatClampNeg = 3 := by decide
  have z3 : zi (nI 3) 340 = true := by decide
  have e2 : (nI 2).toNatClampNeg = 2 := by decide
  have z2 : zi (nI 2) 340 = true := by decide
  have e6 : (nI 6).toNatClampNeg = 6 := by decide
  have z6 : zi (nI 6) 340 = true := by decide
  have e5 : (nI 5).toNatClampNeg = 5 := by decide
  have z5 : zi (nI 5) 340 = true := by decide
  have e7 : (nI 7).toNatClampNeg = 7 := by decide
  have z7 : zi (nI 7) 340 = true := by decide
  have key : ∀ (ms kept : List zMv) (U : zSt) (G1 : Nat → Nat → Int32) v2 v3, sM U = kept ++ ms → (∀ m, m ∈ ms → zgm m) → zMO G1 U → (∀ a, a ≠ 123 → G1 a = G a) →
      ∃ G', zEv zTT (zco mM_goOn) kM_goOn_2 [.ref 122, .int (nI kept.length), v2, v3] [] (zhp G1) (.inl none, zhp G') ∧ zMO G' (zAd tg ms kept.length U) ∧ ∀ a, a ≠ 123 → G' a = G a := by
    intro ms
    induction ms with
    | nil =>
      intro kept U G1 v2 v3 hU _ hS hF
      have h10 := hS.2.2.2.2.2.2.1.1
      have h8 := hS.2.2.2.2.2.2.1.2.1
      rw [hU, List.append_nil] at h10 h8
      refine ⟨G1, ?_, hS, hF⟩
      rw [kM_goOn_2]
      simp only [kM_goOn_0, kM_goOn_61, kM_goOn_166, kM_goOn_169, kM_goOn_172, zjM_goOn_2, zjM_goOn_61, zjM_goOn_166, zjM_goOn_169, zjM_goOn_172, ev_iload, ev_aload, ev_istore, ev_astore, ev_iconst, ev_null, ev_iinc, ev_iadd, ev_isub, ev_imul, ev_iand, ev_ior, ev_ixor, ev_ishl, ev_ishr, ev_iushr, ev_idiv, ev_irem, ev_icmp, ev_if, ev_ifnull, ev_ifnullN, ev_goto, ev_dupi, ev_dupr, ev_dup2, ev_pop, ev_getf, ev_puti, ev_putr, ev_iald, ev_cald, ev_aald, ev_iast, ev_cast, ev_alen, ev_tsw, ev_lsw, ev_max, ev_min, ev_obj, ev_cp, ev_throw, ev_iret, ev_aret, ev_aretN, ev_ret, ev_new, ev_newa, ev_anew, ev_is0, ev_is1, ev_is2, ev_is3, ev_is4, ev_iv1, ev_iv2, ev_iv3, ev_iv4, ev_iv5, ev_ip1, ev_ip2, zlg_0, zls_0, zlg_1, zls_1, zlg_2, zls_2, zlg_3, zls_3, zlg_4, zls_4, zlg_5, zls_5, zlg_6, zls_6, zlg_7, zls_7, zlg_8, zls_8, zlg_9, zls_9, zlg_10, zls_10, zlg_11, zls_11, ev_jif, zLI_i, zLR_r, zOV_s, List.length_cons, List.length_nil, zcd, decide_eq_true_eq, true_and, and_true, Option.toList_some, Option.toList_none, List.cons_append, List.nil_append, zrf, if_true, if_false, true_or, or_true, false_or, or_false, and_self, zwr_w, zG_hp, Nat.reduceAdd, Nat.reduceLT, Nat.reduceLeDiff, Nat.zero_le, reduceIte, not_true_eq_false, not_false_eq_true, Prod.mk.injEq, Sum.inl.injEq, Option.some.injEq, Value.int.injEq, Value.ref.injEq, zsw, ev_jif, zB01, Bool.false_eq_true, one_ne, zero_eqone, nI_1, gT0_0, gT0_1, gT0_2, gT0_3, gT0_4, gT0_5, gT0_6, gT0_7, oT0, aT1, aT2, aT3, aT4, aT5, aT6, gT7_0, pgT7_0, gT7_1, gT7_2, pgT7_2, oT7, aT8, gT9_0, pgT9_0, gT9_1, gT9_2, pgT9_2, oT9, aT10, gP0_0, gP0_1, gP0_2, gP0_3, gP0_4, gP0_5, gP0_6, gP0_7, pgP0_7, gP0_8, pgP0_8, oP0, aP1, aP2, aP3, aP4, aP5, aP6, gR0_0, pgR0_0, gR0_1, gR0_2, pgR0_2, oR0, aR1, g0_0, g0_1, g0_2, g0_3, g0_4, g0_5, g0_6, g0_7, pg0_7, g0_8, pg0_8, o0, g34_0, g34_1, pg34_1, g34_2, pg34_2, o34, g102_0, g102_1, pg102_1, g102_2, pg102_2, g102_3, g102_4, g102_5, g102_6, pg102_6, o102, g122_0, g122_1, g122_2, g122_3, pg122_3, g122_4, g122_5, pg122_5, g122_6, pg122_6, g122_7, g122_8, g122_9, pg122_9, g122_10, g122_11, g122_12, g122_13, g122_14, g122_15, g122_16, g122_17, g122_18, pg122_18, g122_19, g122_20, pg122_20, g122_21, pg122_21, g122_22, pg122_22, g122_23, o122, a103, a104, a105, a106, a107, a123, a124, a125, a126, a127, a128, a129, a130, a131, a132, a133, a134, a135, a136, a137, a138, q35, zisT_1, zisT_12, zisT_23, zisT_36, zisT_47, zisT_58, zisT_69, zisT_80, zisT_91, zisP_108, zisP_115, zisR_8, zisR_10, zisR_19, zisR_21, zisR_30, zisR_32, zisR_43, zisR_45, zisR_54, zisR_56, zisR_65, zisR_67, zisR_76, zisR_78, zisR_87, zisR_89, zisR_98, zisR_100, id zisT_1, id zisT_12, id zisT_23, id zisP_108, id zisP_115, id (zisR_T7 zisT_1), id (zisR_T9 zisT_1), a123, e10, z10, h10, zle_t (s := kept.length) (n := kept.length) (by omega) (by omega), zlt_f (s := kept.length) (n := kept.length) (by omega) (by omega)]
    | cons m ms ih =>
      intro kept U G1 v2 v3 hU hms hS hF
      have h10 := hS.2.2.2.2.2.2.1.1
      have h8 := hS.2.2.2.2.2.2.1.2.1
      have hlt : kept.length < (sM U).length := by rw [hU, List.length_append, List.length_cons]; omega
      have hm : (sM U).getD kept.length zM0 = m := by rw [hU, List.getD_eq_getElem?_getD, List.getElem?_append_right (Nat.le_refl _), Nat.sub_self]; rfl
      have htU : zAg 32 (G1 133) tg := by rw [hF 133 (by omega)]; exact ht
      have hgm := hms m List.mem_cons_self
      have hms' : ∀ m', m' ∈ ms → zgm m' := fun m' h' => hms m' (List.mem_cons_of_mem _ h')
      have hmc := M_isLost hS htU hlt (by rw [hm]; exact hgm)
      have a0 := M_of0 hS hlt
      have a2 := M_of2 hS hlt
      have a3 := M_of3 hS hlt
      rw [hm] at hmc a0 a2 a3
      have hera : (sM U).eraseIdx kept.length = kept ++ ms := by rw [hU, List.eraseIdx_append_of_length_le (Nat.le_refl _), Nat.sub_self]; rfl
      have hset : (sM U).set kept.length (m.1, m.2.1, m.2.2.1, m.2.2.2 + 1) = (kept ++ [(m.1, m.2.1, m.2.2.1, m.2.2.2 + 1)]) ++ ms := by rw [hU]; simp
      have hl2 : (kept ++ [(m.1, m.2.1, m.2.2.1, m.2.2.2 + 1)]).length = kept.length + 1 := by simp
      have T6 : G1 123 6 = sT U 3 := hS.2.1 3 (by omega)
      rw [zAd]
      generalize hL : (sM U).length = L at *
      by_cases h1 : zMC tg U m = true
      · rw [if_pos h1] at hmc ⊢
        have s1 := hS.vT (n := 3) (by omega) (sT U 3 + 1)
        obtain ⟨G2, c2, s2, f2⟩ := M_tells s1 (nI 2) m.1 m.2.2.1
        obtain ⟨G3, c3, s3, f3⟩ := M_endMove s2 (i := kept.length) (by show kept.length < (sM U).length; omega)
        have s3' : zMO G3 (zCanc U kept.length m) := s3
        obtain ⟨G', g1, g2, g3⟩ := ih kept (zCanc U kept.length m) G3 (.int m.1) (.int m.2.2.1) hera hms' s3' (fun a ha => by rw [f3 a ha, f2 a ha, zw_oth _ ha]; exact hF a ha)
        refine ⟨G', ?_, g2, g3⟩
        have e33 : 3 + 3 = 6 := rfl
        rw [e33] at c2
        rw [kM_goOn_2]
        simp only [kM_goOn_0, kM_goOn_61, kM_goOn_166, kM_goOn_169, kM_goOn_172, zjM_goOn_2, zjM_goOn_61, zjM_goOn_166, zjM_goOn_169, zjM_goOn_172, ev_iload, ev_aload, ev_istore, ev_astore, ev_iconst, ev_null, ev_iinc, ev_iadd, ev_isub, ev_imul, ev_iand, ev_ior, ev_ixor, ev_ishl, ev_ishr, ev_iushr, ev_idiv, ev_irem, ev_icmp, ev_if, ev_ifnull, ev_ifnullN, ev_goto, ev_dupi, ev_dupr, ev_dup2, ev_pop, ev_getf, ev_puti, ev_putr, ev_iald, ev_cald, ev_aald, ev_iast, ev_cast, ev_alen, ev_tsw, ev_lsw, ev_max, ev_min, ev_obj, ev_cp, ev_throw, ev_iret, ev_aret, ev_aretN, ev_ret, ev_new, ev_newa, ev_anew, ev_is0, ev_is1, ev_is2, ev_is3, ev_is4, ev_iv1, ev_iv2, ev_iv3, ev_iv4, ev_iv5, ev_ip1, ev_ip2, zlg_0, zls_0, zlg_1, zls_1, zlg_2, zls_2, zlg_3, zls_3, zlg_4, zls_4, zlg_5, zls_5, zlg_6, zls_6, zlg_7, zls_7, zlg_8, zls_8, zlg_9, zls_9, zlg_10, zls_10, zlg_11, zls_11, ev_jif, zLI_i, zLR_r, zOV_s, List.length_cons, List.length_nil, zcd, decide_eq_true_eq, true_and, and_true, Option.toList_some, Option.toList_none, List.cons_append, List.nil_append, zrf, if_true, if_false, true_or, or_true, false_or, or_false, and_self, zwr_w, zG_hp, Nat.reduceAdd, Nat.reduceLT, Nat.reduceLeDiff, Nat.zero_le, reduceIte, not_true_eq_false, not_false_eq_true, Prod.mk.injEq, Sum.inl.injEq, Option.some.injEq, Value.int.injEq, Value.ref.injEq, zsw, ev_jif, zB01, Bool.false_eq_true, one_ne, zero_eqone, nI_1, gT0_0, gT0_1, gT0_2, gT0_3, gT0_4, gT0_5, gT0_6, gT0_7, oT0, aT1, aT2, aT3, aT4, aT5, aT6, gT7_0, pgT7_0, gT7_1, gT7_2, pgT7_2, oT7, aT8, gT9_0, pgT9_0, gT9_1, gT9_2, pgT9_2, oT9, aT10, gP0_0, gP0_1, gP0_2, gP0_3, gP0_4, gP0_5, gP0_6, gP0_7, pgP0_7, gP0_8, pgP0_8, oP0, aP1, aP2, aP3, aP4, aP5, aP6, gR0_0, pgR0_0, gR0_1, gR0_2, pgR0_2, oR0, aR1, g0_0, g0_1, g0_2, g0_3, g0_4, g0_5, g0_6, g0_7, pg0_7, g0_8, pg0_8, o0, g34_0, g34_1, pg34_1, g34_2, pg34_2, o34, g102_0, g102_1, pg102_1, g102_2, pg102_2, g102_3, g102_4, g102_5, g102_6, pg102_6, o102, g122_0, g122_1, g122_2, g122_3, pg122_3, g122_4, g122_5, pg122_5, g122_6, pg122_6, g122_7, g122_8, g122_9, pg122_9, g122_10, g122_11, g122_12, g122_13, g122_14, g122_15, g122_16, g122_17, g122_18, pg122_18, g122_19, g122_20, pg122_20, g122_21, pg122_21, g122_22, pg122_22, g122_23, o122, a103, a104, a105, a106, a107, a123, a124, a125, a126, a127, a128, a129, a130, a131, a132, a133, a134, a135, a136, a137, a138, q35, zisT_1, zisT_12, zisT_23, zisT_36, zisT_47, zisT_58, zisT_69, zisT_80, zisT_91, zisP_108, zisP_115, zisR_8, zisR_10, zisR_19, zisR_21, zisR_30, zisR_32, zisR_43, zisR_45, zisR_54, zisR_56, zisR_65, zisR_67, zisR_76, zisR_78, zisR_87, zisR_89, zisR_98, zisR_100, id zisT_1, id zisT_12, id zisT_23, id zisP_108, id zisP_115, id (zisR_T7 zisT_1), id (zisR_T9 zisT_1), a123, e10, z10, h10, zle_f (s := kept.length) (n := L) (by omega) (by omega), zlt_t (s := kept.length) (n := L) (by omega) (by omega), a0, a2, hmc, e6, z6, T6, c2, c3]
        exact g1
      · rw [if_neg h1] at hmc ⊢
        obtain ⟨s, a, hs, q1, hw, ⟨d, hd, q2⟩, ha, q3⟩ := hgm
        have hz9 := zsz_r s hs
        have hsz : G1 127 s = nI (zsz s) := by rw [hF 127 (by omega), hz s hs]; exact hz9.2.2
        have sp := hS.stp (i := kept.length) (by omega) hm
        have b3 := M_of3 sp (i := kept.length) (by show kept.length < ((sM U).set kept.length _).length; rw [List.length_set]; omega)
        have hgd : (sM (zStp U kept.length m)).getD kept.length zM0 = (m.1, m.2.1, m.2.2.1, m.2.2.2 + 1) := by
          show ((sM U).set kept.length _).getD kept.length zM0 = _
          rw [List.getD_eq_getElem?_getD, List.getElem?_set]
          rw [if_pos rfl, if_pos (by omega)]
          rfl
        rw [hgd] at b3
        have em3 : m.2.2.2 + 1 = nI (a + 1) := by rw [q3, nI_1]
        have R3 : G1 123 (92 + 4 * kept.length + 3) = m.2.2.2 := by rw [hS.2.2.2.2.2.2.1.2.2 kept.length 3 (by omega) (by omega), hm]; rfl
        by_cases h2 : zSz m.1 ≤ m.2.2.2 + 1
        · rw [if_pos h2]
          have hT := h2
          rw [q1, hz9.2.2, em3] at hT
          have haz : a + 1 = zsz s := by
            rcases Nat.lt_or_ge (a + 1) (zsz s) with h | h
            · rw [zle_f h (by omega)] at hT; exact absurd hT id
            · omega
          have hq : m.2.2.2 + 1 = nI (zsz s) := by rw [em3, haz]
          have T2 : G1 123 5 = sT U 2 := hS.2.1 2 (by omega)
          have T4 : G1 123 7 = sT U 4 := hS.2.1 4 (by omega)
          have T0 : G1 123 3 = sT U 0 := hS.2.1 0 (by omega)
          have C2 : G1 123 2 = sC U 2 := hS.1 2 (by omega)
          rw [hq] at sp b3
          have s1 := ((sp.vT (n := 2) (by omega) (sT U 2 + 1)).vT (n := 4) (by omega) (sT U 4 + nI (zsz s))).uOL hs (nI d) (sT U 0 + sC U 2)
          have e32 : 3 + 2 = 5 := rfl
          have e34 : 3 + 4 = 7 := rfl
          rw [e32, e34] at s1
          obtain ⟨G2, c2, s2, f2⟩ := M_tells s1 1 (nI s) (nI d)
          obtain ⟨G3, c3, s3, f3⟩ := M_endMove s2 (i := kept.length) (by show kept.length < ((sM U).set kept.length _).length; rw [List.length_set]; omega)
          have el : ((sM U).set kept.length (m.1, m.2.1, m.2.2.1, m.2.2.2 + 1)).eraseIdx kept.length = (sM U).eraseIdx kept.length := by
            rw [hset, hera, List.append_assoc, List.eraseIdx_append_of_length_le (Nat.le_refl _), Nat.sub_self]; rfl
          have s3' : zMO G3 (zEndm U kept.length m) := by
            have e : zEndm U kept.length m = uM (zNote (uL (uO (uT (uT (zStp U kept.length m) (upd (sT (zStp U kept.length m)) 2 (sT U 2 + 1))) (upd (sT (uT (zStp U kept.length m) (upd (sT (zStp U kept.length m)) 2 (sT U 2 + 1)))) 4 (sT U 4 + nI (zsz s)))) (upd (sO U) s (nI d))) (upd (sL U) s (sT U 0 + sC U 2))) 1 (nI s) (nI d)) (((sM U).set kept.length (m.1, m.2.1, m.2.2.1, m.2.2.2 + 1)).eraseIdx kept.length) := by
              rw [el]
              unfold zEndm
              rw [q1, q2, zcl_n (s := s) (by omega), hz9.2.2]
              rfl
            rw [e]
            exact s3
          obtain ⟨G', g1, g2, g3⟩ := ih kept (zEndm U kept.length m) G3 (.int m.1) (.int m.2.2.1) hera hms' s3' (fun a ha => by rw [f3 a ha, f2 a ha, zw_oth _ ha, zw_oth _ ha, zw_oth _ ha, zw_oth _ ha, zw_oth _ ha]; exact hF a ha)
          refine ⟨G', ?_, g2, g3⟩
          rw [q1] at a0 g1
          rw [q2] at a2 g1
          have r127a : zw G1 123 (92 + 4 * kept.length + 3) (nI (zsz s)) 127 s = nI (zsz s) := by rw [zw_ne _ (Or.inl (by omega))]; exact hsz
          have r5 : zw G1 123 (92 + 4 * kept.length + 3) (nI (zsz s)) 123 5 = sT U 2 := by rw [zw_ne _ (Or.inr (by omega))]; exact T2
          have r7 : zw (zw G1 123 (92 + 4 * kept.length + 3) (nI (zsz s))) 123 5 (sT U 2 + 1) 123 7 = sT U 4 := by rw [zw_ne _ (Or.inr (by omega)), zw_ne _ (Or.inr (by omega))]; exact T4
          have r127b : zw (zw G1 123 (92 + 4 * kept.length + 3) (nI (zsz s))) 123 5 (sT U 2 + 1) 127 s = nI (zsz s) := by rw [zw_ne _ (Or.inl (by omega)), zw_ne _ (Or.inl (by omega))]; exact hsz
          have r3 : zw (zw (zw (zw G1 123 (92 + 4 * kept.length + 3) (nI (zsz s))) 123 5 (sT U 2 + 1)) 123 7 (sT U 4 + nI (zsz s))) 123 (28 + s) (nI d) 123 3 = sT U 0 := by rw [zw_ne _ (Or.inr (by omega)), zw_ne _ (Or.inr (by omega)), zw_ne _ (Or.inr (by omega)), zw_ne _ (Or.inr (by omega))]; exact T0
          have r2 : zw (zw (zw (zw G1 123 (92 + 4 * kept.length + 3) (nI (zsz s))) 123 5 (sT U 2 + 1)) 123 7 (sT U 4 + nI (zsz s))) 123 (28 + s) (nI d) 123 2 = sC U 2 := by rw [zw_ne _ (Or.inr (by omega)), zw_ne _ (Or.inr (by omega)), zw_ne _ (Or.inr (by omega)), zw_ne _ (Or.inr (by omega))]; exact C2
          rw [kM_goOn_2]
          simp only [kM_goOn_0, kM_goOn_61, kM_goOn_166, kM_goOn_169, kM_goOn_172, zjM_goOn_2, zjM_goOn_61, zjM_goOn_166, zjM_goOn_169, zjM_goOn_172, ev_iload, ev_aload, ev_istore, ev_astore, ev_iconst, ev_null, ev_iinc, ev_iadd, ev_isub, ev_imul, ev_iand, ev_ior, ev_ixor, ev_ishl, ev_ishr, ev_iushr, ev_idiv, ev_irem, ev_icmp, ev_if, ev_ifnull, ev_ifnullN, ev_goto, ev_dupi, ev_dupr, ev_dup2, ev_pop, ev_getf, ev_puti, ev_putr, ev_iald, ev_cald, ev_aald, ev_iast, ev_cast, ev_alen, ev_tsw, ev_lsw, ev_max, ev_min, ev_obj, ev_cp, ev_throw, ev_iret, ev_aret, ev_aretN, ev_ret, ev_new, ev_newa, ev_anew, ev_is0, ev_is1, ev_is2, ev_is3, ev_is4, ev_iv1, ev_iv2, ev_iv3, ev_iv4, ev_iv5, ev_ip1, ev_ip2, zlg_0, zls_0, zlg_1, zls_1, zlg_2, zls_2, zlg_3, zls_3, zlg_4, zls_4, zlg_5, zls_5, zlg_6, zls_6, zlg_7, zls_7, zlg_8, zls_8, zlg_9, zls_9, zlg_10, zls_10, zlg_11, zls_11, ev_jif, zLI_i, zLR_r, zOV_s, List.length_cons, List.length_nil, zcd, decide_eq_true_eq, true_and, and_true, Option.toList_some, Option.toList_none, List.cons_append, List.nil_append, zrf, if_true, if_false, true_or, or_true, false_or, or_false, and_self, zwr_w, zG_hp, Nat.reduceAdd, Nat.reduceLT, Nat.reduceLeDiff, Nat.zero_le, reduceIte, not_true_eq_false, not_false_eq_true, Prod.mk.injEq, Sum.inl.injEq, Option.some.injEq, Value.int.injEq, Value.ref.injEq, zsw, ev_jif, zB01, Bool.false_eq_true, one_ne, zero_eqone, nI_1, gT0_0, gT0_1, gT0_2, gT0_3, gT0_4, gT0_5, gT0_6, gT0_7, oT0, aT1, aT2, aT3, aT4, aT5, aT6, gT7_0, pgT7_0, gT7_1, gT7_2, pgT7_2, oT7, aT8, gT9_0, pgT9_0, gT9_1, gT9_2, pgT9_2, oT9, aT10, gP0_0, gP0_1, gP0_2, gP0_3, gP0_4, gP0_5, gP0_6, gP0_7, pgP0_7, gP0_8, pgP0_8, oP0, aP1, aP2, aP3, aP4, aP5, aP6, gR0_0, pgR0_0, gR0_1, gR0_2, pgR0_2, oR0, aR1, g0_0, g0_1, g0_2, g0_3, g0_4, g0_5, g0_6, g0_7, pg0_7, g0_8, pg0_8, o0, g34_0, g34_1, pg34_1, g34_2, pg34_2, o34, g102_0, g102_1, pg102_1, g102_2, pg102_2, g102_3, g102_4, g102_5, g102_6, pg102_6, o102, g122_0, g122_1, g122_2, g122_3, pg122_3, g122_4, g122_5, pg122_5, g122_6, pg122_6, g122_7, g122_8, g122_9, pg122_9, g122_10, g122_11, g122_12, g122_13, g122_14, g122_15, g122_16, g122_17, g122_18, pg122_18, g122_19, g122_20, pg122_20, g122_21, pg122_21, g122_22, pg122_22, g122_23, o122, a103, a104, a105, a106, a107, a123, a124, a125, a126, a127, a128, a129, a130, a131, a132, a133, a134, a135, a136, a137, a138, q35, zisT_1, zisT_12, zisT_23, zisT_36, zisT_47, zisT_58, zisT_69, zisT_80, zisT_91, zisP_108, zisP_115, zisR_8, zisR_10, zisR_19, zisR_21, zisR_30, zisR_32, zisR_43, zisR_45, zisR_54, zisR_56, zisR_65, zisR_67, zisR_76, zisR_78, zisR_87, zisR_89, zisR_98, zisR_100, id zisT_1, id zisT_12, id zisT_23, id zisP_108, id zisP_115, id (zisR_T7 zisT_1), id (zisR_T9 zisT_1), a123, e10, z10, h10, zle_f (s := kept.length) (n := L) (by omega) (by omega), zlt_t (s := kept.length) (n := L) (by omega) (by omega), a0, a2, hmc, zmul, nI_add, zi_n (s := 92 + 4 * kept.length + 3) (n := 340) (by omega) (by omega), zcl_n (s := 92 + 4 * kept.length + 3) (by omega), R3, hq, b3, zi_n (s := s) (n := 32) (by omega) (by omega), zcl_n (s := s) (by omega), r127a, e5, z5, r5, e7, z7, r7, r127b, zi_n (s := 28 + s) (n := 340) (by omega) (by omega), zcl_n (s := 28 + s) (by omega), zi_n (s := 60 + s) (n := 340) (by omega) (by omega), zcl_n (s := 60 + s) (by omega), e3, z3, e2, z2, r3, r2, c2, c3]
          exact g1
        · rw [if_neg h2]
          have hT := h2
          rw [q1, hz9.2.2, em3] at hT
          have haz : (nI (a + 1) = nI (zsz s)) = False := by
            rw [zeq_n (by omega) (by omega)]
            refine eq_false (fun h => hT ?_)
            rw [zle_t (by omega) (by omega)]; exact trivial
          obtain ⟨G', g1, g2, g3⟩ := ih (kept ++ [(m.1, m.2.1, m.2.2.1, m.2.2.2 + 1)]) (zStp U kept.length m) _ (.int m.1) (.int m.2.2.1) hset hms' sp (fun a ha => by rw [zw_oth _ ha]; exact hF a ha)
          rw [hl2] at g1 g2
          refine ⟨G', ?_, g2, g3⟩
          rw [em3] at b3 g1
          rw [q1] at a0 g1
          have hsz2 : zw G1 123 (92 + 4 * kept.length + 3) (nI (a + 1)) 127 s = nI (zsz s) := by rw [zw_ne _ (Or.inl (by omega))]; exact hsz
          rw [kM_goOn_2]
          simp only [kM_goOn_0, kM_goOn_61, kM_goOn_166, kM_goOn_169, kM_goOn_172, zjM_goOn_2, zjM_goOn_61, zjM_goOn_166, zjM_goOn_169, zjM_goOn_172, ev_iload, ev_aload, ev_istore, ev_astore, ev_iconst, ev_null, ev_iinc, ev_iadd, ev_isub, ev_imul, ev_iand, ev_ior, ev_ixor, ev_ishl, ev_ishr, ev_iushr, ev_idiv, ev_irem, ev_icmp, ev_if, ev_ifnull, ev_ifnullN, ev_goto, ev_dupi, ev_dupr, ev_dup2, ev_pop, ev_getf, ev_puti, ev_putr, ev_iald, ev_cald, ev_aald, ev_iast, ev_cast, ev_alen, ev_tsw, ev_lsw, ev_max, ev_min, ev_obj, ev_cp, ev_throw, ev_iret, ev_aret, ev_aretN, ev_ret, ev_new, ev_newa, ev_anew, ev_is0, ev_is1, ev_is2, ev_is3, ev_is4, ev_iv1, ev_iv2, ev_iv3, ev_iv4, ev_iv5, ev_ip1, ev_ip2, zlg_0, zls_0, zlg_1, zls_1, zlg_2, zls_2, zlg_3, zls_3, zlg_4, zls_4, zlg_5, zls_5, zlg_6, zls_6, zlg_7, zls_7, zlg_8, zls_8, zlg_9, zls_9, zlg_10, zls_10, zlg_11, zls_11, ev_jif, zLI_i, zLR_r, zOV_s, List.length_cons, List.length_nil, zcd, decide_eq_true_eq, true_and, and_true, Option.toList_some, Option.toList_none, List.cons_append, List.nil_append, zrf, if_true, if_false, true_or, or_true, false_or, or_false, and_self, zwr_w, zG_hp, Nat.reduceAdd, Nat.reduceLT, Nat.reduceLeDiff, Nat.zero_le, reduceIte, not_true_eq_false, not_false_eq_true, Prod.mk.injEq, Sum.inl.injEq, Option.some.injEq, Value.int.injEq, Value.ref.injEq, zsw, ev_jif, zB01, Bool.false_eq_true, one_ne, zero_eqone, nI_1, gT0_0, gT0_1, gT0_2, gT0_3, gT0_4, gT0_5, gT0_6, gT0_7, oT0, aT1, aT2, aT3, aT4, aT5, aT6, gT7_0, pgT7_0, gT7_1, gT7_2, pgT7_2, oT7, aT8, gT9_0, pgT9_0, gT9_1, gT9_2, pgT9_2, oT9, aT10, gP0_0, gP0_1, gP0_2, gP0_3, gP0_4, gP0_5, gP0_6, gP0_7, pgP0_7, gP0_8, pgP0_8, oP0, aP1, aP2, aP3, aP4, aP5, aP6, gR0_0, pgR0_0, gR0_1, gR0_2, pgR0_2, oR0, aR1, g0_0, g0_1, g0_2, g0_3, g0_4, g0_5, g0_6, g0_7, pg0_7, g0_8, pg0_8, o0, g34_0, g34_1, pg34_1, g34_2, pg34_2, o34, g102_0, g102_1, pg102_1, g102_2, pg102_2, g102_3, g102_4, g102_5, g102_6, pg102_6, o102, g122_0, g122_1, g122_2, g122_3, pg122_3, g122_4, g122_5, pg122_5, g122_6, pg122_6, g122_7, g122_8, g122_9, pg122_9, g122_10, g122_11, g122_12, g122_13, g122_14, g122_15, g122_16, g122_17, g122_18, pg122_18, g122_19, g122_20, pg122_20, g122_21, pg122_21, g122_22, pg122_22, g122_23, o122, a103, a104, a105, a106, a107, a123, a124, a125, a126, a127, a128, a129, a130, a131, a132, a133, a134, a135, a136, a137, a138, q35, zisT_1, zisT_12, zisT_23, zisT_36, zisT_47, zisT_58, zisT_69, zisT_80, zisT_91, zisP_108, zisP_115, zisR_8, zisR_10, zisR_19, zisR_21, zisR_30, zisR_32, zisR_43, zisR_45, zisR_54, zisR_56, zisR_65, zisR_67, zisR_76, zisR_78, zisR_87, zisR_89, zisR_98, zisR_100, id zisT_1, id zisT_12, id zisT_23, id zisP_108, id zisP_115, id (zisR_T7 zisT_1), id (zisR_T9 zisT_1), a123, e10, z10, h10, zle_f (s := kept.length) (n := L) (by omega) (by omega), zlt_t (s := kept.length) (n := L) (by omega) (by omega), a0, a2, hmc, zmul, nI_add, zi_n (s := 92 + 4 * kept.length + 3) (n := 340) (by omega) (by omega), zcl_n (s := 92 + 4 * kept.length + 3) (by omega), R3, em3, b3, zi_n (s := s) (n := 32) (by omega) (by omega), zcl_n (s := s) (by omega), hsz2, haz]
          exact g1
  obtain ⟨G', g1, g2⟩ := key (sM S) [] S G zU zU rfl hg hM (fun _ _ => rfl)
  refine ⟨G', ?_, g2⟩
  refine zgo zMt_M_goOn (show zEv zTT (zco mM_goOn) kM_goOn_0 [.ref 122, zU, zU, zU] [] _ _ from ?_)
  simp only [kM_goOn_0, kM_goOn_61, kM_goOn_166, kM_goOn_169, kM_goOn_172, zjM_goOn_2, zjM_goOn_61, zjM_goOn_166, zjM_goOn_169, zjM_goOn_172, ev_iload, ev_aload, ev_istore, ev_astore, ev_iconst, ev_null, ev_iinc, ev_iadd, ev_isub, ev_imul, ev_iand, ev_ior, ev_ixor, ev_ishl, ev_ishr, ev_iushr, ev_idiv, ev_irem, ev_icmp, ev_if, ev_ifnull, ev_ifnullN, ev_goto, ev_dupi, ev_dupr, ev_dup2, ev_pop, ev_getf, ev_puti, ev_putr, ev_iald, ev_cald, ev_aald, ev_iast, ev_cast, ev_alen, ev_tsw, ev_lsw, ev_max, ev_min, ev_obj, ev_cp, ev_throw, ev_iret, ev_aret, ev_aretN, ev_ret, ev_new, ev_newa, ev_anew, ev_is0, ev_is1, ev_is2, ev_is3, ev_is4, ev_iv1, ev_iv2, ev_iv3, ev_iv4, ev_iv5, ev_ip1, ev_ip2, zlg_0, zls_0, zlg_1, zls_1, zlg_2, zls_2, zlg_3, zls_3, zlg_4, zls_4, zlg_5, zls_5, zlg_6, zls_6, zlg_7, zls_7, zlg_8, zls_8, zlg_9, zls_9, zlg_10, zls_10, zlg_11, zls_11, ev_jif, zLI_i, zLR_r, zOV_s, List.length_cons, List.length_nil, zcd, decide_eq_true_eq, true_and, and_true, Option.toList_some, Option.toList_none, List.cons_append, List.nil_append, zrf, if_true, if_false, true_or, or_true, false_or, or_false, and_self, zwr_w, zG_hp, Nat.reduceAdd, Nat.reduceLT, Nat.reduceLeDiff, Nat.zero_le, reduceIte, not_true_eq_false, not_false_eq_true, Prod.mk.injEq, Sum.inl.injEq, Option.some.injEq, Value.int.injEq, Value.ref.injEq, zsw, ev_jif, zB01, Bool.false_eq_true, one_ne, zero_eqone, nI_1]
  exact g1
end ZMODEL8
