section ZMODEL2
variable {G G' : Nat → Nat → Int32} {S : zSt}
theorem zMO.uN (h : zMO G S) {n : Nat} (hn : n < 8) (v : Int32) : zMO (zw G 123 (12 + n) v) (uN S (upd (sN S) n v)) := by
  obtain ⟨h1, h2, h3, h4, h5, h6, ⟨h7, h8, h9⟩, h10, h11, h12⟩ := h
  refine ⟨fun k hk => ?_, fun k hk => ?_, fun k hk => ?_, fun k hk => ?_, fun k hk => ?_, fun k hk ho => ?_, ⟨?_, h8, fun i k hi hk => ?_⟩, ?_, h11, fun i k hi hk => ?_⟩
  · rw [zw_ne _ (Or.inr (by omega))]; exact h1 k hk
  · rw [zw_ne _ (Or.inr (by omega))]; exact h2 k hk
  · show _ = upd (sN S) n v k
    by_cases e : k = n
    · subst e; rw [zw_eq]; unfold upd; rw [if_pos rfl]
    · rw [zw_ne _ (Or.inr (by omega))]; unfold upd; rw [if_neg e]; exact h3 k hk
  · rw [zw_ne _ (Or.inr (by omega))]; exact h4 k hk
  · rw [zw_ne _ (Or.inr (by omega))]; exact h5 k hk
  · rw [zw_ne _ (Or.inr (by omega))]; exact h6 k hk ho
  · rw [zw_ne _ (Or.inr (by omega))]; exact h7
  · rw [zw_ne _ (Or.inr (by omega))]; exact h9 i k hi hk
  · rw [zw_ne _ (Or.inr (by omega))]; exact h10
  · rw [zw_ne _ (Or.inr (by omega))]; exact h12 i k hi hk
theorem zMO.uW (h : zMO G S) {n : Nat} (hn : n < 8) (v : Int32) : zMO (zw G 123 (20 + n) v) (uW S (upd (sW S) n v)) := by
  obtain ⟨h1, h2, h3, h4, h5, h6, ⟨h7, h8, h9⟩, h10, h11, h12⟩ := h
  refine ⟨fun k hk => ?_, fun k hk => ?_, fun k hk => ?_, fun k hk => ?_, fun k hk => ?_, fun k hk ho => ?_, ⟨?_, h8, fun i k hi hk => ?_⟩, ?_, h11, fun i k hi hk => ?_⟩
  · rw [zw_ne _ (Or.inr (by omega))]; exact h1 k hk
  · rw [zw_ne _ (Or.inr (by omega))]; exact h2 k hk
  · rw [zw_ne _ (Or.inr (by omega))]; exact h3 k hk
  · show _ = upd (sW S) n v k
    by_cases e : k = n
    · subst e; rw [zw_eq]; unfold upd; rw [if_pos rfl]
    · rw [zw_ne _ (Or.inr (by omega))]; unfold upd; rw [if_neg e]; exact h4 k hk
  · rw [zw_ne _ (Or.inr (by omega))]; exact h5 k hk
  · rw [zw_ne _ (Or.inr (by omega))]; exact h6 k hk ho
  · rw [zw_ne _ (Or.inr (by omega))]; exact h7
  · rw [zw_ne _ (Or.inr (by omega))]; exact h9 i k hi hk
  · rw [zw_ne _ (Or.inr (by omega))]; exact h10
  · rw [zw_ne _ (Or.inr (by omega))]; exact h12 i k hi hk
theorem M_drains (h : zMO G S) (x : Int32) : ∃ G', zcal zTT jM_drains [.ref 122, .int x] (zhp G) = some (some (.int (if sSta S x = 0 then 1 else if sSta S x = 1 then 0 else nI 2)), zhp G') ∧ zMO G' (if sSta S x = 1 then uN S (upd (sN S) x.toNatClampNeg (nI 2)) else S) ∧ ∀ a, a ≠ 123 → G' a = G a := by
  have ct := M_isThere h x
  by_cases h0 : sSta S x = 0
  · rw [if_pos h0, if_neg (by rw [h0]; decide)]
    rw [h0] at ct
    refine ⟨G, ?_, h, fun _ _ => rfl⟩
    refine zgo zMt_M_drains (show zEv zTT (zco mM_drains) kM_drains_0 [.ref 122, .int x] [] _ _ from ?_)
    simp only [kM_drains_0, kM_drains_17, kM_drains_29, kM_drains_30, kM_drains_31, zjM_drains_17, zjM_drains_29, zjM_drains_30, zjM_drains_31, ev_iload, ev_aload, ev_istore, ev_astore, ev_iconst, ev_null, ev_iinc, ev_iadd, ev_isub, ev_imul, ev_iand, ev_ior, ev_ixor, ev_ishl, ev_ishr, ev_iushr, ev_idiv, ev_irem, ev_icmp, ev_if, ev_ifnull, ev_ifnullN, ev_goto, ev_dupi, ev_dupr, ev_dup2, ev_pop, ev_getf, ev_puti, ev_putr, ev_iald, ev_cald, ev_aald, ev_iast, ev_cast, ev_alen, ev_tsw, ev_lsw, ev_max, ev_min, ev_obj, ev_cp, ev_throw, ev_iret, ev_aret, ev_aretN, ev_ret, ev_new, ev_newa, ev_anew, ev_is0, ev_is1, ev_is2, ev_is3, ev_is4, ev_iv1, ev_iv2, ev_iv3, ev_iv4, ev_iv5, ev_ip1, ev_ip2, zlg_0, zls_0, zlg_1, zls_1, zlg_2, zls_2, zlg_3, zls_3, zlg_4, zls_4, zlg_5, zls_5, zlg_6, zls_6, zlg_7, zls_7, zlg_8, zls_8, zlg_9, zls_9, zlg_10, zls_10, zlg_11, zls_11, ev_jif, zLI_i, zLR_r, zOV_s, List.length_cons, List.length_nil, zcd, decide_eq_true_eq, true_and, and_true, Option.toList_some, Option.toList_none, List.cons_append, List.nil_append, zrf, if_true, if_false, true_or, or_true, false_or, or_false, and_self, zwr_w, zG_hp, Nat.reduceAdd, Nat.reduceLT, Nat.reduceLeDiff, Nat.zero_le, reduceIte, not_true_eq_false, not_false_eq_true, Prod.mk.injEq, Sum.inl.injEq, Option.some.injEq, Value.int.injEq, Value.ref.injEq, zsw, ev_jif, zB01, Bool.false_eq_true, one_ne, zero_eqone, nI_1, gT0_0, gT0_1, gT0_2, gT0_3, gT0_4, gT0_5, gT0_6, gT0_7, oT0, aT1, aT2, aT3, aT4, aT5, aT6, gT7_0, pgT7_0, gT7_1, gT7_2, pgT7_2, oT7, aT8, gT9_0, pgT9_0, gT9_1, gT9_2, pgT9_2, oT9, aT10, gP0_0, gP0_1, gP0_2, gP0_3, gP0_4, gP0_5, gP0_6, gP0_7, pgP0_7, gP0_8, pgP0_8, oP0, aP1, aP2, aP3, aP4, aP5, aP6, gR0_0, pgR0_0, gR0_1, gR0_2, pgR0_2, oR0, aR1, g0_0, g0_1, g0_2, g0_3, g0_4, g0_5, g0_6, g0_7, pg0_7, g0_8, pg0_8, o0, g34_0, g34_1, pg34_1, g34_2, pg34_2, o34, g102_0, g102_1, pg102_1, g102_2, pg102_2, g102_3, g102_4, g102_5, g102_6, pg102_6, o102, g122_0, g122_1, g122_2, g122_3, pg122_3, g122_4, g122_5, pg122_5, g122_6, pg122_6, g122_7, g122_8, g122_9, pg122_9, g122_10, g122_11, g122_12, g122_13, g122_14, g122_15, g122_16, g122_17, g122_18, pg122_18, g122_19, g122_20, pg122_20, g122_21, pg122_21, g122_22, pg122_22, g122_23, o122, a103, a104, a105, a106, a107, a123, a124, a125, a126, a127, a128, a129, a130, a131, a132, a133, a134, a135, a136, a137, a138, q35, zisT_1, zisT_12, zisT_23, zisT_36, zisT_47, zisT_58, zisT_69, zisT_80, zisT_91, zisP_108, zisP_115, zisR_8, zisR_10, zisR_19, zisR_21, zisR_30, zisR_32, zisR_43, zisR_45, zisR_54, zisR_56, zisR_65, zisR_67, zisR_76, zisR_78, zisR_87, zisR_89, zisR_98, zisR_100, id zisT_1, id zisT_12, id zisT_23, id zisP_108, id zisP_115, id (zisR_T7 zisT_1), id (zisR_T9 zisT_1), ct]
  · obtain ⟨n, hn, rfl, en⟩ := zrg_st h0
    have ci := M_is hn h 1
    rw [if_neg h0]
    rw [if_pos h0] at ct
    rw [en]
    rw [zcl_n (by omega)]
    by_cases h1 : sN S n = 1
    · rw [if_pos h1] at ci
      rw [if_pos h1, if_pos h1]
      refine ⟨_, ?_, h.uN hn (nI 2), fun a ha => zw_oth _ ha⟩
      refine zgo zMt_M_drains (show zEv zTT (zco mM_drains) kM_drains_0 [.ref 122, .int (nI n)] [] _ _ from ?_)
      simp only [kM_drains_0, kM_drains_17, kM_drains_29, kM_drains_30, kM_drains_31, zjM_drains_17, zjM_drains_29, zjM_drains_30, zjM_drains_31, ev_iload, ev_aload, ev_istore, ev_astore, ev_iconst, ev_null, ev_iinc, ev_iadd, ev_isub, ev_imul, ev_iand, ev_ior, ev_ixor, ev_ishl, ev_ishr, ev_iushr, ev_idiv, ev_irem, ev_icmp, ev_if, ev_ifnull, ev_ifnullN, ev_goto, ev_dupi, ev_dupr, ev_dup2, ev_pop, ev_getf, ev_puti, ev_putr, ev_iald, ev_cald, ev_aald, ev_iast, ev_cast, ev_alen, ev_tsw, ev_lsw, ev_max, ev_min, ev_obj, ev_cp, ev_throw, ev_iret, ev_aret, ev_aretN, ev_ret, ev_new, ev_newa, ev_anew, ev_is0, ev_is1, ev_is2, ev_is3, ev_is4, ev_iv1, ev_iv2, ev_iv3, ev_iv4, ev_iv5, ev_ip1, ev_ip2, zlg_0, zls_0, zlg_1, zls_1, zlg_2, zls_2, zlg_3, zls_3, zlg_4, zls_4, zlg_5, zls_5, zlg_6, zls_6, zlg_7, zls_7, zlg_8, zls_8, zlg_9, zls_9, zlg_10, zls_10, zlg_11, zls_11, ev_jif, zLI_i, zLR_r, zOV_s, List.length_cons, List.length_nil, zcd, decide_eq_true_eq, true_and, and_true, Option.toList_some, Option.toList_none, List.cons_append, List.nil_append, zrf, if_true, if_false, true_or, or_true, false_or, or_false, and_self, zwr_w, zG_hp, Nat.reduceAdd, Nat.reduceLT, Nat.reduceLeDiff, Nat.zero_le, reduceIte, not_true_eq_false, not_false_eq_true, Prod.mk.injEq, Sum.inl.injEq, Option.some.injEq, Value.int.injEq, Value.ref.injEq, zsw, ev_jif, zB01, Bool.false_eq_true, one_ne, zero_eqone, nI_1, gT0_0, gT0_1, gT0_2, gT0_3, gT0_4, gT0_5, gT0_6, gT0_7, oT0, aT1, aT2, aT3, aT4, aT5, aT6, gT7_0, pgT7_0, gT7_1, gT7_2, pgT7_2, oT7, aT8, gT9_0, pgT9_0, gT9_1, gT9_2, pgT9_2, oT9, aT10, gP0_0, gP0_1, gP0_2, gP0_3, gP0_4, gP0_5, gP0_6, gP0_7, pgP0_7, gP0_8, pgP0_8, oP0, aP1, aP2, aP3, aP4, aP5, aP6, gR0_0, pgR0_0, gR0_1, gR0_2, pgR0_2, oR0, aR1, g0_0, g0_1, g0_2, g0_3, g0_4, g0_5, g0_6, g0_7, pg0_7, g0_8, pg0_8, o0, g34_0, g34_1, pg34_1, g34_2, pg34_2, o34, g102_0, g102_1, pg102_1, g102_2, pg102_2, g102_3, g102_4, g102_5, g102_6, pg102_6, o102, g122_0, g122_1, g122_2, g122_3, pg122_3, g122_4, g122_5, pg122_5, g122_6, pg122_6, g122_7, g122_8, g122_9, pg122_9, g122_10, g122_11, g122_12, g122_13, g122_14, g122_15, g122_16, g122_17, g122_18, pg122_18, g122_19, g122_20, pg122_20, g122_21, pg122_21, g122_22, pg122_22, g122_23, o122, a103, a104, a105, a106, a107, a123, a124, a125, a126, a127, a128, a129, a130, a131, a132, a133, a134, a135, a136, a137, a138, q35, zisT_1, zisT_12, zisT_23, zisT_36, zisT_47, zisT_58, zisT_69, zisT_80, zisT_91, zisP_108, zisP_115, zisR_8, zisR_10, zisR_19, zisR_21, zisR_30, zisR_32, zisR_43, zisR_45, zisR_54, zisR_56, zisR_65, zisR_67, zisR_76, zisR_78, zisR_87, zisR_89, zisR_98, zisR_100, id zisT_1, id zisT_12, id zisT_23, id zisP_108, id zisP_115, id (zisR_T7 zisT_1), id (zisR_T9 zisT_1), ct, ci, nI_add, zi_n (s := 12 + n) (n := 340) (by omega) (by omega), zcl_n (s := 12 + n) (by omega), a123]
    · rw [if_neg h1] at ci
      rw [if_neg h1, if_neg h1]
      refine ⟨G, ?_, h, fun _ _ => rfl⟩
      refine zgo zMt_M_drains (show zEv zTT (zco mM_drains) kM_drains_0 [.ref 122, .int (nI n)] [] _ _ from ?_)
      simp only [kM_drains_0, kM_drains_17, kM_drains_29, kM_drains_30, kM_drains_31, zjM_drains_17, zjM_drains_29, zjM_drains_30, zjM_drains_31, ev_iload, ev_aload, ev_istore, ev_astore, ev_iconst, ev_null, ev_iinc, ev_iadd, ev_isub, ev_imul, ev_iand, ev_ior, ev_ixor, ev_ishl, ev_ishr, ev_iushr, ev_idiv, ev_irem, ev_icmp, ev_if, ev_ifnull, ev_ifnullN, ev_goto, ev_dupi, ev_dupr, ev_dup2, ev_pop, ev_getf, ev_puti, ev_putr, ev_iald, ev_cald, ev_aald, ev_iast, ev_cast, ev_alen, ev_tsw, ev_lsw, ev_max, ev_min, ev_obj, ev_cp, ev_throw, ev_iret, ev_aret, ev_aretN, ev_ret, ev_new, ev_newa, ev_anew, ev_is0, ev_is1, ev_is2, ev_is3, ev_is4, ev_iv1, ev_iv2, ev_iv3, ev_iv4, ev_iv5, ev_ip1, ev_ip2, zlg_0, zls_0, zlg_1, zls_1, zlg_2, zls_2, zlg_3, zls_3, zlg_4, zls_4, zlg_5, zls_5, zlg_6, zls_6, zlg_7, zls_7, zlg_8, zls_8, zlg_9, zls_9, zlg_10, zls_10, zlg_11, zls_11, ev_jif, zLI_i, zLR_r, zOV_s, List.length_cons, List.length_nil, zcd, decide_eq_true_eq, true_and, and_true, Option.toList_some, Option.toList_none, List.cons_append, List.nil_append, zrf, if_true, if_false, true_or, or_true, false_or, or_false, and_self, zwr_w, zG_hp, Nat.reduceAdd, Nat.reduceLT, Nat.reduceLeDiff, Nat.zero_le, reduceIte, not_true_eq_false, not_false_eq_true, Prod.mk.injEq, Sum.inl.injEq, Option.some.injEq, Value.int.injEq, Value.ref.injEq, zsw, ev_jif, zB01, Bool.false_eq_true, one_ne, zero_eqone, nI_1, gT0_0, gT0_1, gT0_2, gT0_3, gT0_4, gT0_5, gT0_6, gT0_7, oT0, aT1, aT2, aT3, aT4, aT5, aT6, gT7_0, pgT7_0, gT7_1, gT7_2, pgT7_2, oT7, aT8, gT9_0, pgT9_0, gT9_1, gT9_2, pgT9_2, oT9, aT10, gP0_0, gP0_1, gP0_2, gP0_3, gP0_4, gP0_5, gP0_6, gP0_7, pgP0_7, gP0_8, pgP0_8, oP0, aP1, aP2, aP3, aP4, aP5, aP6, gR0_0, pgR0_0, gR0_1, gR0_2, pgR0_2, oR0, aR1, g0_0, g0_1, g0_2, g0_3, g0_4, g0_5, g0_6, g0_7, pg0_7, g0_8, pg0_8, o0, g34_0, g34_1, pg34_1, g34_2, pg34_2, o34, g102_0, g102_1, pg102_1, g102_2, pg102_2, g102_3, g102_4, g102_5, g102_6, pg102_6, o102, g122_0, g122_1, g122_2, g122_3, pg122_3, g122_4, g122_5, pg122_5, g122_6, pg122_6, g122_7, g122_8, g122_9, pg122_9, g122_10, g122_11, g122_12, g122_13, g122_14, g122_15, g122_16, g122_17, g122_18, pg122_18, g122_19, g122_20, pg122_20, g122_21, pg122_21, g122_22, pg122_22, g122_23, o122, a103, a104, a105, a106, a107, a123, a124, a125, a126, a127, a128, a129, a130, a131, a132, a133, a134, a135, a136, a137, a138, q35, zisT_1, zisT_12, zisT_23, zisT_36, zisT_47, zisT_58, zisT_69, zisT_80, zisT_91, zisP_108, zisP_115, zisR_8, zisR_10, zisR_19, zisR_21, zisR_30, zisR_32, zisR_43, zisR_45, zisR_54, zisR_56, zisR_65, zisR_67, zisR_76, zisR_78, zisR_87, zisR_89, zisR_98, zisR_100, id zisT_1, id zisT_12, id zisT_23, id zisP_108, id zisP_115, id (zisR_T7 zisT_1), id (zisR_T9 zisT_1), ct, ci]
end ZMODEL2
