section ZMOVES
variable {G : Nat → Nat → Int32} {p q : Nat} {S : zSt}
theorem R_removeS (hp : zisT p = true) (h : zSO G p S) {i : Nat} (hi : i < (sM S).length) : ∃ G', zcal zTT jR_remove [.ref (p + 7), .int (nI i)] (zhp G) = some (none, zhp G') ∧ zSO G' p (uM S ((sM S).eraseIdx i)) ∧ zFm p G G' := by
  obtain ⟨G', h1, h2, h3⟩ := R_remove (zisR_T7 hp) h.2.2.2.2.2.2.1 hi
  exact ⟨G', h1, h.uM h2 h3, fun a ha => h3 a (by omega) (by omega)⟩
def zCanc (S : zSt) (i : Nat) (m : zMv) : zSt := uM (zNote (uT S (upd (sT S) 3 (sT S 3 + 1))) (nI 2) m.1 m.2.2.1) ((sM S).eraseIdx i)
theorem K_cancelMove (hp : zisT p = true) (h : zSO G p S) {i : Nat} (hi : i < (sM S).length) : ∃ G', zcal zTT jK_cancelMove [.ref p, .int (nI i)] (zhp G) = some (none, zhp G') ∧ zSO G' p (zCanc S i ((sM S).getD i zM0)) ∧ zFm p G G' := by
  have a0 := R_part0 hp h hi
  have a2 := R_part2 hp h hi
  unfold zCanc
  generalize hm : (sM S).getD i zM0 = m at *
  have t3 := h.2.2.2.2.2.1 3 (by omega)
  have s1 := h.uT 3 (sT S 3 + 1)
  obtain ⟨G2, c2, s2, f2⟩ := T_noteS hp s1 (nI 2) m.1 m.2.2.1
  obtain ⟨G3, c3, s3, f3⟩ := R_removeS hp s2 (i := i) hi
  refine ⟨G3, ?_, s3, ((zFm.rf.u6 _ _).tr f2).tr f3⟩
  refine zgo zMt_K_cancelMove (show zEv zTT (zco mK_cancelMove) kK_cancelMove_0 [.ref p, .int (nI i), zU, zU] [] _ _ from ?_)
  simp only [kK_cancelMove_0, ev_iload, ev_aload, ev_istore, ev_astore, ev_iconst, ev_null, ev_iinc, ev_iadd, ev_isub, ev_imul, ev_iand, ev_ior, ev_ixor, ev_ishl, ev_ishr, ev_iushr, ev_idiv, ev_irem, ev_icmp, ev_if, ev_ifnull, ev_ifnullN, ev_goto, ev_dupi, ev_dupr, ev_dup2, ev_pop, ev_getf, ev_puti, ev_putr, ev_iald, ev_cald, ev_aald, ev_iast, ev_cast, ev_alen, ev_tsw, ev_lsw, ev_max, ev_min, ev_obj, ev_cp, ev_throw, ev_iret, ev_aret, ev_aretN, ev_ret, ev_new, ev_newa, ev_anew, ev_is0, ev_is1, ev_is2, ev_is3, ev_is4, ev_iv1, ev_iv2, ev_iv3, ev_iv4, ev_iv5, ev_ip1, ev_ip2, zlg_0, zls_0, zlg_1, zls_1, zlg_2, zls_2, zlg_3, zls_3, zlg_4, zls_4, zlg_5, zls_5, zlg_6, zls_6, zlg_7, zls_7, zlg_8, zls_8, zlg_9, zls_9, zlg_10, zls_10, zlg_11, zls_11, ev_jif, zLI_i, zLR_r, zOV_s, List.length_cons, List.length_nil, zcd, decide_eq_true_eq, true_and, and_true, Option.toList_some, Option.toList_none, List.cons_append, List.nil_append, zrf, if_true, if_false, true_or, or_true, false_or, or_false, and_self, zwr_w, zG_hp, Nat.reduceAdd, Nat.reduceLT, Nat.reduceLeDiff, Nat.zero_le, reduceIte, not_true_eq_false, not_false_eq_true, Prod.mk.injEq, Sum.inl.injEq, Option.some.injEq, Value.int.injEq, Value.ref.injEq, zsw, ev_jif, zB01, Bool.false_eq_true, one_ne, zero_eqone, nI_1, gT0_0, gT0_1, gT0_2, gT0_3, gT0_4, gT0_5, gT0_6, gT0_7, oT0, aT1, aT2, aT3, aT4, aT5, aT6, gT7_0, pgT7_0, gT7_1, gT7_2, pgT7_2, oT7, aT8, gT9_0, pgT9_0, gT9_1, gT9_2, pgT9_2, oT9, aT10, gP0_0, gP0_1, gP0_2, gP0_3, gP0_4, gP0_5, gP0_6, gP0_7, pgP0_7, gP0_8, pgP0_8, oP0, aP1, aP2, aP3, aP4, aP5, aP6, gR0_0, pgR0_0, gR0_1, gR0_2, pgR0_2, oR0, aR1, g0_0, g0_1, g0_2, g0_3, g0_4, g0_5, g0_6, g0_7, pg0_7, g0_8, pg0_8, o0, g34_0, g34_1, pg34_1, g34_2, pg34_2, o34, g102_0, g102_1, pg102_1, g102_2, pg102_2, g102_3, g102_4, g102_5, g102_6, pg102_6, o102, g122_0, g122_1, g122_2, g122_3, pg122_3, g122_4, g122_5, pg122_5, g122_6, pg122_6, g122_7, g122_8, g122_9, pg122_9, g122_10, g122_11, g122_12, g122_13, g122_14, g122_15, g122_16, g122_17, g122_18, pg122_18, g122_19, g122_20, pg122_20, g122_21, pg122_21, g122_22, pg122_22, g122_23, o122, a103, a104, a105, a106, a107, a123, a124, a125, a126, a127, a128, a129, a130, a131, a132, a133, a134, a135, a136, a137, a138, q35, zisT_1, zisT_12, zisT_23, zisT_36, zisT_47, zisT_58, zisT_69, zisT_80, zisT_91, zisP_108, zisP_115, zisR_8, zisR_10, zisR_19, zisR_21, zisR_30, zisR_32, zisR_43, zisR_45, zisR_54, zisR_56, zisR_65, zisR_67, zisR_76, zisR_78, zisR_87, zisR_89, zisR_98, zisR_100, hp, zisR_T7 hp, a0, a2, zi_n (s := 3) (n := 7) (by omega) (by omega), zcl_n (s := 3) (by omega), t3, c2, c3]
def zEndm (S : zSt) (i : Nat) (m : zMv) : zSt :=
  uM (zNote (uT (uL (uO S (upd (sO S) m.1.toNatClampNeg m.2.2.1)) (upd (sL S) m.1.toNatClampNeg (sT S 0 + sC S 2))) (upd (upd (sT S) 2 (sT S 2 + 1)) 4 (sT S 4 + zSz m.1))) 1 m.1 m.2.2.1) ((sM S).eraseIdx i)
theorem K_endMove (hp : zisT p = true) (h : zSO G p S) {i : Nat} (hi : i < (sM S).length) (hs : zrg 32 ((sM S).getD i zM0).1 = true) : ∃ G', zcal zTT jK_endMove [.ref p, .int (nI i)] (zhp G) = some (none, zhp G') ∧ zSO G' p (zEndm S i ((sM S).getD i zM0)) ∧ zFm p G G' := by
  have a0 := R_part0 hp h hi
  have a2 := R_part2 hp h hi
  unfold zEndm
  generalize hm : (sM S).getD i zM0 = m at *
  obtain ⟨s, hs32, es⟩ := zrg_of (by omega) hs
  rw [es] at a0 ⊢
  rw [zcl_n (s := s) (by omega)]
  obtain ⟨G1, c1, s1, f1⟩ := T_grantS hp h hs32 m.2.2.1
  have t2 := s1.2.2.2.2.2.1 2 (by omega)
  have t4 := s1.2.2.2.2.2.1 4 (by omega)
  have s2 := (s1.uT 2 (sT S 2 + 1)).uT 4 (sT S 4 + zSz (nI s))
  obtain ⟨G3, c3, s3, f3⟩ := T_noteS hp s2 1 (nI s) m.2.2.1
  obtain ⟨G4, c4, s4, f4⟩ := R_removeS hp s3 (i := i) hi
  refine ⟨G4, ?_, s4, (((f1.u6 _ _).u6 _ _).tr f3).tr f4⟩
  have r4 : zw G1 (p + 6) 2 (sT S 2 + 1) (p + 6) 4 = sT S 4 := by rw [zw_ne _ (Or.inr (by omega))]; exact t4
  have t2' : G1 (p + 6) 2 = sT S 2 := t2
  refine zgo zMt_K_endMove (show zEv zTT (zco mK_endMove) kK_endMove_0 [.ref p, .int (nI i), zU, zU] [] _ _ from ?_)
  simp only [kK_endMove_0, ev_iload, ev_aload, ev_istore, ev_astore, ev_iconst, ev_null, ev_iinc, ev_iadd, ev_isub, ev_imul, ev_iand, ev_ior, ev_ixor, ev_ishl, ev_ishr, ev_iushr, ev_idiv, ev_irem, ev_icmp, ev_if, ev_ifnull, ev_ifnullN, ev_goto, ev_dupi, ev_dupr, ev_dup2, ev_pop, ev_getf, ev_puti, ev_putr, ev_iald, ev_cald, ev_aald, ev_iast, ev_cast, ev_alen, ev_tsw, ev_lsw, ev_max, ev_min, ev_obj, ev_cp, ev_throw, ev_iret, ev_aret, ev_aretN, ev_ret, ev_new, ev_newa, ev_anew, ev_is0, ev_is1, ev_is2, ev_is3, ev_is4, ev_iv1, ev_iv2, ev_iv3, ev_iv4, ev_iv5, ev_ip1, ev_ip2, zlg_0, zls_0, zlg_1, zls_1, zlg_2, zls_2, zlg_3, zls_3, zlg_4, zls_4, zlg_5, zls_5, zlg_6, zls_6, zlg_7, zls_7, zlg_8, zls_8, zlg_9, zls_9, zlg_10, zls_10, zlg_11, zls_11, ev_jif, zLI_i, zLR_r, zOV_s, List.length_cons, List.length_nil, zcd, decide_eq_true_eq, true_and, and_true, Option.toList_some, Option.toList_none, List.cons_append, List.nil_append, zrf, if_true, if_false, true_or, or_true, false_or, or_false, and_self, zwr_w, zG_hp, Nat.reduceAdd, Nat.reduceLT, Nat.reduceLeDiff, Nat.zero_le, reduceIte, not_true_eq_false, not_false_eq_true, Prod.mk.injEq, Sum.inl.injEq, Option.some.injEq, Value.int.injEq, Value.ref.injEq, zsw, ev_jif, zB01, Bool.false_eq_true, one_ne, zero_eqone, nI_1, gT0_0, gT0_1, gT0_2, gT0_3, gT0_4, gT0_5, gT0_6, gT0_7, oT0, aT1, aT2, aT3, aT4, aT5, aT6, gT7_0, pgT7_0, gT7_1, gT7_2, pgT7_2, oT7, aT8, gT9_0, pgT9_0, gT9_1, gT9_2, pgT9_2, oT9, aT10, gP0_0, gP0_1, gP0_2, gP0_3, gP0_4, gP0_5, gP0_6, gP0_7, pgP0_7, gP0_8, pgP0_8, oP0, aP1, aP2, aP3, aP4, aP5, aP6, gR0_0, pgR0_0, gR0_1, gR0_2, pgR0_2, oR0, aR1, g0_0, g0_1, g0_2, g0_3, g0_4, g0_5, g0_6, g0_7, pg0_7, g0_8, pg0_8, o0, g34_0, g34_1, pg34_1, g34_2, pg34_2, o34, g102_0, g102_1, pg102_1, g102_2, pg102_2, g102_3, g102_4, g102_5, g102_6, pg102_6, o102, g122_0, g122_1, g122_2, g122_3, pg122_3, g122_4, g122_5, pg122_5, g122_6, pg122_6, g122_7, g122_8, g122_9, pg122_9, g122_10, g122_11, g122_12, g122_13, g122_14, g122_15, g122_16, g122_17, g122_18, pg122_18, g122_19, g122_20, pg122_20, g122_21, pg122_21, g122_22, pg122_22, g122_23, o122, a103, a104, a105, a106, a107, a123, a124, a125, a126, a127, a128, a129, a130, a131, a132, a133, a134, a135, a136, a137, a138, q35, zisT_1, zisT_12, zisT_23, zisT_36, zisT_47, zisT_58, zisT_69, zisT_80, zisT_91, zisP_108, zisP_115, zisR_8, zisR_10, zisR_19, zisR_21, zisR_30, zisR_32, zisR_43, zisR_45, zisR_54, zisR_56, zisR_65, zisR_67, zisR_76, zisR_78, zisR_87, zisR_89, zisR_98, zisR_100, hp, zisR_T7 hp, a0, a2, c1, zi_n (s := 2) (n := 7) (by omega) (by omega), zcl_n (s := 2) (by omega), zi_n (s := 4) (n := 7) (by omega) (by omega), zcl_n (s := 4) (by omega), t2', r4, C_sizeOfShard, c3, c4]
def zStp (S : zSt) (i : Nat) (m : zMv) : zSt := uM S ((sM S).set i (m.1, m.2.1, m.2.2.1, m.2.2.2 + 1))
theorem R_putPartS (hp : zisT p = true) (h : zSO G p S) {i : Nat} (hi : i < (sM S).length) : ∃ G', zcal zTT jR_putPart [.ref (p + 7), .int (nI i), .int (nI 3), .int (((sM S).getD i zM0).2.2.2 + 1)] (zhp G) = some (none, zhp G') ∧ zSO G' p (zStp S i ((sM S).getD i zM0)) ∧ zFm p G G' := by
  have h7 := h.2.2.2.2.2.2.1
  generalize hm : (sM S).getD i zM0 = m
  refine ⟨_, R_putPart (zisR_T7 hp) h7.1 hi (by omega : 3 < 4) (m.2.2.2 + 1), ?_, fun a ha => by rw [zw_oth _ (by omega)]⟩
  refine h.uM ?_ (fun a h1 h2 => by rw [zw_oth _ (by omega)])
  obtain ⟨⟨g1, g2, g3⟩, g4⟩ := h7
  refine ⟨⟨?_, ?_, ?_⟩, ?_⟩
  · rw [zw_ne _ (Or.inl (by omega)), List.length_set]; exact g1
  · rw [List.length_set]; exact g2
  · rw [zw_ne _ (Or.inl (by omega))]; exact g3
  · intro j k hj hk
    rw [List.length_set] at hj
    have e : ((sM S).set i (m.1, m.2.1, m.2.2.1, m.2.2.2 + 1)).getD j zM0 = if j = i then (m.1, m.2.1, m.2.2.1, m.2.2.2 + 1) else (sM S).getD j zM0 := by
      simp only [List.getD_eq_getElem?_getD, List.getElem?_set]
      by_cases e : i = j
      · subst e; simp [hi]
      · rw [if_neg e, if_neg (Ne.symm e)]
    rw [e]
    by_cases e2 : j = i
    · subst e2
      rw [if_pos rfl]
      by_cases e3 : k = 3
      · subst e3; rw [zw_eq]; rfl
      · rw [zw_ne _ (Or.inr (by omega)), g4 j k hj hk, hm]
        rcases (show k = 0 ∨ k = 1 ∨ k = 2 by omega) with rfl | rfl | rfl <;> rfl
    · rw [if_neg e2, zw_ne _ (Or.inr (by omega))]
      exact g4 j k hj hk
/-- the moves' step, one after the other; at: how many stay so far -/
def zAd (tg : Nat → Int32) : List zMv → Nat → zSt → zSt
  | [], _, S => S
  | m :: ms, i, S => if zMC tg S m = true then zAd tg ms i (zCanc S i m) else if zSz m.1 ≤ m.2.2.2 + 1 then zAd tg ms i (zEndm S i m) else zAd tg ms (i + 1) (zStp S i m)
theorem K_advanceMoves (hp : zisT p = true) (hq : zisP q = true) {tg : Nat → Int32} (ht : zAg 32 (G (q + 5)) tg) (h : zSO G p S) (hM : ∀ m, m ∈ sM S → zrg 32 m.1 = true) : ∃ G', zcal zTT jK_advanceMoves [.ref p, .ref q] (zhp G) = some (none, zhp G') ∧ zSO G' p (zAd tg (sM S) 0 S) ∧ zFm p G G' := by
  have hpl := zT_le hp
  have hql := zP_le hq
  have hlb : (sM S).length ≤ 30 := by have := h.2.2.2.2.2.2.1.1.2.1; rw [zRl_T7 hp] at this; omega
  have key : ∀ (ms kept : List zMv) (i : Nat) (U : zSt) (G1 : Nat → Nat → Int32), i + ms.length = (sM S).length → sM U = kept ++ ms → (∀ m, m ∈ ms → zrg 32 m.1 = true) → zSO G1 p U → zFm p G G1 →
      ∃ G', zEv zTT (zco mK_advanceMoves) kK_advanceMoves_16 [.ref p, .ref q, .ref (p + 7), .int (nI (sM S).length), .int (nI kept.length), .int (nI i)] [] (zhp G1) (.inl none, zhp G') ∧ zSO G' p (zAd tg ms kept.length U) ∧ zFm p G G' := by
    intro ms
    induction ms with
    | nil =>
      intro kept i U G1 hi hU _ hS hF
      have hi : i = (sM S).length := by simpa using hi
      subst hi
      refine ⟨G1, ?_, hS, hF⟩
      rw [kK_advanceMoves_16]
      simp only [kK_advanceMoves_0, kK_advanceMoves_41, kK_advanceMoves_72, kK_advanceMoves_91, kK_advanceMoves_97, zjK_advanceMoves_16, zjK_advanceMoves_41, zjK_advanceMoves_72, zjK_advanceMoves_91, zjK_advanceMoves_97, ev_iload, ev_aload, ev_istore, ev_astore, ev_iconst, ev_null, ev_iinc, ev_iadd, ev_isub, ev_imul, ev_iand, ev_ior, ev_ixor, ev_ishl, ev_ishr, ev_iushr, ev_idiv, ev_irem, ev_icmp, ev_if, ev_ifnull, ev_ifnullN, ev_goto, ev_dupi, ev_dupr, ev_dup2, ev_pop, ev_getf, ev_puti, ev_putr, ev_iald, ev_cald, ev_aald, ev_iast, ev_cast, ev_alen, ev_tsw, ev_lsw, ev_max, ev_min, ev_obj, ev_cp, ev_throw, ev_iret, ev_aret, ev_aretN, ev_ret, ev_new, ev_newa, ev_anew, ev_is0, ev_is1, ev_is2, ev_is3, ev_is4, ev_iv1, ev_iv2, ev_iv3, ev_iv4, ev_iv5, ev_ip1, ev_ip2, zlg_0, zls_0, zlg_1, zls_1, zlg_2, zls_2, zlg_3, zls_3, zlg_4, zls_4, zlg_5, zls_5, zlg_6, zls_6, zlg_7, zls_7, zlg_8, zls_8, zlg_9, zls_9, zlg_10, zls_10, zlg_11, zls_11, ev_jif, zLI_i, zLR_r, zOV_s, List.length_cons, List.length_nil, zcd, decide_eq_true_eq, true_and, and_true, Option.toList_some, Option.toList_none, List.cons_append, List.nil_append, zrf, if_true, if_false, true_or, or_true, false_or, or_false, and_self, zwr_w, zG_hp, Nat.reduceAdd, Nat.reduceLT, Nat.reduceLeDiff, Nat.zero_le, reduceIte, not_true_eq_false, not_false_eq_true, Prod.mk.injEq, Sum.inl.injEq, Option.some.injEq, Value.int.injEq, Value.ref.injEq, zsw, ev_jif, zB01, Bool.false_eq_true, one_ne, zero_eqone, nI_1, zle_t (s := (sM S).length) (n := (sM S).length) (by omega) (by omega), zlt_f (s := (sM S).length) (n := (sM S).length) (by omega) (by omega)]
    | cons m ms ih =>
      intro kept i U G1 hi hU hms hS hF
      rw [List.length_cons] at hi
      have hlt : kept.length < (sM U).length := by rw [hU, List.length_append, List.length_cons]; omega
      have hm : (sM U).getD kept.length zM0 = m := by rw [hU, List.getD_eq_getElem?_getD, List.getElem?_append_right (Nat.le_refl _), Nat.sub_self]; rfl
      have htU : zAg 32 (G1 (q + 5)) tg := by rw [hF (q + 5) (by omega)]; exact ht
      have hmc := K_mustCancel hp hq hS htU hlt
      have a0 := R_part0 hp hS hlt
      have a3 := R_part3 hp hS hlt
      rw [hm] at hmc a0 a3
      have hera : (sM U).eraseIdx kept.length = kept ++ ms := by rw [hU, List.eraseIdx_append_of_length_le (Nat.le_refl _), Nat.sub_self]; rfl
      rw [zAd]
      by_cases h1 : zMC tg U m = true
      · obtain ⟨G2, c2, s2, f2⟩ := K_cancelMove hp hS hlt
        rw [hm] at s2
        obtain ⟨G', g1, g2, g3⟩ := ih kept (i + 1) (zCanc U kept.length m) G2 (by omega) hera (fun m' h' => hms m' (List.mem_cons_of_mem _ h')) s2 (hF.tr f2)
        refine ⟨G', ?_, by rw [if_pos h1]; exact g2, g3⟩
        rw [kK_advanceMoves_16]
        simp only [kK_advanceMoves_0, kK_advanceMoves_41, kK_advanceMoves_72, kK_advanceMoves_91, kK_advanceMoves_97, zjK_advanceMoves_16, zjK_advanceMoves_41, zjK_advanceMoves_72, zjK_advanceMoves_91, zjK_advanceMoves_97, ev_iload, ev_aload, ev_istore, ev_astore, ev_iconst, ev_null, ev_iinc, ev_iadd, ev_isub, ev_imul, ev_iand, ev_ior, ev_ixor, ev_ishl, ev_ishr, ev_iushr, ev_idiv, ev_irem, ev_icmp, ev_if, ev_ifnull, ev_ifnullN, ev_goto, ev_dupi, ev_dupr, ev_dup2, ev_pop, ev_getf, ev_puti, ev_putr, ev_iald, ev_cald, ev_aald, ev_iast, ev_cast, ev_alen, ev_tsw, ev_lsw, ev_max, ev_min, ev_obj, ev_cp, ev_throw, ev_iret, ev_aret, ev_aretN, ev_ret, ev_new, ev_newa, ev_anew, ev_is0, ev_is1, ev_is2, ev_is3, ev_is4, ev_iv1, ev_iv2, ev_iv3, ev_iv4, ev_iv5, ev_ip1, ev_ip2, zlg_0, zls_0, zlg_1, zls_1, zlg_2, zls_2, zlg_3, zls_3, zlg_4, zls_4, zlg_5, zls_5, zlg_6, zls_6, zlg_7, zls_7, zlg_8, zls_8, zlg_9, zls_9, zlg_10, zls_10, zlg_11, zls_11, ev_jif, zLI_i, zLR_r, zOV_s, List.length_cons, List.length_nil, zcd, decide_eq_true_eq, true_and, and_true, Option.toList_some, Option.toList_none, List.cons_append, List.nil_append, zrf, if_true, if_false, true_or, or_true, false_or, or_false, and_self, zwr_w, zG_hp, Nat.reduceAdd, Nat.reduceLT, Nat.reduceLeDiff, Nat.zero_le, reduceIte, not_true_eq_false, not_false_eq_true, Prod.mk.injEq, Sum.inl.injEq, Option.some.injEq, Value.int.injEq, Value.ref.injEq, zsw, ev_jif, zB01, Bool.false_eq_true, one_ne, zero_eqone, nI_1, zle_f (s := i) (n := (sM S).length) (by omega) (by omega), zlt_t (s := i) (n := (sM S).length) (by omega) (by omega), hmc, h1, c2]
        exact g1
      · by_cases h2 : zSz m.1 ≤ m.2.2.2 + 1
        · obtain ⟨G2, c2, s2, f2⟩ := K_endMove hp hS hlt (by rw [hm]; exact hms m List.mem_cons_self)
          rw [hm] at s2
          obtain ⟨G', g1, g2, g3⟩ := ih kept (i + 1) (zEndm U kept.length m) G2 (by omega) hera (fun m' h' => hms m' (List.mem_cons_of_mem _ h')) s2 (hF.tr f2)
          refine ⟨G', ?_, by rw [if_neg h1, if_pos h2]; exact g2, g3⟩
          rw [kK_advanceMoves_16]
          simp only [kK_advanceMoves_0, kK_advanceMoves_41, kK_advanceMoves_72, kK_advanceMoves_91, kK_advanceMoves_97, zjK_advanceMoves_16, zjK_advanceMoves_41, zjK_advanceMoves_72, zjK_advanceMoves_91, zjK_advanceMoves_97, ev_iload, ev_aload, ev_istore, ev_astore, ev_iconst, ev_null, ev_iinc, ev_iadd, ev_isub, ev_imul, ev_iand, ev_ior, ev_ixor, ev_ishl, ev_ishr, ev_iushr, ev_idiv, ev_irem, ev_icmp, ev_if, ev_ifnull, ev_ifnullN, ev_goto, ev_dupi, ev_dupr, ev_dup2, ev_pop, ev_getf, ev_puti, ev_putr, ev_iald, ev_cald, ev_aald, ev_iast, ev_cast, ev_alen, ev_tsw, ev_lsw, ev_max, ev_min, ev_obj, ev_cp, ev_throw, ev_iret, ev_aret, ev_aretN, ev_ret, ev_new, ev_newa, ev_anew, ev_is0, ev_is1, ev_is2, ev_is3, ev_is4, ev_iv1, ev_iv2, ev_iv3, ev_iv4, ev_iv5, ev_ip1, ev_ip2, zlg_0, zls_0, zlg_1, zls_1, zlg_2, zls_2, zlg_3, zls_3, zlg_4, zls_4, zlg_5, zls_5, zlg_6, zls_6, zlg_7, zls_7, zlg_8, zls_8, zlg_9, zls_9, zlg_10, zls_10, zlg_11, zls_11, ev_jif, zLI_i, zLR_r, zOV_s, List.length_cons, List.length_nil, zcd, decide_eq_true_eq, true_and, and_true, Option.toList_some, Option.toList_none, List.cons_append, List.nil_append, zrf, if_true, if_false, true_or, or_true, false_or, or_false, and_self, zwr_w, zG_hp, Nat.reduceAdd, Nat.reduceLT, Nat.reduceLeDiff, Nat.zero_le, reduceIte, not_true_eq_false, not_false_eq_true, Prod.mk.injEq, Sum.inl.injEq, Option.some.injEq, Value.int.injEq, Value.ref.injEq, zsw, ev_jif, zB01, Bool.false_eq_true, one_ne, zero_eqone, nI_1, gT0_0, gT0_1, gT0_2, gT0_3, gT0_4, gT0_5, gT0_6, gT0_7, oT0, aT1, aT2, aT3, aT4, aT5, aT6, gT7_0, pgT7_0, gT7_1, gT7_2, pgT7_2, oT7, aT8, gT9_0, pgT9_0, gT9_1, gT9_2, pgT9_2, oT9, aT10, gP0_0, gP0_1, gP0_2, gP0_3, gP0_4, gP0_5, gP0_6, gP0_7, pgP0_7, gP0_8, pgP0_8, oP0, aP1, aP2, aP3, aP4, aP5, aP6, gR0_0, pgR0_0, gR0_1, gR0_2, pgR0_2, oR0, aR1, g0_0, g0_1, g0_2, g0_3, g0_4, g0_5, g0_6, g0_7, pg0_7, g0_8, pg0_8, o0, g34_0, g34_1, pg34_1, g34_2, pg34_2, o34, g102_0, g102_1, pg102_1, g102_2, pg102_2, g102_3, g102_4, g102_5, g102_6, pg102_6, o102, g122_0, g122_1, g122_2, g122_3, pg122_3, g122_4, g122_5, pg122_5, g122_6, pg122_6, g122_7, g122_8, g122_9, pg122_9, g122_10, g122_11, g122_12, g122_13, g122_14, g122_15, g122_16, g122_17, g122_18, pg122_18, g122_19, g122_20, pg122_20, g122_21, pg122_21, g122_22, pg122_22, g122_23, o122, a103, a104, a105, a106, a107, a123, a124, a125, a126, a127, a128, a129, a130, a131, a132, a133, a134, a135, a136, a137, a138, q35, zisT_1, zisT_12, zisT_23, zisT_36, zisT_47, zisT_58, zisT_69, zisT_80, zisT_91, zisP_108, zisP_115, zisR_8, zisR_10, zisR_19, zisR_21, zisR_30, zisR_32, zisR_43, zisR_45, zisR_54, zisR_56, zisR_65, zisR_67, zisR_76, zisR_78, zisR_87, zisR_89, zisR_98, zisR_100, hp, zisR_T7 hp, zle_f (s := i) (n := (sM S).length) (by omega) (by omega), zlt_t (s := i) (n := (sM S).length) (by omega) (by omega), hmc, h1, a3, a0, C_sizeOfShard, Int32.not_lt.mpr h2, c2]
          exact g1
        · obtain ⟨G2, c2, s2, f2⟩ := R_putPartS hp hS hlt
          rw [hm] at s2 c2
          have hset : (sM U).set kept.length (m.1, m.2.1, m.2.2.1, m.2.2.2 + 1) = (kept ++ [(m.1, m.2.1, m.2.2.1, m.2.2.2 + 1)]) ++ ms := by rw [hU]; simp
          have hl2 : (kept ++ [(m.1, m.2.1, m.2.2.1, m.2.2.2 + 1)]).length = kept.length + 1 := by simp
          obtain ⟨G', g1, g2, g3⟩ := ih (kept ++ [(m.1, m.2.1, m.2.2.1, m.2.2.2 + 1)]) (i + 1) (zStp U kept.length m) G2 (by omega) hset (fun m' h' => hms m' (List.mem_cons_of_mem _ h')) s2 (hF.tr f2)
          rw [hl2] at g1 g2
          refine ⟨G', ?_, by rw [if_neg h1, if_neg h2]; exact g2, g3⟩
          rw [kK_advanceMoves_16]
          simp only [kK_advanceMoves_0, kK_advanceMoves_41, kK_advanceMoves_72, kK_advanceMoves_91, kK_advanceMoves_97, zjK_advanceMoves_16, zjK_advanceMoves_41, zjK_advanceMoves_72, zjK_advanceMoves_91, zjK_advanceMoves_97, ev_iload, ev_aload, ev_istore, ev_astore, ev_iconst, ev_null, ev_iinc, ev_iadd, ev_isub, ev_imul, ev_iand, ev_ior, ev_ixor, ev_ishl, ev_ishr, ev_iushr, ev_idiv, ev_irem, ev_icmp, ev_if, ev_ifnull, ev_ifnullN, ev_goto, ev_dupi, ev_dupr, ev_dup2, ev_pop, ev_getf, ev_puti, ev_putr, ev_iald, ev_cald, ev_aald, ev_iast, ev_cast, ev_alen, ev_tsw, ev_lsw, ev_max, ev_min, ev_obj, ev_cp, ev_throw, ev_iret, ev_aret, ev_aretN, ev_ret, ev_new, ev_newa, ev_anew, ev_is0, ev_is1, ev_is2, ev_is3, ev_is4, ev_iv1, ev_iv2, ev_iv3, ev_iv4, ev_iv5, ev_ip1, ev_ip2, zlg_0, zls_0, zlg_1, zls_1, zlg_2, zls_2, zlg_3, zls_3, zlg_4, zls_4, zlg_5, zls_5, zlg_6, zls_6, zlg_7, zls_7, zlg_8, zls_8, zlg_9, zls_9, zlg_10, zls_10, zlg_11, zls_11, ev_jif, zLI_i, zLR_r, zOV_s, List.length_cons, List.length_nil, zcd, decide_eq_true_eq, true_and, and_true, Option.toList_some, Option.toList_none, List.cons_append, List.nil_append, zrf, if_true, if_false, true_or, or_true, false_or, or_false, and_self, zwr_w, zG_hp, Nat.reduceAdd, Nat.reduceLT, Nat.reduceLeDiff, Nat.zero_le, reduceIte, not_true_eq_false, not_false_eq_true, Prod.mk.injEq, Sum.inl.injEq, Option.some.injEq, Value.int.injEq, Value.ref.injEq, zsw, ev_jif, zB01, Bool.false_eq_true, one_ne, zero_eqone, nI_1, gT0_0, gT0_1, gT0_2, gT0_3, gT0_4, gT0_5, gT0_6, gT0_7, oT0, aT1, aT2, aT3, aT4, aT5, aT6, gT7_0, pgT7_0, gT7_1, gT7_2, pgT7_2, oT7, aT8, gT9_0, pgT9_0, gT9_1, gT9_2, pgT9_2, oT9, aT10, gP0_0, gP0_1, gP0_2, gP0_3, gP0_4, gP0_5, gP0_6, gP0_7, pgP0_7, gP0_8, pgP0_8, oP0, aP1, aP2, aP3, aP4, aP5, aP6, gR0_0, pgR0_0, gR0_1, gR0_2, pgR0_2, oR0, aR1, g0_0, g0_1, g0_2, g0_3, g0_4, g0_5, g0_6, g0_7, pg0_7, g0_8, pg0_8, o0, g34_0, g34_1, pg34_1, g34_2, pg34_2, o34, g102_0, g102_1, pg102_1, g102_2, pg102_2, g102_3, g102_4, g102_5, g102_6, pg102_6, o102, g122_0, g122_1, g122_2, g122_3, pg122_3, g122_4, g122_5, pg122_5, g122_6, pg122_6, g122_7, g122_8, g122_9, pg122_9, g122_10, g122_11, g122_12, g122_13, g122_14, g122_15, g122_16, g122_17, g122_18, pg122_18, g122_19, g122_20, pg122_20, g122_21, pg122_21, g122_22, pg122_22, g122_23, o122, a103, a104, a105, a106, a107, a123, a124, a125, a126, a127, a128, a129, a130, a131, a132, a133, a134, a135, a136, a137, a138, q35, zisT_1, zisT_12, zisT_23, zisT_36, zisT_47, zisT_58, zisT_69, zisT_80, zisT_91, zisP_108, zisP_115, zisR_8, zisR_10, zisR_19, zisR_21, zisR_30, zisR_32, zisR_43, zisR_45, zisR_54, zisR_56, zisR_65, zisR_67, zisR_76, zisR_78, zisR_87, zisR_89, zisR_98, zisR_100, hp, zisR_T7 hp, zle_f (s := i) (n := (sM S).length) (by omega) (by omega), zlt_t (s := i) (n := (sM S).length) (by omega) (by omega), hmc, h1, a3, a0, C_sizeOfShard, Int32.not_le.mp h2, c2]
          exact g1
  obtain ⟨G', g1, g2⟩ := key (sM S) [] 0 S G (by simp) rfl hM h zFm.rf
  refine ⟨G', ?_, g2⟩
  refine zgo zMt_K_advanceMoves (show zEv zTT (zco mK_advanceMoves) kK_advanceMoves_0 [.ref p, .ref q, zU, zU, zU, zU] [] _ _ from ?_)
  simp only [kK_advanceMoves_0, kK_advanceMoves_41, kK_advanceMoves_72, kK_advanceMoves_91, kK_advanceMoves_97, zjK_advanceMoves_16, zjK_advanceMoves_41, zjK_advanceMoves_72, zjK_advanceMoves_91, zjK_advanceMoves_97, ev_iload, ev_aload, ev_istore, ev_astore, ev_iconst, ev_null, ev_iinc, ev_iadd, ev_isub, ev_imul, ev_iand, ev_ior, ev_ixor, ev_ishl, ev_ishr, ev_iushr, ev_idiv, ev_irem, ev_icmp, ev_if, ev_ifnull, ev_ifnullN, ev_goto, ev_dupi, ev_dupr, ev_dup2, ev_pop, ev_getf, ev_puti, ev_putr, ev_iald, ev_cald, ev_aald, ev_iast, ev_cast, ev_alen, ev_tsw, ev_lsw, ev_max, ev_min, ev_obj, ev_cp, ev_throw, ev_iret, ev_aret, ev_aretN, ev_ret, ev_new, ev_newa, ev_anew, ev_is0, ev_is1, ev_is2, ev_is3, ev_is4, ev_iv1, ev_iv2, ev_iv3, ev_iv4, ev_iv5, ev_ip1, ev_ip2, zlg_0, zls_0, zlg_1, zls_1, zlg_2, zls_2, zlg_3, zls_3, zlg_4, zls_4, zlg_5, zls_5, zlg_6, zls_6, zlg_7, zls_7, zlg_8, zls_8, zlg_9, zls_9, zlg_10, zls_10, zlg_11, zls_11, ev_jif, zLI_i, zLR_r, zOV_s, List.length_cons, List.length_nil, zcd, decide_eq_true_eq, true_and, and_true, Option.toList_some, Option.toList_none, List.cons_append, List.nil_append, zrf, if_true, if_false, true_or, or_true, false_or, or_false, and_self, zwr_w, zG_hp, Nat.reduceAdd, Nat.reduceLT, Nat.reduceLeDiff, Nat.zero_le, reduceIte, not_true_eq_false, not_false_eq_true, Prod.mk.injEq, Sum.inl.injEq, Option.some.injEq, Value.int.injEq, Value.ref.injEq, zsw, ev_jif, zB01, Bool.false_eq_true, one_ne, zero_eqone, nI_1, gT0_0, gT0_1, gT0_2, gT0_3, gT0_4, gT0_5, gT0_6, gT0_7, oT0, aT1, aT2, aT3, aT4, aT5, aT6, gT7_0, pgT7_0, gT7_1, gT7_2, pgT7_2, oT7, aT8, gT9_0, pgT9_0, gT9_1, gT9_2, pgT9_2, oT9, aT10, gP0_0, gP0_1, gP0_2, gP0_3, gP0_4, gP0_5, gP0_6, gP0_7, pgP0_7, gP0_8, pgP0_8, oP0, aP1, aP2, aP3, aP4, aP5, aP6, gR0_0, pgR0_0, gR0_1, gR0_2, pgR0_2, oR0, aR1, g0_0, g0_1, g0_2, g0_3, g0_4, g0_5, g0_6, g0_7, pg0_7, g0_8, pg0_8, o0, g34_0, g34_1, pg34_1, g34_2, pg34_2, o34, g102_0, g102_1, pg102_1, g102_2, pg102_2, g102_3, g102_4, g102_5, g102_6, pg102_6, o102, g122_0, g122_1, g122_2, g122_3, pg122_3, g122_4, g122_5, pg122_5, g122_6, pg122_6, g122_7, g122_8, g122_9, pg122_9, g122_10, g122_11, g122_12, g122_13, g122_14, g122_15, g122_16, g122_17, g122_18, pg122_18, g122_19, g122_20, pg122_20, g122_21, pg122_21, g122_22, pg122_22, g122_23, o122, a103, a104, a105, a106, a107, a123, a124, a125, a126, a127, a128, a129, a130, a131, a132, a133, a134, a135, a136, a137, a138, q35, zisT_1, zisT_12, zisT_23, zisT_36, zisT_47, zisT_58, zisT_69, zisT_80, zisT_91, zisP_108, zisP_115, zisR_8, zisR_10, zisR_19, zisR_21, zisR_30, zisR_32, zisR_43, zisR_45, zisR_54, zisR_56, zisR_65, zisR_67, zisR_76, zisR_78, zisR_87, zisR_89, zisR_98, zisR_100, hp, zisR_T7 hp, h.2.2.2.2.2.2.1.1.1]
  exact g1
end ZMOVES
