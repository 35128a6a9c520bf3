section ZTICK
variable {G : Nat → Nat → Int32} {p q : Nat} {S : zSt}
theorem zeq_0 {c : Nat} (h : c < 2 ^ 31) : (nI c = 0) = (c = 0) := zeq_n (b := 0) h (by omega)
theorem zi17 : zi 1 7 = true := by decide
theorem zi13 : zi 1 3 = true := by decide
theorem zi57 : zi (nI 5) 7 = true := by decide
theorem zi07 : zi 0 7 = true := by decide
theorem zcl1 : (1 : Int32).toNatClampNeg = 1 := by decide
theorem zcl5 : (nI 5).toNatClampNeg = 5 := by decide
theorem zcl0 : (0 : Int32).toNatClampNeg = 0 := by decide
theorem R_appendS (hp : zisT p = true) (h : zSO G p S) (a b x d : Int32) : ∃ G', zcal zTT jR_append [.ref (p + 7), .int a, .int b, .int x, .int d] (zhp G) = some (none, zhp G') ∧ zSO G' p (uM S (zapp 8 (sM S) (a, b, x, d))) ∧ zFm p G G' := by
  obtain ⟨G', h1, h2, h3⟩ := R_append (zisR_T7 hp) h.2.2.2.2.2.2.1 a b x d
  rw [zRl_T7 hp] at h2
  exact ⟨G', h1, h.uM h2 h3, fun q hq => h3 q (by omega) (by omega)⟩
/-- a move begins; moves begin, at most n -/
def zBeg (tg : Nat → Int32) (S : zSt) (s : Nat) : zSt := zNote (uT (uM S (zapp 8 (sM S) (nI s, sO S s, tg s, 0))) (upd (sT S) 1 (sT S 1 + 1))) 0 (nI s) (tg s)
def zBg (tg : Nat → Int32) : Nat → zSt → zSt
  | 0, S => S
  | n + 1, S => if (zBes tg S 32).1 = -1 then S else zBg tg n (zBeg tg S (zBes tg S 32).1.toNatClampNeg)
theorem zBes_or (tg : Nat → Int32) (S : zSt) : ∀ n, n ≤ 32 → (zBes tg S n).1 = -1 ∨ ∃ s, s < 32 ∧ (zBes tg S n).1 = nI s
  | 0, _ => Or.inl rfl
  | n + 1, h => by
    rw [zBes_s]
    split
    · exact Or.inr ⟨n, by omega, rfl⟩
    · exact zBes_or tg S n (by omega)
theorem K_begin0 (hp : zisT p = true) (hq : zisP q = true) {U : zSt} {G1 : Nat → Nat → Int32} {tg : Nat → Int32} (ht : zAg 32 (G1 (q + 5)) tg) (hU : zSO G1 p U) {i B : Nat} (hi : i < B) (hB : B < 1000) (v4 v5 : Value) {s : Nat} (hs : s < 32) (hb : zcal zTT jK_bestCandidate [.ref p, .ref q] (zhp G1) = some (some (.int (nI s)), zhp G1)) : ∃ G2, zSO G2 p (zBeg tg U s) ∧ zFm p G1 G2 ∧ ∀ y, zEv zTT (zco mK_beginMoves) kK_beginMoves_15 [.ref p, .ref q, .int (nI B), .int (nI (i + 1)), .int (nI s), .int (tg s)] [] (zhp G2) y → zEv zTT (zco mK_beginMoves) kK_beginMoves_15 [.ref p, .ref q, .int (nI B), .int (nI i), v4, v5] [] (zhp G1) y := by
  obtain ⟨G2, c2, s2, f2⟩ := R_appendS hp hU (nI s) (sO U s) (tg s) 0
  have t1 := s2.2.2.2.2.2.1 1 (by omega)
  have s3 := s2.uT 1 (sT U 1 + 1)
  obtain ⟨G4, c4, s4, f4⟩ := T_noteS hp s3 0 (nI s) (tg s)
  refine ⟨G4, s4, (f2.u6 _ _).tr f4, fun y hy => ?_⟩
  have t1' : G2 (p + 6) 1 = sT U 1 := t1
  have et : G1 (q + 5) s = tg s := ht s hs
  rw [kK_beginMoves_15]
  simp only [kK_beginMoves_0, kK_beginMoves_34, kK_beginMoves_85, zjK_beginMoves_15, zjK_beginMoves_34, zjK_beginMoves_85, ev_iload, ev_aload, ev_istore, ev_astore, ev_iconst, ev_null, ev_iinc, ev_iadd, ev_isub, ev_imul, ev_iand, ev_ior, ev_ixor, ev_ishl, ev_ishr, ev_iushr, ev_idiv, ev_irem, ev_icmp, ev_if, ev_ifnull, ev_ifnullN, ev_goto, ev_dupi, ev_dupr, ev_dup2, ev_pop, ev_getf, ev_puti, ev_putr, ev_iald, ev_cald, ev_aald, ev_iast, ev_cast, ev_alen, ev_tsw, ev_lsw, ev_max, ev_min, ev_obj, ev_cp, ev_throw, ev_iret, ev_aret, ev_aretN, ev_ret, ev_new, ev_newa, ev_anew, ev_is0, ev_is1, ev_is2, ev_is3, ev_is4, ev_iv1, ev_iv2, ev_iv3, ev_iv4, ev_iv5, ev_ip1, ev_ip2, zlg_0, zls_0, zlg_1, zls_1, zlg_2, zls_2, zlg_3, zls_3, zlg_4, zls_4, zlg_5, zls_5, zlg_6, zls_6, zlg_7, zls_7, zlg_8, zls_8, zlg_9, zls_9, zlg_10, zls_10, zlg_11, zls_11, ev_jif, zLI_i, zLR_r, zOV_s, List.length_cons, List.length_nil, zcd, decide_eq_true_eq, true_and, and_true, Option.toList_some, Option.toList_none, List.cons_append, List.nil_append, zrf, if_true, if_false, true_or, or_true, false_or, or_false, and_self, zwr_w, zG_hp, Nat.reduceAdd, Nat.reduceLT, Nat.reduceLeDiff, Nat.zero_le, reduceIte, not_true_eq_false, not_false_eq_true, Prod.mk.injEq, Sum.inl.injEq, Option.some.injEq, Value.int.injEq, Value.ref.injEq, zsw, ev_jif, zB01, Bool.false_eq_true, one_ne, zero_eqone, nI_1, gT0_0, gT0_1, gT0_2, gT0_3, gT0_4, gT0_5, gT0_6, gT0_7, oT0, aT1, aT2, aT3, aT4, aT5, aT6, gT7_0, pgT7_0, gT7_1, gT7_2, pgT7_2, oT7, aT8, gT9_0, pgT9_0, gT9_1, gT9_2, pgT9_2, oT9, aT10, gP0_0, gP0_1, gP0_2, gP0_3, gP0_4, gP0_5, gP0_6, gP0_7, pgP0_7, gP0_8, pgP0_8, oP0, aP1, aP2, aP3, aP4, aP5, aP6, gR0_0, pgR0_0, gR0_1, gR0_2, pgR0_2, oR0, aR1, g0_0, g0_1, g0_2, g0_3, g0_4, g0_5, g0_6, g0_7, pg0_7, g0_8, pg0_8, o0, g34_0, g34_1, pg34_1, g34_2, pg34_2, o34, g102_0, g102_1, pg102_1, g102_2, pg102_2, g102_3, g102_4, g102_5, g102_6, pg102_6, o102, g122_0, g122_1, g122_2, g122_3, pg122_3, g122_4, g122_5, pg122_5, g122_6, pg122_6, g122_7, g122_8, g122_9, pg122_9, g122_10, g122_11, g122_12, g122_13, g122_14, g122_15, g122_16, g122_17, g122_18, pg122_18, g122_19, g122_20, pg122_20, g122_21, pg122_21, g122_22, pg122_22, g122_23, o122, a103, a104, a105, a106, a107, a123, a124, a125, a126, a127, a128, a129, a130, a131, a132, a133, a134, a135, a136, a137, a138, q35, zisT_1, zisT_12, zisT_23, zisT_36, zisT_47, zisT_58, zisT_69, zisT_80, zisT_91, zisP_108, zisP_115, zisR_8, zisR_10, zisR_19, zisR_21, zisR_30, zisR_32, zisR_43, zisR_45, zisR_54, zisR_56, zisR_65, zisR_67, zisR_76, zisR_78, zisR_87, zisR_89, zisR_98, zisR_100, hp, hq, zle_f (s := i) (n := B) (by omega) (by omega), zlt_t (s := i) (n := B) (by omega) (by omega), hb, zeq_m1 (a := s) (by omega), P_targetOf, zrg_n (j := s) (N := 32) (by omega) hs, zcl_n (s := s) (by omega), et, T_ownerOf, zOwn_S hU, sOwn_n hs, c2, zi17, zcl1, t1', c4]
  exact hy
theorem K_beginMoves (hp : zisT p = true) (hq : zisP q = true) {tg : Nat → Int32} (ht : zAg 32 (G (q + 5)) tg) (h : zSO G p S) {B : Nat} (hC : sC S 1 = nI B) (hB : B < 1000) : ∃ G', zcal zTT jK_beginMoves [.ref p, .ref q] (zhp G) = some (none, zhp G') ∧ zSO G' p (zBg tg (B - (sM S).length) S) ∧ zFm p G G' := by
  have hpl := zT_le hp
  have hql := zP_le hq
  have hlb : (sM S).length ≤ 8 := by have := h.2.2.2.2.2.2.1.1.2.1; rw [zRl_T7 hp] at this; omega
  have key : ∀ (n i : Nat) (U : zSt) (G1 : Nat → Nat → Int32) (v4 v5 : Value), n = B - i → i < 2000 → zSO G1 p U → zFm p G G1 →
      ∃ G', zEv zTT (zco mK_beginMoves) kK_beginMoves_15 [.ref p, .ref q, .int (nI B), .int (nI i), v4, v5] [] (zhp G1) (.inl none, zhp G') ∧ zSO G' p (zBg tg n U) ∧ zFm p G G' := by
    intro n
    induction n with
    | zero =>
      intro i U G1 v4 v5 hi hi2 hU hF
      refine ⟨G1, ?_, hU, hF⟩
      rw [kK_beginMoves_15]
      simp only [kK_beginMoves_0, kK_beginMoves_34, kK_beginMoves_85, zjK_beginMoves_15, zjK_beginMoves_34, zjK_beginMoves_85, ev_iload, ev_aload, ev_istore, ev_astore, ev_iconst, ev_null, ev_iinc, ev_iadd, ev_isub, ev_imul, ev_iand, ev_ior, ev_ixor, ev_ishl, ev_ishr, ev_iushr, ev_idiv, ev_irem, ev_icmp, ev_if, ev_ifnull, ev_ifnullN, ev_goto, ev_dupi, ev_dupr, ev_dup2, ev_pop, ev_getf, ev_puti, ev_putr, ev_iald, ev_cald, ev_aald, ev_iast, ev_cast, ev_alen, ev_tsw, ev_lsw, ev_max, ev_min, ev_obj, ev_cp, ev_throw, ev_iret, ev_aret, ev_aretN, ev_ret, ev_new, ev_newa, ev_anew, ev_is0, ev_is1, ev_is2, ev_is3, ev_is4, ev_iv1, ev_iv2, ev_iv3, ev_iv4, ev_iv5, ev_ip1, ev_ip2, zlg_0, zls_0, zlg_1, zls_1, zlg_2, zls_2, zlg_3, zls_3, zlg_4, zls_4, zlg_5, zls_5, zlg_6, zls_6, zlg_7, zls_7, zlg_8, zls_8, zlg_9, zls_9, zlg_10, zls_10, zlg_11, zls_11, ev_jif, zLI_i, zLR_r, zOV_s, List.length_cons, List.length_nil, zcd, decide_eq_true_eq, true_and, and_true, Option.toList_some, Option.toList_none, List.cons_append, List.nil_append, zrf, if_true, if_false, true_or, or_true, false_or, or_false, and_self, zwr_w, zG_hp, Nat.reduceAdd, Nat.reduceLT, Nat.reduceLeDiff, Nat.zero_le, reduceIte, not_true_eq_false, not_false_eq_true, Prod.mk.injEq, Sum.inl.injEq, Option.some.injEq, Value.int.injEq, Value.ref.injEq, zsw, ev_jif, zB01, Bool.false_eq_true, one_ne, zero_eqone, nI_1, zle_t (s := i) (n := B) (by omega) (by omega), zlt_f (s := i) (n := B) (by omega) (by omega)]
    | succ n ih =>
      intro i U G1 v4 v5 hi hi2 hU hF
      have hlt : i < B := by omega
      have htU : zAg 32 (G1 (q + 5)) tg := by rw [hF (q + 5) (by omega)]; exact ht
      have hb := K_bestCandidate hp hq hU htU
      rw [zBg]
      rcases zBes_or tg U 32 (Nat.le_refl _) with h1 | ⟨s, hs, h1⟩
      · rw [h1] at hb
        refine ⟨G1, ?_, by rw [if_pos h1]; exact hU, hF⟩
        rw [kK_beginMoves_15]
        simp only [kK_beginMoves_0, kK_beginMoves_34, kK_beginMoves_85, zjK_beginMoves_15, zjK_beginMoves_34, zjK_beginMoves_85, ev_iload, ev_aload, ev_istore, ev_astore, ev_iconst, ev_null, ev_iinc, ev_iadd, ev_isub, ev_imul, ev_iand, ev_ior, ev_ixor, ev_ishl, ev_ishr, ev_iushr, ev_idiv, ev_irem, ev_icmp, ev_if, ev_ifnull, ev_ifnullN, ev_goto, ev_dupi, ev_dupr, ev_dup2, ev_pop, ev_getf, ev_puti, ev_putr, ev_iald, ev_cald, ev_aald, ev_iast, ev_cast, ev_alen, ev_tsw, ev_lsw, ev_max, ev_min, ev_obj, ev_cp, ev_throw, ev_iret, ev_aret, ev_aretN, ev_ret, ev_new, ev_newa, ev_anew, ev_is0, ev_is1, ev_is2, ev_is3, ev_is4, ev_iv1, ev_iv2, ev_iv3, ev_iv4, ev_iv5, ev_ip1, ev_ip2, zlg_0, zls_0, zlg_1, zls_1, zlg_2, zls_2, zlg_3, zls_3, zlg_4, zls_4, zlg_5, zls_5, zlg_6, zls_6, zlg_7, zls_7, zlg_8, zls_8, zlg_9, zls_9, zlg_10, zls_10, zlg_11, zls_11, ev_jif, zLI_i, zLR_r, zOV_s, List.length_cons, List.length_nil, zcd, decide_eq_true_eq, true_and, and_true, Option.toList_some, Option.toList_none, List.cons_append, List.nil_append, zrf, if_true, if_false, true_or, or_true, false_or, or_false, and_self, zwr_w, zG_hp, Nat.reduceAdd, Nat.reduceLT, Nat.reduceLeDiff, Nat.zero_le, reduceIte, not_true_eq_false, not_false_eq_true, Prod.mk.injEq, Sum.inl.injEq, Option.some.injEq, Value.int.injEq, Value.ref.injEq, zsw, ev_jif, zB01, Bool.false_eq_true, one_ne, zero_eqone, nI_1, zle_f (s := i) (n := B) (by omega) (by omega), zlt_t (s := i) (n := B) (by omega) (by omega), hb]
      · rw [h1] at hb
        obtain ⟨G2, s2, f2, g2⟩ := K_begin0 hp hq htU hU hlt hB v4 v5 hs hb
        obtain ⟨G', g3, g4, g5⟩ := ih (i + 1) (zBeg tg U s) G2 (.int (nI s)) (.int (tg s)) (by omega) (by omega) s2 (hF.tr f2)
        refine ⟨G', g2 _ g3, ?_, g5⟩
        rw [if_neg (by rw [h1, zeq_m1 (by omega)]; exact id), h1, zcl_n (by omega)]
        exact g4
  obtain ⟨G', g1, g2⟩ := key (B - (sM S).length) (sM S).length S G zU zU rfl (by omega) h zFm.rf
  refine ⟨G', ?_, g2⟩
  have c1 : G (p + 5) 1 = nI B := (h.2.2.2.2.1 1 (by omega)).trans hC
  refine zgo zMt_K_beginMoves (show zEv zTT (zco mK_beginMoves) kK_beginMoves_0 [.ref p, .ref q, zU, zU, zU, zU] [] _ _ from ?_)
  simp only [kK_beginMoves_0, kK_beginMoves_34, kK_beginMoves_85, zjK_beginMoves_15, zjK_beginMoves_34, zjK_beginMoves_85, ev_iload, ev_aload, ev_istore, ev_astore, ev_iconst, ev_null, ev_iinc, ev_iadd, ev_isub, ev_imul, ev_iand, ev_ior, ev_ixor, ev_ishl, ev_ishr, ev_iushr, ev_idiv, ev_irem, ev_icmp, ev_if, ev_ifnull, ev_ifnullN, ev_goto, ev_dupi, ev_dupr, ev_dup2, ev_pop, ev_getf, ev_puti, ev_putr, ev_iald, ev_cald, ev_aald, ev_iast, ev_cast, ev_alen, ev_tsw, ev_lsw, ev_max, ev_min, ev_obj, ev_cp, ev_throw, ev_iret, ev_aret, ev_aretN, ev_ret, ev_new, ev_newa, ev_anew, ev_is0, ev_is1, ev_is2, ev_is3, ev_is4, ev_iv1, ev_iv2, ev_iv3, ev_iv4, ev_iv5, ev_ip1, ev_ip2, zlg_0, zls_0, zlg_1, zls_1, zlg_2, zls_2, zlg_3, zls_3, zlg_4, zls_4, zlg_5, zls_5, zlg_6, zls_6, zlg_7, zls_7, zlg_8, zls_8, zlg_9, zls_9, zlg_10, zls_10, zlg_11, zls_11, ev_jif, zLI_i, zLR_r, zOV_s, List.length_cons, List.length_nil, zcd, decide_eq_true_eq, true_and, and_true, Option.toList_some, Option.toList_none, List.cons_append, List.nil_append, zrf, if_true, if_false, true_or, or_true, false_or, or_false, and_self, zwr_w, zG_hp, Nat.reduceAdd, Nat.reduceLT, Nat.reduceLeDiff, Nat.zero_le, reduceIte, not_true_eq_false, not_false_eq_true, Prod.mk.injEq, Sum.inl.injEq, Option.some.injEq, Value.int.injEq, Value.ref.injEq, zsw, ev_jif, zB01, Bool.false_eq_true, one_ne, zero_eqone, nI_1, gT0_0, gT0_1, gT0_2, gT0_3, gT0_4, gT0_5, gT0_6, gT0_7, oT0, aT1, aT2, aT3, aT4, aT5, aT6, gT7_0, pgT7_0, gT7_1, gT7_2, pgT7_2, oT7, aT8, gT9_0, pgT9_0, gT9_1, gT9_2, pgT9_2, oT9, aT10, gP0_0, gP0_1, gP0_2, gP0_3, gP0_4, gP0_5, gP0_6, gP0_7, pgP0_7, gP0_8, pgP0_8, oP0, aP1, aP2, aP3, aP4, aP5, aP6, gR0_0, pgR0_0, gR0_1, gR0_2, pgR0_2, oR0, aR1, g0_0, g0_1, g0_2, g0_3, g0_4, g0_5, g0_6, g0_7, pg0_7, g0_8, pg0_8, o0, g34_0, g34_1, pg34_1, g34_2, pg34_2, o34, g102_0, g102_1, pg102_1, g102_2, pg102_2, g102_3, g102_4, g102_5, g102_6, pg102_6, o102, g122_0, g122_1, g122_2, g122_3, pg122_3, g122_4, g122_5, pg122_5, g122_6, pg122_6, g122_7, g122_8, g122_9, pg122_9, g122_10, g122_11, g122_12, g122_13, g122_14, g122_15, g122_16, g122_17, g122_18, pg122_18, g122_19, g122_20, pg122_20, g122_21, pg122_21, g122_22, pg122_22, g122_23, o122, a103, a104, a105, a106, a107, a123, a124, a125, a126, a127, a128, a129, a130, a131, a132, a133, a134, a135, a136, a137, a138, q35, zisT_1, zisT_12, zisT_23, zisT_36, zisT_47, zisT_58, zisT_69, zisT_80, zisT_91, zisP_108, zisP_115, zisR_8, zisR_10, zisR_19, zisR_21, zisR_30, zisR_32, zisR_43, zisR_45, zisR_54, zisR_56, zisR_65, zisR_67, zisR_76, zisR_78, zisR_87, zisR_89, zisR_98, zisR_100, hp, zisR_T7 hp, h.2.2.2.2.2.2.1.1.1, zi13, zcl1, c1]
  exact g1
/-- an empty draining node leaves -/
def zDm (n : Nat) (S : zSt) : zSt := if sN S n = nI 2 ∧ zct (fun s => decide (sO S s = nI n)) 32 = 0 then zNote (uW (uN S (upd (sN S) n 0)) (upd (sW S) n 0)) (nI 4) (-1) (nI n) else S
theorem T_ownedShardsS (hp : zisT p = true) (h : zSO G p S) (x : Int32) : zcal zTT jT_ownedShards [.ref p, .int x] (zhp G) = some (some (.int (nI (zct (fun s => decide (sO S s = x)) 32))), zhp G) := by
  rw [T_ownedShards hp x, zct_cg (fun s hs => by rw [h.2.2.1 s hs])]
theorem T_unservedShardsS (hp : zisT p = true) (h : zSO G p S) : zcal zTT jT_unservedShards [.ref p] (zhp G) = some (some (.int (nI (zct (fun s => !sSer S (nI s)) 32))), zhp G) := by
  rw [T_unservedShards hp, zct_cg (fun s hs => by rw [zSer_S h])]
theorem K_dismissEmptyNodes (hp : zisT p = true) (h : zSO G p S) : ∃ G', zcal zTT jK_dismissEmptyNodes [.ref p] (zhp G) = some (none, zhp G') ∧ zSO G' p (zfd zDm S 8) ∧ zFm p G G' := by
  have key : ∀ n i (U : zSt) (G1 : Nat → Nat → Int32), i + n = 8 → U = zfd zDm S i → zSO G1 p U → zFm p G G1 → ∃ G', zEv zTT (zco mK_dismissEmptyNodes) kK_dismissEmptyNodes_2 [.ref p, .int (nI i)] [] (zhp G1) (.inl none, zhp G') ∧ zSO G' p (zfd zDm S 8) ∧ zFm p G G' := by
    intro n
    induction n with
    | zero =>
      intro i U G1 hi hU h1 hF
      have hi : i = 8 := by omega
      subst hi
      refine ⟨G1, ?_, hU ▸ h1, hF⟩
      rw [kK_dismissEmptyNodes_2]
      simp only [kK_dismissEmptyNodes_0, kK_dismissEmptyNodes_37, kK_dismissEmptyNodes_43, zjK_dismissEmptyNodes_2, zjK_dismissEmptyNodes_37, zjK_dismissEmptyNodes_43, ev_iload, ev_aload, ev_istore, ev_astore, ev_iconst, ev_null, ev_iinc, ev_iadd, ev_isub, ev_imul, ev_iand, ev_ior, ev_ixor, ev_ishl, ev_ishr, ev_iushr, ev_idiv, ev_irem, ev_icmp, ev_if, ev_ifnull, ev_ifnullN, ev_goto, ev_dupi, ev_dupr, ev_dup2, ev_pop, ev_getf, ev_puti, ev_putr, ev_iald, ev_cald, ev_aald, ev_iast, ev_cast, ev_alen, ev_tsw, ev_lsw, ev_max, ev_min, ev_obj, ev_cp, ev_throw, ev_iret, ev_aret, ev_aretN, ev_ret, ev_new, ev_newa, ev_anew, ev_is0, ev_is1, ev_is2, ev_is3, ev_is4, ev_iv1, ev_iv2, ev_iv3, ev_iv4, ev_iv5, ev_ip1, ev_ip2, zlg_0, zls_0, zlg_1, zls_1, zlg_2, zls_2, zlg_3, zls_3, zlg_4, zls_4, zlg_5, zls_5, zlg_6, zls_6, zlg_7, zls_7, zlg_8, zls_8, zlg_9, zls_9, zlg_10, zls_10, zlg_11, zls_11, ev_jif, zLI_i, zLR_r, zOV_s, List.length_cons, List.length_nil, zcd, decide_eq_true_eq, true_and, and_true, Option.toList_some, Option.toList_none, List.cons_append, List.nil_append, zrf, if_true, if_false, true_or, or_true, false_or, or_false, and_self, zwr_w, zG_hp, Nat.reduceAdd, Nat.reduceLT, Nat.reduceLeDiff, Nat.zero_le, reduceIte, not_true_eq_false, not_false_eq_true, Prod.mk.injEq, Sum.inl.injEq, Option.some.injEq, Value.int.injEq, Value.ref.injEq, zsw, ev_jif, zB01, Bool.false_eq_true, one_ne, zero_eqone, nI_1, zle_t (s := 8) (n := 8) (by omega) (by omega), zlt_f (s := 8) (n := 8) (by omega) (by omega)]
    | succ n ih =>
      intro i U G1 hi hU h1 hF
      have hi8 : i < 8 := by omega
      have hst : zfd zDm S (i + 1) = zDm i U := by rw [hU]; rfl
      have hz : zct (fun s => decide (sO U s = nI i)) 32 ≤ 32 := zct_le _ _
      have hov := T_ownedShardsS hp h1 (nI i)
      by_cases h5 : sN U i = nI 2
      · by_cases h6 : zct (fun s => decide (sO U s = nI i)) 32 = 0
        · have e : zDm i U = zNote (uW (uN U (upd (sN U) i 0)) (upd (sW U) i 0)) (nI 4) (-1) (nI i) := by unfold zDm; rw [if_pos ⟨h5, h6⟩]
          rw [h6] at hov
          have s2 := (h1.uN i 0).uW i 0
          obtain ⟨G3, c3, s3, f3⟩ := T_noteS hp s2 (nI 4) (-1) (nI i)
          obtain ⟨G', g1, g2⟩ := ih (i + 1) _ G3 (by omega) (hst.trans e).symm s3 (hF.tr (((zFm.rf.u1 _ _).u2 _ _).tr f3))
          refine ⟨G', ?_, g2⟩
          have e0 : (nI 0 = 0) = True := eq_true rfl
          rw [kK_dismissEmptyNodes_2]
          simp only [kK_dismissEmptyNodes_0, kK_dismissEmptyNodes_37, kK_dismissEmptyNodes_43, zjK_dismissEmptyNodes_2, zjK_dismissEmptyNodes_37, zjK_dismissEmptyNodes_43, ev_iload, ev_aload, ev_istore, ev_astore, ev_iconst, ev_null, ev_iinc, ev_iadd, ev_isub, ev_imul, ev_iand, ev_ior, ev_ixor, ev_ishl, ev_ishr, ev_iushr, ev_idiv, ev_irem, ev_icmp, ev_if, ev_ifnull, ev_ifnullN, ev_goto, ev_dupi, ev_dupr, ev_dup2, ev_pop, ev_getf, ev_puti, ev_putr, ev_iald, ev_cald, ev_aald, ev_iast, ev_cast, ev_alen, ev_tsw, ev_lsw, ev_max, ev_min, ev_obj, ev_cp, ev_throw, ev_iret, ev_aret, ev_aretN, ev_ret, ev_new, ev_newa, ev_anew, ev_is0, ev_is1, ev_is2, ev_is3, ev_is4, ev_iv1, ev_iv2, ev_iv3, ev_iv4, ev_iv5, ev_ip1, ev_ip2, zlg_0, zls_0, zlg_1, zls_1, zlg_2, zls_2, zlg_3, zls_3, zlg_4, zls_4, zlg_5, zls_5, zlg_6, zls_6, zlg_7, zls_7, zlg_8, zls_8, zlg_9, zls_9, zlg_10, zls_10, zlg_11, zls_11, ev_jif, zLI_i, zLR_r, zOV_s, List.length_cons, List.length_nil, zcd, decide_eq_true_eq, true_and, and_true, Option.toList_some, Option.toList_none, List.cons_append, List.nil_append, zrf, if_true, if_false, true_or, or_true, false_or, or_false, and_self, zwr_w, zG_hp, Nat.reduceAdd, Nat.reduceLT, Nat.reduceLeDiff, Nat.zero_le, reduceIte, not_true_eq_false, not_false_eq_true, Prod.mk.injEq, Sum.inl.injEq, Option.some.injEq, Value.int.injEq, Value.ref.injEq, zsw, ev_jif, zB01, Bool.false_eq_true, one_ne, zero_eqone, nI_1, gT0_0, gT0_1, gT0_2, gT0_3, gT0_4, gT0_5, gT0_6, gT0_7, oT0, aT1, aT2, aT3, aT4, aT5, aT6, gT7_0, pgT7_0, gT7_1, gT7_2, pgT7_2, oT7, aT8, gT9_0, pgT9_0, gT9_1, gT9_2, pgT9_2, oT9, aT10, gP0_0, gP0_1, gP0_2, gP0_3, gP0_4, gP0_5, gP0_6, gP0_7, pgP0_7, gP0_8, pgP0_8, oP0, aP1, aP2, aP3, aP4, aP5, aP6, gR0_0, pgR0_0, gR0_1, gR0_2, pgR0_2, oR0, aR1, g0_0, g0_1, g0_2, g0_3, g0_4, g0_5, g0_6, g0_7, pg0_7, g0_8, pg0_8, o0, g34_0, g34_1, pg34_1, g34_2, pg34_2, o34, g102_0, g102_1, pg102_1, g102_2, pg102_2, g102_3, g102_4, g102_5, g102_6, pg102_6, o102, g122_0, g122_1, g122_2, g122_3, pg122_3, g122_4, g122_5, pg122_5, g122_6, pg122_6, g122_7, g122_8, g122_9, pg122_9, g122_10, g122_11, g122_12, g122_13, g122_14, g122_15, g122_16, g122_17, g122_18, pg122_18, g122_19, g122_20, pg122_20, g122_21, pg122_21, g122_22, pg122_22, g122_23, o122, a103, a104, a105, a106, a107, a123, a124, a125, a126, a127, a128, a129, a130, a131, a132, a133, a134, a135, a136, a137, a138, q35, zisT_1, zisT_12, zisT_23, zisT_36, zisT_47, zisT_58, zisT_69, zisT_80, zisT_91, zisP_108, zisP_115, zisR_8, zisR_10, zisR_19, zisR_21, zisR_30, zisR_32, zisR_43, zisR_45, zisR_54, zisR_56, zisR_65, zisR_67, zisR_76, zisR_78, zisR_87, zisR_89, zisR_98, zisR_100, hp, zle_f (s := i) (n := 8) (by omega) (by omega), zlt_t (s := i) (n := 8) (by omega) (by omega), T_stateOf, zSta_S h1, sSta_n hi8, h5, hov, e0, T_leave, zrg_n (j := i) (N := 8) (by omega) hi8, zcl_n (s := i) (by omega), c3]
          exact g1
        · have e : zDm i U = U := by unfold zDm; rw [if_neg (fun hh => h6 hh.2)]
          obtain ⟨G', g1, g2⟩ := ih (i + 1) U G1 (by omega) (by rw [hst, e]) h1 hF
          refine ⟨G', ?_, g2⟩
          rw [kK_dismissEmptyNodes_2]
          simp only [kK_dismissEmptyNodes_0, kK_dismissEmptyNodes_37, kK_dismissEmptyNodes_43, zjK_dismissEmptyNodes_2, zjK_dismissEmptyNodes_37, zjK_dismissEmptyNodes_43, ev_iload, ev_aload, ev_istore, ev_astore, ev_iconst, ev_null, ev_iinc, ev_iadd, ev_isub, ev_imul, ev_iand, ev_ior, ev_ixor, ev_ishl, ev_ishr, ev_iushr, ev_idiv, ev_irem, ev_icmp, ev_if, ev_ifnull, ev_ifnullN, ev_goto, ev_dupi, ev_dupr, ev_dup2, ev_pop, ev_getf, ev_puti, ev_putr, ev_iald, ev_cald, ev_aald, ev_iast, ev_cast, ev_alen, ev_tsw, ev_lsw, ev_max, ev_min, ev_obj, ev_cp, ev_throw, ev_iret, ev_aret, ev_aretN, ev_ret, ev_new, ev_newa, ev_anew, ev_is0, ev_is1, ev_is2, ev_is3, ev_is4, ev_iv1, ev_iv2, ev_iv3, ev_iv4, ev_iv5, ev_ip1, ev_ip2, zlg_0, zls_0, zlg_1, zls_1, zlg_2, zls_2, zlg_3, zls_3, zlg_4, zls_4, zlg_5, zls_5, zlg_6, zls_6, zlg_7, zls_7, zlg_8, zls_8, zlg_9, zls_9, zlg_10, zls_10, zlg_11, zls_11, ev_jif, zLI_i, zLR_r, zOV_s, List.length_cons, List.length_nil, zcd, decide_eq_true_eq, true_and, and_true, Option.toList_some, Option.toList_none, List.cons_append, List.nil_append, zrf, if_true, if_false, true_or, or_true, false_or, or_false, and_self, zwr_w, zG_hp, Nat.reduceAdd, Nat.reduceLT, Nat.reduceLeDiff, Nat.zero_le, reduceIte, not_true_eq_false, not_false_eq_true, Prod.mk.injEq, Sum.inl.injEq, Option.some.injEq, Value.int.injEq, Value.ref.injEq, zsw, ev_jif, zB01, Bool.false_eq_true, one_ne, zero_eqone, nI_1, gT0_0, gT0_1, gT0_2, gT0_3, gT0_4, gT0_5, gT0_6, gT0_7, oT0, aT1, aT2, aT3, aT4, aT5, aT6, gT7_0, pgT7_0, gT7_1, gT7_2, pgT7_2, oT7, aT8, gT9_0, pgT9_0, gT9_1, gT9_2, pgT9_2, oT9, aT10, gP0_0, gP0_1, gP0_2, gP0_3, gP0_4, gP0_5, gP0_6, gP0_7, pgP0_7, gP0_8, pgP0_8, oP0, aP1, aP2, aP3, aP4, aP5, aP6, gR0_0, pgR0_0, gR0_1, gR0_2, pgR0_2, oR0, aR1, g0_0, g0_1, g0_2, g0_3, g0_4, g0_5, g0_6, g0_7, pg0_7, g0_8, pg0_8, o0, g34_0, g34_1, pg34_1, g34_2, pg34_2, o34, g102_0, g102_1, pg102_1, g102_2, pg102_2, g102_3, g102_4, g102_5, g102_6, pg102_6, o102, g122_0, g122_1, g122_2, g122_3, pg122_3, g122_4, g122_5, pg122_5, g122_6, pg122_6, g122_7, g122_8, g122_9, pg122_9, g122_10, g122_11, g122_12, g122_13, g122_14, g122_15, g122_16, g122_17, g122_18, pg122_18, g122_19, g122_20, pg122_20, g122_21, pg122_21, g122_22, pg122_22, g122_23, o122, a103, a104, a105, a106, a107, a123, a124, a125, a126, a127, a128, a129, a130, a131, a132, a133, a134, a135, a136, a137, a138, q35, zisT_1, zisT_12, zisT_23, zisT_36, zisT_47, zisT_58, zisT_69, zisT_80, zisT_91, zisP_108, zisP_115, zisR_8, zisR_10, zisR_19, zisR_21, zisR_30, zisR_32, zisR_43, zisR_45, zisR_54, zisR_56, zisR_65, zisR_67, zisR_76, zisR_78, zisR_87, zisR_89, zisR_98, zisR_100, hp, zle_f (s := i) (n := 8) (by omega) (by omega), zlt_t (s := i) (n := 8) (by omega) (by omega), T_stateOf, zSta_S h1, sSta_n hi8, h5, hov, zeq_0 (c := zct (fun s => decide (sO U s = nI i)) 32) (by omega), h6]
          exact g1
      · have e : zDm i U = U := by unfold zDm; rw [if_neg (fun hh => h5 hh.1)]
        obtain ⟨G', g1, g2⟩ := ih (i + 1) U G1 (by omega) (by rw [hst, e]) h1 hF
        refine ⟨G', ?_, g2⟩
        rw [kK_dismissEmptyNodes_2]
        simp only [kK_dismissEmptyNodes_0, kK_dismissEmptyNodes_37, kK_dismissEmptyNodes_43, zjK_dismissEmptyNodes_2, zjK_dismissEmptyNodes_37, zjK_dismissEmptyNodes_43, ev_iload, ev_aload, ev_istore, ev_astore, ev_iconst, ev_null, ev_iinc, ev_iadd, ev_isub, ev_imul, ev_iand, ev_ior, ev_ixor, ev_ishl, ev_ishr, ev_iushr, ev_idiv, ev_irem, ev_icmp, ev_if, ev_ifnull, ev_ifnullN, ev_goto, ev_dupi, ev_dupr, ev_dup2, ev_pop, ev_getf, ev_puti, ev_putr, ev_iald, ev_cald, ev_aald, ev_iast, ev_cast, ev_alen, ev_tsw, ev_lsw, ev_max, ev_min, ev_obj, ev_cp, ev_throw, ev_iret, ev_aret, ev_aretN, ev_ret, ev_new, ev_newa, ev_anew, ev_is0, ev_is1, ev_is2, ev_is3, ev_is4, ev_iv1, ev_iv2, ev_iv3, ev_iv4, ev_iv5, ev_ip1, ev_ip2, zlg_0, zls_0, zlg_1, zls_1, zlg_2, zls_2, zlg_3, zls_3, zlg_4, zls_4, zlg_5, zls_5, zlg_6, zls_6, zlg_7, zls_7, zlg_8, zls_8, zlg_9, zls_9, zlg_10, zls_10, zlg_11, zls_11, ev_jif, zLI_i, zLR_r, zOV_s, List.length_cons, List.length_nil, zcd, decide_eq_true_eq, true_and, and_true, Option.toList_some, Option.toList_none, List.cons_append, List.nil_append, zrf, if_true, if_false, true_or, or_true, false_or, or_false, and_self, zwr_w, zG_hp, Nat.reduceAdd, Nat.reduceLT, Nat.reduceLeDiff, Nat.zero_le, reduceIte, not_true_eq_false, not_false_eq_true, Prod.mk.injEq, Sum.inl.injEq, Option.some.injEq, Value.int.injEq, Value.ref.injEq, zsw, ev_jif, zB01, Bool.false_eq_true, one_ne, zero_eqone, nI_1, gT0_0, gT0_1, gT0_2, gT0_3, gT0_4, gT0_5, gT0_6, gT0_7, oT0, aT1, aT2, aT3, aT4, aT5, aT6, gT7_0, pgT7_0, gT7_1, gT7_2, pgT7_2, oT7, aT8, gT9_0, pgT9_0, gT9_1, gT9_2, pgT9_2, oT9, aT10, gP0_0, gP0_1, gP0_2, gP0_3, gP0_4, gP0_5, gP0_6, gP0_7, pgP0_7, gP0_8, pgP0_8, oP0, aP1, aP2, aP3, aP4, aP5, aP6, gR0_0, pgR0_0, gR0_1, gR0_2, pgR0_2, oR0, aR1, g0_0, g0_1, g0_2, g0_3, g0_4, g0_5, g0_6, g0_7, pg0_7, g0_8, pg0_8, o0, g34_0, g34_1, pg34_1, g34_2, pg34_2, o34, g102_0, g102_1, pg102_1, g102_2, pg102_2, g102_3, g102_4, g102_5, g102_6, pg102_6, o102, g122_0, g122_1, g122_2, g122_3, pg122_3, g122_4, g122_5, pg122_5, g122_6, pg122_6, g122_7, g122_8, g122_9, pg122_9, g122_10, g122_11, g122_12, g122_13, g122_14, g122_15, g122_16, g122_17, g122_18, pg122_18, g122_19, g122_20, pg122_20, g122_21, pg122_21, g122_22, pg122_22, g122_23, o122, a103, a104, a105, a106, a107, a123, a124, a125, a126, a127, a128, a129, a130, a131, a132, a133, a134, a135, a136, a137, a138, q35, zisT_1, zisT_12, zisT_23, zisT_36, zisT_47, zisT_58, zisT_69, zisT_80, zisT_91, zisP_108, zisP_115, zisR_8, zisR_10, zisR_19, zisR_21, zisR_30, zisR_32, zisR_43, zisR_45, zisR_54, zisR_56, zisR_65, zisR_67, zisR_76, zisR_78, zisR_87, zisR_89, zisR_98, zisR_100, hp, zle_f (s := i) (n := 8) (by omega) (by omega), zlt_t (s := i) (n := 8) (by omega) (by omega), T_stateOf, zSta_S h1, sSta_n hi8, h5]
        exact g1
  obtain ⟨G', g1, g2⟩ := key 8 0 S G rfl rfl h zFm.rf
  refine ⟨G', ?_, g2⟩
  refine zgo zMt_K_dismissEmptyNodes (show zEv zTT (zco mK_dismissEmptyNodes) kK_dismissEmptyNodes_0 [.ref p, zU] [] _ _ from ?_)
  simp only [kK_dismissEmptyNodes_0, kK_dismissEmptyNodes_37, kK_dismissEmptyNodes_43, zjK_dismissEmptyNodes_2, zjK_dismissEmptyNodes_37, zjK_dismissEmptyNodes_43, ev_iload, ev_aload, ev_istore, ev_astore, ev_iconst, ev_null, ev_iinc, ev_iadd, ev_isub, ev_imul, ev_iand, ev_ior, ev_ixor, ev_ishl, ev_ishr, ev_iushr, ev_idiv, ev_irem, ev_icmp, ev_if, ev_ifnull, ev_ifnullN, ev_goto, ev_dupi, ev_dupr, ev_dup2, ev_pop, ev_getf, ev_puti, ev_putr, ev_iald, ev_cald, ev_aald, ev_iast, ev_cast, ev_alen, ev_tsw, ev_lsw, ev_max, ev_min, ev_obj, ev_cp, ev_throw, ev_iret, ev_aret, ev_aretN, ev_ret, ev_new, ev_newa, ev_anew, ev_is0, ev_is1, ev_is2, ev_is3, ev_is4, ev_iv1, ev_iv2, ev_iv3, ev_iv4, ev_iv5, ev_ip1, ev_ip2, zlg_0, zls_0, zlg_1, zls_1, zlg_2, zls_2, zlg_3, zls_3, zlg_4, zls_4, zlg_5, zls_5, zlg_6, zls_6, zlg_7, zls_7, zlg_8, zls_8, zlg_9, zls_9, zlg_10, zls_10, zlg_11, zls_11, ev_jif, zLI_i, zLR_r, zOV_s, List.length_cons, List.length_nil, zcd, decide_eq_true_eq, true_and, and_true, Option.toList_some, Option.toList_none, List.cons_append, List.nil_append, zrf, if_true, if_false, true_or, or_true, false_or, or_false, and_self, zwr_w, zG_hp, Nat.reduceAdd, Nat.reduceLT, Nat.reduceLeDiff, Nat.zero_le, reduceIte, not_true_eq_false, not_false_eq_true, Prod.mk.injEq, Sum.inl.injEq, Option.some.injEq, Value.int.injEq, Value.ref.injEq, zsw, ev_jif, zB01, Bool.false_eq_true, one_ne, zero_eqone, nI_1]
  exact g1
/-- what stays through a tick -/
def zIv (B : Nat) (S : zSt) : Prop := (∀ m, m ∈ sM S → zrg 32 m.1 = true) ∧ sC S 1 = nI B
theorem zLs_iv {B : Nat} {s : Nat} (h : zIv B S) : zIv B (zLs s S) := by
  unfold zLs
  split
  · exact h
  · split
    · exact h
    · exact h
theorem zfd_iv {σ : Type} {P : σ → Prop} {f : Nat → σ → σ} (hf : ∀ i s, P s → P (f i s)) {s : σ} (h : P s) : ∀ n, P (zfd f s n)
  | 0 => h
  | n + 1 => hf n _ (zfd_iv hf h n)
theorem zAd_iv {B : Nat} (tg : Nat → Int32) : ∀ (ms : List zMv) (i : Nat) (S : zSt), (∀ m, m ∈ ms → zrg 32 m.1 = true) → zIv B S → zIv B (zAd tg ms i S)
  | [], _, _, _, h => h
  | m :: ms, i, S, hm, h => by
    have hm' : ∀ m', m' ∈ ms → zrg 32 m'.1 = true := fun m' h' => hm m' (List.mem_cons_of_mem _ h')
    have h1 := hm m List.mem_cons_self
    rw [zAd]
    split
    · exact zAd_iv tg ms i _ hm' ⟨fun x hx => h.1 x (List.mem_of_mem_eraseIdx hx), h.2⟩
    · split
      · exact zAd_iv tg ms i _ hm' ⟨fun x hx => h.1 x (List.mem_of_mem_eraseIdx hx), h.2⟩
      · refine zAd_iv tg ms (i + 1) _ hm' ⟨fun x hx => ?_, h.2⟩
        rcases List.mem_or_eq_of_mem_set hx with h2 | h2
        · exact h.1 x h2
        · rw [h2]; exact h1
theorem zapp_mem {L : Nat} {l : List zMv} {x m : zMv} (h : m ∈ zapp L l x) : m ∈ l ∨ m = x := by
  unfold zapp at h
  split at h
  · simpa using h
  · rcases List.mem_append.mp h with h | h
    · exact Or.inl (List.mem_of_mem_drop h)
    · exact Or.inr (by simpa using h)
theorem zBg_iv {B : Nat} (tg : Nat → Int32) : ∀ (n : Nat) (S : zSt), zIv B S → zIv B (zBg tg n S)
  | 0, _, h => h
  | n + 1, S, h => by
    rw [zBg]
    rcases zBes_or tg S 32 (Nat.le_refl _) with h1 | ⟨s, hs, h1⟩
    · rw [if_pos h1]; exact h
    · rw [if_neg (by rw [h1, zeq_m1 (by omega)]; exact id), h1, zcl_n (by omega)]
      refine zBg_iv tg n _ ⟨fun m hm => ?_, h.2⟩
      rcases zapp_mem hm with h2 | h2
      · exact h.1 m h2
      · rw [h2]; exact zrg_n (by omega) hs
theorem zDm_iv {B : Nat} {s : Nat} (h : zIv B S) : zIv B (zDm s S) := by
  unfold zDm
  split
  · exact h
  · exact h
/-- a tick, in its steps -/
def zTa (S : zSt) : zSt := zfd zLs (uT S (upd (sT S) 0 (sT S 0 + 1))) 32
def zTb (tg : Nat → Int32) (S : zSt) : zSt := zAd tg (sM (zTa S)) 0 (zTa S)
def zTc (tg : Nat → Int32) (B : Nat) (S : zSt) : zSt := zBg tg (B - (sM (zTb tg S)).length) (zTb tg S)
def zTd (tg : Nat → Int32) (B : Nat) (S : zSt) : zSt := zfd zDm (zTc tg B S) 8
def zTk (tg : Nat → Int32) (B : Nat) (S : zSt) : zSt := uT (zTd tg B S) (upd (sT (zTd tg B S)) 5 (sT (zTd tg B S) 5 + nI (zct (fun s => !sSer (zTd tg B S) (nI s)) 32)))
theorem zTk_iv {B : Nat} {tg : Nat → Int32} (h : zIv B S) : zIv B (zTa S) ∧ zIv B (zTb tg S) ∧ zIv B (zTc tg B S) ∧ zIv B (zTk tg B S) := by
  have h1 : zIv B (zTa S) := zfd_iv (P := zIv B) (fun i s hs => zLs_iv hs) (show zIv B (uT S (upd (sT S) 0 (sT S 0 + 1))) from h) 32
  have h2 : zIv B (zTb tg S) := zAd_iv tg _ 0 _ h1.1 h1
  have h3 : zIv B (zTc tg B S) := zBg_iv tg _ _ h2
  have h4 : zIv B (zTd tg B S) := zfd_iv (P := zIv B) (fun i s hs => zDm_iv hs) h3 8
  refine ⟨h1, h2, h3, ?_⟩
  unfold zTk
  generalize zTd tg B S = D at h4 ⊢
  exact h4
theorem K_tick0 (hp : zisT p = true) (hq : zisP q = true) {B : Nat} {tg : Nat → Int32} (ht : zAg 32 (G (q + 5)) tg) (h : zSO G p S) (hI : zIv B S) (hB : B < 1000) {i N : Nat} (hi : i < N) (hN : N < 1000) : ∃ G2, zSO G2 p (zTk tg B S) ∧ zFm p G G2 ∧ ∀ y, zEv zTT (zco mK_makeTicks) kK_makeTicks_2 [.ref p, .ref q, .int (nI N), .int (nI (i + 1))] [] (zhp G2) y → zEv zTT (zco mK_makeTicks) kK_makeTicks_2 [.ref p, .ref q, .int (nI N), .int (nI i)] [] (zhp G) y := by
  have hpl := zT_le hp
  have hql := zP_le hq
  obtain ⟨I1, I2, I3, -⟩ := zTk_iv (tg := tg) hI
  have t0 : G (p + 6) 0 = sT S 0 := h.2.2.2.2.2.1 0 (by omega)
  obtain ⟨G1, c1, s1, f1⟩ := K_attendToLeases hp (h.uT 0 (sT S 0 + 1))
  have F1 := (zFm.rf (p := p) (G := G).u6 0 (sT S 0 + 1)).tr f1
  obtain ⟨G2, c2, s2, f2⟩ := K_advanceMoves hp hq (tg := tg) (by rw [F1 (q + 5) (by omega)]; exact ht) (S := zTa S) s1 I1.1
  have F2 := F1.tr f2
  obtain ⟨G3, c3, s3, f3⟩ := K_beginMoves hp hq (tg := tg) (by rw [F2 (q + 5) (by omega)]; exact ht) (S := zTb tg S) s2 I2.2 hB
  have F3 := F2.tr f3
  obtain ⟨G4, c4, s4, f4⟩ := K_dismissEmptyNodes hp (S := zTc tg B S) s3
  have F4 := F3.tr f4
  have s4' : zSO G4 p (zTd tg B S) := s4
  have c5 := T_unservedShardsS hp s4'
  have t5 : G4 (p + 6) 5 = sT (zTd tg B S) 5 := s4'.2.2.2.2.2.1 5 (by omega)
  refine ⟨_, s4'.uT 5 (sT (zTd tg B S) 5 + nI (zct (fun s => !sSer (zTd tg B S) (nI s)) 32)), F4.u6 _ _, fun y hy => ?_⟩
  rw [kK_makeTicks_2]
  simp only [kK_makeTicks_0, kK_makeTicks_54, zjK_makeTicks_2, zjK_makeTicks_54, ev_iload, ev_aload, ev_istore, ev_astore, ev_iconst, ev_null, ev_iinc, ev_iadd, ev_isub, ev_imul, ev_iand, ev_ior, ev_ixor, ev_ishl, ev_ishr, ev_iushr, ev_idiv, ev_irem, ev_icmp, ev_if, ev_ifnull, ev_ifnullN, ev_goto, ev_dupi, ev_dupr, ev_dup2, ev_pop, ev_getf, ev_puti, ev_putr, ev_iald, ev_cald, ev_aald, ev_iast, ev_cast, ev_alen, ev_tsw, ev_lsw, ev_max, ev_min, ev_obj, ev_cp, ev_throw, ev_iret, ev_aret, ev_aretN, ev_ret, ev_new, ev_newa, ev_anew, ev_is0, ev_is1, ev_is2, ev_is3, ev_is4, ev_iv1, ev_iv2, ev_iv3, ev_iv4, ev_iv5, ev_ip1, ev_ip2, zlg_0, zls_0, zlg_1, zls_1, zlg_2, zls_2, zlg_3, zls_3, zlg_4, zls_4, zlg_5, zls_5, zlg_6, zls_6, zlg_7, zls_7, zlg_8, zls_8, zlg_9, zls_9, zlg_10, zls_10, zlg_11, zls_11, ev_jif, zLI_i, zLR_r, zOV_s, List.length_cons, List.length_nil, zcd, decide_eq_true_eq, true_and, and_true, Option.toList_some, Option.toList_none, List.cons_append, List.nil_append, zrf, if_true, if_false, true_or, or_true, false_or, or_false, and_self, zwr_w, zG_hp, Nat.reduceAdd, Nat.reduceLT, Nat.reduceLeDiff, Nat.zero_le, reduceIte, not_true_eq_false, not_false_eq_true, Prod.mk.injEq, Sum.inl.injEq, Option.some.injEq, Value.int.injEq, Value.ref.injEq, zsw, ev_jif, zB01, Bool.false_eq_true, one_ne, zero_eqone, nI_1, gT0_0, gT0_1, gT0_2, gT0_3, gT0_4, gT0_5, gT0_6, gT0_7, oT0, aT1, aT2, aT3, aT4, aT5, aT6, gT7_0, pgT7_0, gT7_1, gT7_2, pgT7_2, oT7, aT8, gT9_0, pgT9_0, gT9_1, gT9_2, pgT9_2, oT9, aT10, gP0_0, gP0_1, gP0_2, gP0_3, gP0_4, gP0_5, gP0_6, gP0_7, pgP0_7, gP0_8, pgP0_8, oP0, aP1, aP2, aP3, aP4, aP5, aP6, gR0_0, pgR0_0, gR0_1, gR0_2, pgR0_2, oR0, aR1, g0_0, g0_1, g0_2, g0_3, g0_4, g0_5, g0_6, g0_7, pg0_7, g0_8, pg0_8, o0, g34_0, g34_1, pg34_1, g34_2, pg34_2, o34, g102_0, g102_1, pg102_1, g102_2, pg102_2, g102_3, g102_4, g102_5, g102_6, pg102_6, o102, g122_0, g122_1, g122_2, g122_3, pg122_3, g122_4, g122_5, pg122_5, g122_6, pg122_6, g122_7, g122_8, g122_9, pg122_9, g122_10, g122_11, g122_12, g122_13, g122_14, g122_15, g122_16, g122_17, g122_18, pg122_18, g122_19, g122_20, pg122_20, g122_21, pg122_21, g122_22, pg122_22, g122_23, o122, a103, a104, a105, a106, a107, a123, a124, a125, a126, a127, a128, a129, a130, a131, a132, a133, a134, a135, a136, a137, a138, q35, zisT_1, zisT_12, zisT_23, zisT_36, zisT_47, zisT_58, zisT_69, zisT_80, zisT_91, zisP_108, zisP_115, zisR_8, zisR_10, zisR_19, zisR_21, zisR_30, zisR_32, zisR_43, zisR_45, zisR_54, zisR_56, zisR_65, zisR_67, zisR_76, zisR_78, zisR_87, zisR_89, zisR_98, zisR_100, hp, zle_f (s := i) (n := N) (by omega) (by omega), zlt_t (s := i) (n := N) (by omega) (by omega), zi07, zcl0, t0, c1, c2, c3, c4, zi57, zcl5, c5, t5]
  exact hy
theorem K_makeTicks (hp : zisT p = true) (hq : zisP q = true) {B : Nat} {tg : Nat → Int32} (ht : zAg 32 (G (q + 5)) tg) (h : zSO G p S) (hI : zIv B S) (hB : B < 1000) {N : Nat} (hN : N < 1000) : ∃ G', zcal zTT jK_makeTicks [.ref p, .ref q, .int (nI N)] (zhp G) = some (none, zhp G') ∧ zSO G' p (zfd (fun _ => zTk tg B) S N) ∧ zIv B (zfd (fun _ => zTk tg B) S N) ∧ zFm p G G' := by
  have hpl := zT_le hp
  have hql := zP_le hq
  have key : ∀ n i (U : zSt) (G1 : Nat → Nat → Int32), i + n = N → U = zfd (fun _ => zTk tg B) S i → zSO G1 p U → zFm p G G1 → ∃ G', zEv zTT (zco mK_makeTicks) kK_makeTicks_2 [.ref p, .ref q, .int (nI N), .int (nI i)] [] (zhp G1) (.inl none, zhp G') ∧ zSO G' p (zfd (fun _ => zTk tg B) S N) ∧ zFm p G G' := by
    intro n
    induction n with
    | zero =>
      intro i U G1 hi hU h1 hF
      have hi : i = N := by omega
      subst hi
      refine ⟨G1, ?_, hU ▸ h1, hF⟩
      rw [kK_makeTicks_2]
      simp only [kK_makeTicks_0, kK_makeTicks_54, zjK_makeTicks_2, zjK_makeTicks_54, ev_iload, ev_aload, ev_istore, ev_astore, ev_iconst, ev_null, ev_iinc, ev_iadd, ev_isub, ev_imul, ev_iand, ev_ior, ev_ixor, ev_ishl, ev_ishr, ev_iushr, ev_idiv, ev_irem, ev_icmp, ev_if, ev_ifnull, ev_ifnullN, ev_goto, ev_dupi, ev_dupr, ev_dup2, ev_pop, ev_getf, ev_puti, ev_putr, ev_iald, ev_cald, ev_aald, ev_iast, ev_cast, ev_alen, ev_tsw, ev_lsw, ev_max, ev_min, ev_obj, ev_cp, ev_throw, ev_iret, ev_aret, ev_aretN, ev_ret, ev_new, ev_newa, ev_anew, ev_is0, ev_is1, ev_is2, ev_is3, ev_is4, ev_iv1, ev_iv2, ev_iv3, ev_iv4, ev_iv5, ev_ip1, ev_ip2, zlg_0, zls_0, zlg_1, zls_1, zlg_2, zls_2, zlg_3, zls_3, zlg_4, zls_4, zlg_5, zls_5, zlg_6, zls_6, zlg_7, zls_7, zlg_8, zls_8, zlg_9, zls_9, zlg_10, zls_10, zlg_11, zls_11, ev_jif, zLI_i, zLR_r, zOV_s, List.length_cons, List.length_nil, zcd, decide_eq_true_eq, true_and, and_true, Option.toList_some, Option.toList_none, List.cons_append, List.nil_append, zrf, if_true, if_false, true_or, or_true, false_or, or_false, and_self, zwr_w, zG_hp, Nat.reduceAdd, Nat.reduceLT, Nat.reduceLeDiff, Nat.zero_le, reduceIte, not_true_eq_false, not_false_eq_true, Prod.mk.injEq, Sum.inl.injEq, Option.some.injEq, Value.int.injEq, Value.ref.injEq, zsw, ev_jif, zB01, Bool.false_eq_true, one_ne, zero_eqone, nI_1, zle_t (s := i) (n := i) (by omega) (by omega), zlt_f (s := i) (n := i) (by omega) (by omega)]
    | succ n ih =>
      intro i U G1 hi hU h1 hF
      have hIU : zIv B U := hU ▸ zfd_iv (P := zIv B) (fun i s hs => (zTk_iv hs).2.2.2) hI i
      obtain ⟨G2, s2, f2, g2⟩ := K_tick0 hp hq (tg := tg) (by rw [hF (q + 5) (by omega)]; exact ht) h1 hIU hB (i := i) (N := N) (by omega) hN
      obtain ⟨G', g3, g4⟩ := ih (i + 1) (zTk tg B U) G2 (by omega) (by rw [hU]; rfl) s2 (hF.tr f2)
      exact ⟨G', g2 _ g3, g4⟩
  obtain ⟨G', g1, g2, g3⟩ := key N 0 S G (by omega) rfl h zFm.rf
  refine ⟨G', ?_, g2, zfd_iv (P := zIv B) (fun i s hs => (zTk_iv hs).2.2.2) hI N, g3⟩
  refine zgo zMt_K_makeTicks (show zEv zTT (zco mK_makeTicks) kK_makeTicks_0 [.ref p, .ref q, .int (nI N), zU] [] _ _ from ?_)
  simp only [kK_makeTicks_0, kK_makeTicks_54, zjK_makeTicks_2, zjK_makeTicks_54, ev_iload, ev_aload, ev_istore, ev_astore, ev_iconst, ev_null, ev_iinc, ev_iadd, ev_isub, ev_imul, ev_iand, ev_ior, ev_ixor, ev_ishl, ev_ishr, ev_iushr, ev_idiv, ev_irem, ev_icmp, ev_if, ev_ifnull, ev_ifnullN, ev_goto, ev_dupi, ev_dupr, ev_dup2, ev_pop, ev_getf, ev_puti, ev_putr, ev_iald, ev_cald, ev_aald, ev_iast, ev_cast, ev_alen, ev_tsw, ev_lsw, ev_max, ev_min, ev_obj, ev_cp, ev_throw, ev_iret, ev_aret, ev_aretN, ev_ret, ev_new, ev_newa, ev_anew, ev_is0, ev_is1, ev_is2, ev_is3, ev_is4, ev_iv1, ev_iv2, ev_iv3, ev_iv4, ev_iv5, ev_ip1, ev_ip2, zlg_0, zls_0, zlg_1, zls_1, zlg_2, zls_2, zlg_3, zls_3, zlg_4, zls_4, zlg_5, zls_5, zlg_6, zls_6, zlg_7, zls_7, zlg_8, zls_8, zlg_9, zls_9, zlg_10, zls_10, zlg_11, zls_11, ev_jif, zLI_i, zLR_r, zOV_s, List.length_cons, List.length_nil, zcd, decide_eq_true_eq, true_and, and_true, Option.toList_some, Option.toList_none, List.cons_append, List.nil_append, zrf, if_true, if_false, true_or, or_true, false_or, or_false, and_self, zwr_w, zG_hp, Nat.reduceAdd, Nat.reduceLT, Nat.reduceLeDiff, Nat.zero_le, reduceIte, not_true_eq_false, not_false_eq_true, Prod.mk.injEq, Sum.inl.injEq, Option.some.injEq, Value.int.injEq, Value.ref.injEq, zsw, ev_jif, zB01, Bool.false_eq_true, one_ne, zero_eqone, nI_1]
  exact g1
/-- how many are misplaced; the ticks until none is -/
def zMis (tg : Nat → Int32) (S : zSt) : Nat := zct (fun s => decide (sO S s = -1) || decide (¬ sO S s = tg s)) 32
def zUnt (tg : Nat → Int32) (B : Nat) : Nat → Nat → zSt → Int32 × zSt
  | 0, _, S => (-1, S)
  | n + 1, t, S => if zMis tg (zTk tg B S) = 0 then (nI t, zTk tg B S) else zUnt tg B n (t + 1) (zTk tg B S)
theorem P_misplacedS (hp : zisT p = true) (hq : zisP q = true) {tg : Nat → Int32} (ht : zAg 32 (G (q + 5)) tg) (h : zSO G p S) : zcal zTT jP_misplacedShards [.ref q, .ref p] (zhp G) = some (some (.int (nI (zMis tg S))), zhp G) := by
  rw [P_misplacedShards hq hp]
  unfold zMis
  rw [zct_cg (fun s hs => by rw [h.2.2.1 s hs, ht s hs])]
theorem zMis_le (tg : Nat → Int32) (S : zSt) : zMis tg S ≤ 32 := zct_le _ _
theorem K_ticksUntilNoneIsMisplaced (hp : zisT p = true) (hq : zisP q = true) {B : Nat} {tg : Nat → Int32} (ht : zAg 32 (G (q + 5)) tg) (h : zSO G p S) (hI : zIv B S) (hB : B < 1000) : ∃ G', zcal zTT jK_ticksUntilNoneIsMisplaced [.ref p, .ref q] (zhp G) = some (some (.int (if zMis tg S = 0 then (0, S) else zUnt tg B 300 1 S).1), zhp G') ∧ zSO G' p (if zMis tg S = 0 then (0, S) else zUnt tg B 300 1 S).2 ∧ zFm p G G' := by
  have hpl := zT_le hp
  have hql := zP_le hq
  have key : ∀ n i (U : zSt) (G1 : Nat → Nat → Int32), i + n = 301 → zIv B U → zSO G1 p U → zFm p G G1 → ∃ G', zEv zTT (zco mK_ticksUntilNoneIsMisplaced) kK_ticksUntilNoneIsMisplaced_12 [.ref p, .ref q, .int (nI i)] [] (zhp G1) (.inl (some (.int (zUnt tg B n i U).1)), zhp G') ∧ zSO G' p (zUnt tg B n i U).2 ∧ zFm p G G' := by
    intro n
    induction n with
    | zero =>
      intro i U G1 hi hU h1 hF
      have hi : i = 301 := by omega
      subst hi
      refine ⟨G1, ?_, h1, hF⟩
      rw [kK_ticksUntilNoneIsMisplaced_12]
      have e : (nI 300 < nI 301) = True := zlt_t (s := 300) (n := 301) (by omega) (by omega)
      simp only [kK_ticksUntilNoneIsMisplaced_0, kK_ticksUntilNoneIsMisplaced_10, kK_ticksUntilNoneIsMisplaced_35, kK_ticksUntilNoneIsMisplaced_41, zjK_ticksUntilNoneIsMisplaced_10, zjK_ticksUntilNoneIsMisplaced_12, zjK_ticksUntilNoneIsMisplaced_35, zjK_ticksUntilNoneIsMisplaced_41, ev_iload, ev_aload, ev_istore, ev_astore, ev_iconst, ev_null, ev_iinc, ev_iadd, ev_isub, ev_imul, ev_iand, ev_ior, ev_ixor, ev_ishl, ev_ishr, ev_iushr, ev_idiv, ev_irem, ev_icmp, ev_if, ev_ifnull, ev_ifnullN, ev_goto, ev_dupi, ev_dupr, ev_dup2, ev_pop, ev_getf, ev_puti, ev_putr, ev_iald, ev_cald, ev_aald, ev_iast, ev_cast, ev_alen, ev_tsw, ev_lsw, ev_max, ev_min, ev_obj, ev_cp, ev_throw, ev_iret, ev_aret, ev_aretN, ev_ret, ev_new, ev_newa, ev_anew, ev_is0, ev_is1, ev_is2, ev_is3, ev_is4, ev_iv1, ev_iv2, ev_iv3, ev_iv4, ev_iv5, ev_ip1, ev_ip2, zlg_0, zls_0, zlg_1, zls_1, zlg_2, zls_2, zlg_3, zls_3, zlg_4, zls_4, zlg_5, zls_5, zlg_6, zls_6, zlg_7, zls_7, zlg_8, zls_8, zlg_9, zls_9, zlg_10, zls_10, zlg_11, zls_11, ev_jif, zLI_i, zLR_r, zOV_s, List.length_cons, List.length_nil, zcd, decide_eq_true_eq, true_and, and_true, Option.toList_some, Option.toList_none, List.cons_append, List.nil_append, zrf, if_true, if_false, true_or, or_true, false_or, or_false, and_self, zwr_w, zG_hp, Nat.reduceAdd, Nat.reduceLT, Nat.reduceLeDiff, Nat.zero_le, reduceIte, not_true_eq_false, not_false_eq_true, Prod.mk.injEq, Sum.inl.injEq, Option.some.injEq, Value.int.injEq, Value.ref.injEq, zsw, ev_jif, zB01, Bool.false_eq_true, one_ne, zero_eqone, nI_1, gT0_0, gT0_1, gT0_2, gT0_3, gT0_4, gT0_5, gT0_6, gT0_7, oT0, aT1, aT2, aT3, aT4, aT5, aT6, gT7_0, pgT7_0, gT7_1, gT7_2, pgT7_2, oT7, aT8, gT9_0, pgT9_0, gT9_1, gT9_2, pgT9_2, oT9, aT10, gP0_0, gP0_1, gP0_2, gP0_3, gP0_4, gP0_5, gP0_6, gP0_7, pgP0_7, gP0_8, pgP0_8, oP0, aP1, aP2, aP3, aP4, aP5, aP6, gR0_0, pgR0_0, gR0_1, gR0_2, pgR0_2, oR0, aR1, g0_0, g0_1, g0_2, g0_3, g0_4, g0_5, g0_6, g0_7, pg0_7, g0_8, pg0_8, o0, g34_0, g34_1, pg34_1, g34_2, pg34_2, o34, g102_0, g102_1, pg102_1, g102_2, pg102_2, g102_3, g102_4, g102_5, g102_6, pg102_6, o102, g122_0, g122_1, g122_2, g122_3, pg122_3, g122_4, g122_5, pg122_5, g122_6, pg122_6, g122_7, g122_8, g122_9, pg122_9, g122_10, g122_11, g122_12, g122_13, g122_14, g122_15, g122_16, g122_17, g122_18, pg122_18, g122_19, g122_20, pg122_20, g122_21, pg122_21, g122_22, pg122_22, g122_23, o122, a103, a104, a105, a106, a107, a123, a124, a125, a126, a127, a128, a129, a130, a131, a132, a133, a134, a135, a136, a137, a138, q35, zisT_1, zisT_12, zisT_23, zisT_36, zisT_47, zisT_58, zisT_69, zisT_80, zisT_91, zisP_108, zisP_115, zisR_8, zisR_10, zisR_19, zisR_21, zisR_30, zisR_32, zisR_43, zisR_45, zisR_54, zisR_56, zisR_65, zisR_67, zisR_76, zisR_78, zisR_87, zisR_89, zisR_98, zisR_100, hq, e, zUnt]
    | succ n ih =>
      intro i U G1 hi hU h1 hF
      have htU : zAg 32 (G1 (q + 5)) tg := by rw [hF (q + 5) (by omega)]; exact ht
      obtain ⟨G2, c2, s2, i2, f2⟩ := K_makeTicks hp hq (tg := tg) htU h1 hU hB (N := 1) (by omega)
      have e1 : zfd (fun _ => zTk tg B) U 1 = zTk tg B U := rfl
      have e2 : nI 1 = 1 := rfl
      rw [e1] at s2 i2
      rw [e2] at c2
      have c3 := P_misplacedS hp hq (tg := tg) (by rw [f2 (q + 5) (by omega)]; exact htU) s2
      have hz := zMis_le tg (zTk tg B U)
      have hle : (nI 300 < nI i) = False := zlt_f (s := 300) (n := i) (by omega) (by omega)
      rw [zUnt]
      by_cases h5 : zMis tg (zTk tg B U) = 0
      · refine ⟨G2, ?_, by rw [if_pos h5]; exact s2, hF.tr f2⟩
        rw [if_pos h5]
        rw [h5] at c3
        have e0 : (nI 0 = 0) = True := eq_true rfl
        rw [kK_ticksUntilNoneIsMisplaced_12]
        simp only [kK_ticksUntilNoneIsMisplaced_0, kK_ticksUntilNoneIsMisplaced_10, kK_ticksUntilNoneIsMisplaced_35, kK_ticksUntilNoneIsMisplaced_41, zjK_ticksUntilNoneIsMisplaced_10, zjK_ticksUntilNoneIsMisplaced_12, zjK_ticksUntilNoneIsMisplaced_35, zjK_ticksUntilNoneIsMisplaced_41, ev_iload, ev_aload, ev_istore, ev_astore, ev_iconst, ev_null, ev_iinc, ev_iadd, ev_isub, ev_imul, ev_iand, ev_ior, ev_ixor, ev_ishl, ev_ishr, ev_iushr, ev_idiv, ev_irem, ev_icmp, ev_if, ev_ifnull, ev_ifnullN, ev_goto, ev_dupi, ev_dupr, ev_dup2, ev_pop, ev_getf, ev_puti, ev_putr, ev_iald, ev_cald, ev_aald, ev_iast, ev_cast, ev_alen, ev_tsw, ev_lsw, ev_max, ev_min, ev_obj, ev_cp, ev_throw, ev_iret, ev_aret, ev_aretN, ev_ret, ev_new, ev_newa, ev_anew, ev_is0, ev_is1, ev_is2, ev_is3, ev_is4, ev_iv1, ev_iv2, ev_iv3, ev_iv4, ev_iv5, ev_ip1, ev_ip2, zlg_0, zls_0, zlg_1, zls_1, zlg_2, zls_2, zlg_3, zls_3, zlg_4, zls_4, zlg_5, zls_5, zlg_6, zls_6, zlg_7, zls_7, zlg_8, zls_8, zlg_9, zls_9, zlg_10, zls_10, zlg_11, zls_11, ev_jif, zLI_i, zLR_r, zOV_s, List.length_cons, List.length_nil, zcd, decide_eq_true_eq, true_and, and_true, Option.toList_some, Option.toList_none, List.cons_append, List.nil_append, zrf, if_true, if_false, true_or, or_true, false_or, or_false, and_self, zwr_w, zG_hp, Nat.reduceAdd, Nat.reduceLT, Nat.reduceLeDiff, Nat.zero_le, reduceIte, not_true_eq_false, not_false_eq_true, Prod.mk.injEq, Sum.inl.injEq, Option.some.injEq, Value.int.injEq, Value.ref.injEq, zsw, ev_jif, zB01, Bool.false_eq_true, one_ne, zero_eqone, nI_1, gT0_0, gT0_1, gT0_2, gT0_3, gT0_4, gT0_5, gT0_6, gT0_7, oT0, aT1, aT2, aT3, aT4, aT5, aT6, gT7_0, pgT7_0, gT7_1, gT7_2, pgT7_2, oT7, aT8, gT9_0, pgT9_0, gT9_1, gT9_2, pgT9_2, oT9, aT10, gP0_0, gP0_1, gP0_2, gP0_3, gP0_4, gP0_5, gP0_6, gP0_7, pgP0_7, gP0_8, pgP0_8, oP0, aP1, aP2, aP3, aP4, aP5, aP6, gR0_0, pgR0_0, gR0_1, gR0_2, pgR0_2, oR0, aR1, g0_0, g0_1, g0_2, g0_3, g0_4, g0_5, g0_6, g0_7, pg0_7, g0_8, pg0_8, o0, g34_0, g34_1, pg34_1, g34_2, pg34_2, o34, g102_0, g102_1, pg102_1, g102_2, pg102_2, g102_3, g102_4, g102_5, g102_6, pg102_6, o102, g122_0, g122_1, g122_2, g122_3, pg122_3, g122_4, g122_5, pg122_5, g122_6, pg122_6, g122_7, g122_8, g122_9, pg122_9, g122_10, g122_11, g122_12, g122_13, g122_14, g122_15, g122_16, g122_17, g122_18, pg122_18, g122_19, g122_20, pg122_20, g122_21, pg122_21, g122_22, pg122_22, g122_23, o122, a103, a104, a105, a106, a107, a123, a124, a125, a126, a127, a128, a129, a130, a131, a132, a133, a134, a135, a136, a137, a138, q35, zisT_1, zisT_12, zisT_23, zisT_36, zisT_47, zisT_58, zisT_69, zisT_80, zisT_91, zisP_108, zisP_115, zisR_8, zisR_10, zisR_19, zisR_21, zisR_30, zisR_32, zisR_43, zisR_45, zisR_54, zisR_56, zisR_65, zisR_67, zisR_76, zisR_78, zisR_87, zisR_89, zisR_98, zisR_100, hq, hle, c2, c3, e0]
      · obtain ⟨G', g1, g2, g3⟩ := ih (i + 1) (zTk tg B U) G2 (by omega) i2 s2 (hF.tr f2)
        refine ⟨G', ?_, by rw [if_neg h5]; exact g2, g3⟩
        rw [if_neg h5]
        rw [kK_ticksUntilNoneIsMisplaced_12]
        simp only [kK_ticksUntilNoneIsMisplaced_0, kK_ticksUntilNoneIsMisplaced_10, kK_ticksUntilNoneIsMisplaced_35, kK_ticksUntilNoneIsMisplaced_41, zjK_ticksUntilNoneIsMisplaced_10, zjK_ticksUntilNoneIsMisplaced_12, zjK_ticksUntilNoneIsMisplaced_35, zjK_ticksUntilNoneIsMisplaced_41, ev_iload, ev_aload, ev_istore, ev_astore, ev_iconst, ev_null, ev_iinc, ev_iadd, ev_isub, ev_imul, ev_iand, ev_ior, ev_ixor, ev_ishl, ev_ishr, ev_iushr, ev_idiv, ev_irem, ev_icmp, ev_if, ev_ifnull, ev_ifnullN, ev_goto, ev_dupi, ev_dupr, ev_dup2, ev_pop, ev_getf, ev_puti, ev_putr, ev_iald, ev_cald, ev_aald, ev_iast, ev_cast, ev_alen, ev_tsw, ev_lsw, ev_max, ev_min, ev_obj, ev_cp, ev_throw, ev_iret, ev_aret, ev_aretN, ev_ret, ev_new, ev_newa, ev_anew, ev_is0, ev_is1, ev_is2, ev_is3, ev_is4, ev_iv1, ev_iv2, ev_iv3, ev_iv4, ev_iv5, ev_ip1, ev_ip2, zlg_0, zls_0, zlg_1, zls_1, zlg_2, zls_2, zlg_3, zls_3, zlg_4, zls_4, zlg_5, zls_5, zlg_6, zls_6, zlg_7, zls_7, zlg_8, zls_8, zlg_9, zls_9, zlg_10, zls_10, zlg_11, zls_11, ev_jif, zLI_i, zLR_r, zOV_s, List.length_cons, List.length_nil, zcd, decide_eq_true_eq, true_and, and_true, Option.toList_some, Option.toList_none, List.cons_append, List.nil_append, zrf, if_true, if_false, true_or, or_true, false_or, or_false, and_self, zwr_w, zG_hp, Nat.reduceAdd, Nat.reduceLT, Nat.reduceLeDiff, Nat.zero_le, reduceIte, not_true_eq_false, not_false_eq_true, Prod.mk.injEq, Sum.inl.injEq, Option.some.injEq, Value.int.injEq, Value.ref.injEq, zsw, ev_jif, zB01, Bool.false_eq_true, one_ne, zero_eqone, nI_1, gT0_0, gT0_1, gT0_2, gT0_3, gT0_4, gT0_5, gT0_6, gT0_7, oT0, aT1, aT2, aT3, aT4, aT5, aT6, gT7_0, pgT7_0, gT7_1, gT7_2, pgT7_2, oT7, aT8, gT9_0, pgT9_0, gT9_1, gT9_2, pgT9_2, oT9, aT10, gP0_0, gP0_1, gP0_2, gP0_3, gP0_4, gP0_5, gP0_6, gP0_7, pgP0_7, gP0_8, pgP0_8, oP0, aP1, aP2, aP3, aP4, aP5, aP6, gR0_0, pgR0_0, gR0_1, gR0_2, pgR0_2, oR0, aR1, g0_0, g0_1, g0_2, g0_3, g0_4, g0_5, g0_6, g0_7, pg0_7, g0_8, pg0_8, o0, g34_0, g34_1, pg34_1, g34_2, pg34_2, o34, g102_0, g102_1, pg102_1, g102_2, pg102_2, g102_3, g102_4, g102_5, g102_6, pg102_6, o102, g122_0, g122_1, g122_2, g122_3, pg122_3, g122_4, g122_5, pg122_5, g122_6, pg122_6, g122_7, g122_8, g122_9, pg122_9, g122_10, g122_11, g122_12, g122_13, g122_14, g122_15, g122_16, g122_17, g122_18, pg122_18, g122_19, g122_20, pg122_20, g122_21, pg122_21, g122_22, pg122_22, g122_23, o122, a103, a104, a105, a106, a107, a123, a124, a125, a126, a127, a128, a129, a130, a131, a132, a133, a134, a135, a136, a137, a138, q35, zisT_1, zisT_12, zisT_23, zisT_36, zisT_47, zisT_58, zisT_69, zisT_80, zisT_91, zisP_108, zisP_115, zisR_8, zisR_10, zisR_19, zisR_21, zisR_30, zisR_32, zisR_43, zisR_45, zisR_54, zisR_56, zisR_65, zisR_67, zisR_76, zisR_78, zisR_87, zisR_89, zisR_98, zisR_100, hq, hle, c2, c3, zeq_0 (c := zMis tg (zTk tg B U)) (by omega), h5]
        exact g1
  have c0 := P_misplacedS hp hq ht h
  have hz := zMis_le tg S
  by_cases h5 : zMis tg S = 0
  · refine ⟨G, ?_, by rw [if_pos h5]; exact h, zFm.rf⟩
    rw [h5] at c0
    have e0 : (nI 0 = 0) = True := eq_true rfl
    rw [if_pos h5]
    refine zgo zMt_K_ticksUntilNoneIsMisplaced (show zEv zTT (zco mK_ticksUntilNoneIsMisplaced) kK_ticksUntilNoneIsMisplaced_0 [.ref p, .ref q, zU] [] _ _ from ?_)
    simp only [kK_ticksUntilNoneIsMisplaced_0, kK_ticksUntilNoneIsMisplaced_10, kK_ticksUntilNoneIsMisplaced_35, kK_ticksUntilNoneIsMisplaced_41, zjK_ticksUntilNoneIsMisplaced_10, zjK_ticksUntilNoneIsMisplaced_12, zjK_ticksUntilNoneIsMisplaced_35, zjK_ticksUntilNoneIsMisplaced_41, ev_iload, ev_aload, ev_istore, ev_astore, ev_iconst, ev_null, ev_iinc, ev_iadd, ev_isub, ev_imul, ev_iand, ev_ior, ev_ixor, ev_ishl, ev_ishr, ev_iushr, ev_idiv, ev_irem, ev_icmp, ev_if, ev_ifnull, ev_ifnullN, ev_goto, ev_dupi, ev_dupr, ev_dup2, ev_pop, ev_getf, ev_puti, ev_putr, ev_iald, ev_cald, ev_aald, ev_iast, ev_cast, ev_alen, ev_tsw, ev_lsw, ev_max, ev_min, ev_obj, ev_cp, ev_throw, ev_iret, ev_aret, ev_aretN, ev_ret, ev_new, ev_newa, ev_anew, ev_is0, ev_is1, ev_is2, ev_is3, ev_is4, ev_iv1, ev_iv2, ev_iv3, ev_iv4, ev_iv5, ev_ip1, ev_ip2, zlg_0, zls_0, zlg_1, zls_1, zlg_2, zls_2, zlg_3, zls_3, zlg_4, zls_4, zlg_5, zls_5, zlg_6, zls_6, zlg_7, zls_7, zlg_8, zls_8, zlg_9, zls_9, zlg_10, zls_10, zlg_11, zls_11, ev_jif, zLI_i, zLR_r, zOV_s, List.length_cons, List.length_nil, zcd, decide_eq_true_eq, true_and, and_true, Option.toList_some, Option.toList_none, List.cons_append, List.nil_append, zrf, if_true, if_false, true_or, or_true, false_or, or_false, and_self, zwr_w, zG_hp, Nat.reduceAdd, Nat.reduceLT, Nat.reduceLeDiff, Nat.zero_le, reduceIte, not_true_eq_false, not_false_eq_true, Prod.mk.injEq, Sum.inl.injEq, Option.some.injEq, Value.int.injEq, Value.ref.injEq, zsw, ev_jif, zB01, Bool.false_eq_true, one_ne, zero_eqone, nI_1, gT0_0, gT0_1, gT0_2, gT0_3, gT0_4, gT0_5, gT0_6, gT0_7, oT0, aT1, aT2, aT3, aT4, aT5, aT6, gT7_0, pgT7_0, gT7_1, gT7_2, pgT7_2, oT7, aT8, gT9_0, pgT9_0, gT9_1, gT9_2, pgT9_2, oT9, aT10, gP0_0, gP0_1, gP0_2, gP0_3, gP0_4, gP0_5, gP0_6, gP0_7, pgP0_7, gP0_8, pgP0_8, oP0, aP1, aP2, aP3, aP4, aP5, aP6, gR0_0, pgR0_0, gR0_1, gR0_2, pgR0_2, oR0, aR1, g0_0, g0_1, g0_2, g0_3, g0_4, g0_5, g0_6, g0_7, pg0_7, g0_8, pg0_8, o0, g34_0, g34_1, pg34_1, g34_2, pg34_2, o34, g102_0, g102_1, pg102_1, g102_2, pg102_2, g102_3, g102_4, g102_5, g102_6, pg102_6, o102, g122_0, g122_1, g122_2, g122_3, pg122_3, g122_4, g122_5, pg122_5, g122_6, pg122_6, g122_7, g122_8, g122_9, pg122_9, g122_10, g122_11, g122_12, g122_13, g122_14, g122_15, g122_16, g122_17, g122_18, pg122_18, g122_19, g122_20, pg122_20, g122_21, pg122_21, g122_22, pg122_22, g122_23, o122, a103, a104, a105, a106, a107, a123, a124, a125, a126, a127, a128, a129, a130, a131, a132, a133, a134, a135, a136, a137, a138, q35, zisT_1, zisT_12, zisT_23, zisT_36, zisT_47, zisT_58, zisT_69, zisT_80, zisT_91, zisP_108, zisP_115, zisR_8, zisR_10, zisR_19, zisR_21, zisR_30, zisR_32, zisR_43, zisR_45, zisR_54, zisR_56, zisR_65, zisR_67, zisR_76, zisR_78, zisR_87, zisR_89, zisR_98, zisR_100, hq, c0, e0]
  · obtain ⟨G', g1, g2, g3⟩ := key 300 1 S G rfl hI h zFm.rf
    refine ⟨G', ?_, by rw [if_neg h5]; exact g2, g3⟩
    rw [if_neg h5]
    generalize zUnt tg B 300 1 S = R at g1 g2
    have e1 : nI 1 = 1 := rfl
    rw [e1] at g1
    refine zgo zMt_K_ticksUntilNoneIsMisplaced (show zEv zTT (zco mK_ticksUntilNoneIsMisplaced) kK_ticksUntilNoneIsMisplaced_0 [.ref p, .ref q, zU] [] _ _ from ?_)
    simp only [kK_ticksUntilNoneIsMisplaced_0, kK_ticksUntilNoneIsMisplaced_10, kK_ticksUntilNoneIsMisplaced_35, kK_ticksUntilNoneIsMisplaced_41, zjK_ticksUntilNoneIsMisplaced_10, zjK_ticksUntilNoneIsMisplaced_12, zjK_ticksUntilNoneIsMisplaced_35, zjK_ticksUntilNoneIsMisplaced_41, ev_iload, ev_aload, ev_istore, ev_astore, ev_iconst, ev_null, ev_iinc, ev_iadd, ev_isub, ev_imul, ev_iand, ev_ior, ev_ixor, ev_ishl, ev_ishr, ev_iushr, ev_idiv, ev_irem, ev_icmp, ev_if, ev_ifnull, ev_ifnullN, ev_goto, ev_dupi, ev_dupr, ev_dup2, ev_pop, ev_getf, ev_puti, ev_putr, ev_iald, ev_cald, ev_aald, ev_iast, ev_cast, ev_alen, ev_tsw, ev_lsw, ev_max, ev_min, ev_obj, ev_cp, ev_throw, ev_iret, ev_aret, ev_aretN, ev_ret, ev_new, ev_newa, ev_anew, ev_is0, ev_is1, ev_is2, ev_is3, ev_is4, ev_iv1, ev_iv2, ev_iv3, ev_iv4, ev_iv5, ev_ip1, ev_ip2, zlg_0, zls_0, zlg_1, zls_1, zlg_2, zls_2, zlg_3, zls_3, zlg_4, zls_4, zlg_5, zls_5, zlg_6, zls_6, zlg_7, zls_7, zlg_8, zls_8, zlg_9, zls_9, zlg_10, zls_10, zlg_11, zls_11, ev_jif, zLI_i, zLR_r, zOV_s, List.length_cons, List.length_nil, zcd, decide_eq_true_eq, true_and, and_true, Option.toList_some, Option.toList_none, List.cons_append, List.nil_append, zrf, if_true, if_false, true_or, or_true, false_or, or_false, and_self, zwr_w, zG_hp, Nat.reduceAdd, Nat.reduceLT, Nat.reduceLeDiff, Nat.zero_le, reduceIte, not_true_eq_false, not_false_eq_true, Prod.mk.injEq, Sum.inl.injEq, Option.some.injEq, Value.int.injEq, Value.ref.injEq, zsw, ev_jif, zB01, Bool.false_eq_true, one_ne, zero_eqone, nI_1, gT0_0, gT0_1, gT0_2, gT0_3, gT0_4, gT0_5, gT0_6, gT0_7, oT0, aT1, aT2, aT3, aT4, aT5, aT6, gT7_0, pgT7_0, gT7_1, gT7_2, pgT7_2, oT7, aT8, gT9_0, pgT9_0, gT9_1, gT9_2, pgT9_2, oT9, aT10, gP0_0, gP0_1, gP0_2, gP0_3, gP0_4, gP0_5, gP0_6, gP0_7, pgP0_7, gP0_8, pgP0_8, oP0, aP1, aP2, aP3, aP4, aP5, aP6, gR0_0, pgR0_0, gR0_1, gR0_2, pgR0_2, oR0, aR1, g0_0, g0_1, g0_2, g0_3, g0_4, g0_5, g0_6, g0_7, pg0_7, g0_8, pg0_8, o0, g34_0, g34_1, pg34_1, g34_2, pg34_2, o34, g102_0, g102_1, pg102_1, g102_2, pg102_2, g102_3, g102_4, g102_5, g102_6, pg102_6, o102, g122_0, g122_1, g122_2, g122_3, pg122_3, g122_4, g122_5, pg122_5, g122_6, pg122_6, g122_7, g122_8, g122_9, pg122_9, g122_10, g122_11, g122_12, g122_13, g122_14, g122_15, g122_16, g122_17, g122_18, pg122_18, g122_19, g122_20, pg122_20, g122_21, pg122_21, g122_22, pg122_22, g122_23, o122, a103, a104, a105, a106, a107, a123, a124, a125, a126, a127, a128, a129, a130, a131, a132, a133, a134, a135, a136, a137, a138, q35, zisT_1, zisT_12, zisT_23, zisT_36, zisT_47, zisT_58, zisT_69, zisT_80, zisT_91, zisP_108, zisP_115, zisR_8, zisR_10, zisR_19, zisR_21, zisR_30, zisR_32, zisR_43, zisR_45, zisR_54, zisR_56, zisR_65, zisR_67, zisR_76, zisR_78, zisR_87, zisR_89, zisR_98, zisR_100, hq, c0, zeq_0 (c := zMis tg S) (by omega), h5]
    exact g1
end ZTICK
