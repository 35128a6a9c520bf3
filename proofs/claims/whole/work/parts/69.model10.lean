section ZMODEL10
variable {G G' : Nat → Nat → Int32} {S : zSt} {tg : Nat → Int32}
/-- what holds of owners and moves -/
def zGd (S : zSt) : Prop := (∀ s, s < 32 → zow (sO S s)) ∧ (∀ m, m ∈ sM S → zgm m) ∧ zun (sM S)
def zBr (tg : Nat → Int32) (S : zSt) : Nat → Int32 := zfd (fun s b => if zCan tg S s = true ∧ (b < 0 ∨ nI (zrv S s) < b) then nI (zrv S s) else b) (-1)
theorem zrv_b {s : Nat} (hs : s < 32) : zrv S s < 2000 := by
  have h1 := zfi_le S s
  have h2 := (zsz_r s hs).2.1
  unfold zrv
  omega
theorem zBr_bes (tg : Nat → Int32) (S : zSt) : ∀ n, n ≤ 32 → ((zBes tg S n).1 = -1 ∧ zBr tg S n = -1) ∨ ∃ s, s < n ∧ zBes tg S n = (nI s, zRnk S s) ∧ zBr tg S n = nI (zrv S s) ∧ zCan tg S s = true
  | 0, _ => Or.inl ⟨rfl, rfl⟩
  | n + 1, h => by
    have e : zBr tg S (n + 1) = if zCan tg S n = true ∧ (zBr tg S n < 0 ∨ nI (zrv S n) < zBr tg S n) then nI (zrv S n) else zBr tg S n := rfl
    rw [e, zBes_s]
    rcases zBr_bes tg S n (by omega) with ⟨h1, h2⟩ | ⟨s, hs, h1, h2, h3⟩
    · rw [h1, h2]
      by_cases hc : zCan tg S n = true
      · rw [if_pos ⟨hc, Or.inl rfl⟩, if_pos ⟨hc, Or.inl (by decide)⟩]
        exact Or.inr ⟨n, by omega, rfl, rfl, hc⟩
      · rw [if_neg (fun hh => hc hh.1), if_neg (fun hh => hc hh.1)]
        exact Or.inl ⟨h1, rfl⟩
    · rw [h1, h2]
      have hn : n < 32 := by omega
      have hs32 : s < 32 := by omega
      have b1 := zrv_b (S := S) hn
      have b2 := zrv_b (S := S) hs32
      have f1 := zfi_le S n
      have f2 := zfi_le S s
      have z1 := zsz_r n hn
      have z2 := zsz_r s hs32
      have ev : (zrv S n < zrv S s) ↔ (zfi S n * 10 + zsz n < zfi S s * 10 + zsz s) := by
        unfold zrv
        have z11 := z1.1
        have z12 := z1.2.1
        have z21 := z2.1
        have z22 := z2.2.1
        generalize zfi S n = a at *
        generalize zfi S s = b at *
        generalize zsz n = c at *
        generalize zsz s = d at *
        rcases (show a = 0 ∨ a = 1 ∨ a = 2 by omega) with rfl | rfl | rfl <;> rcases (show b = 0 ∨ b = 1 ∨ b = 2 by omega) with rfl | rfl | rfl <;> omega
      have e1 : (nI s = -1) = False := zeq_m1 (by omega)
      have e2 : (nI (zrv S s) < 0) = False := zlt_0 (by omega)
      have e3 : (nI (zrv S n) < nI (zrv S s)) ↔ (zRnk S n < zRnk S s) := by
        rw [zRnk_n hn, zRnk_n hs32]
        by_cases h : zrv S n < zrv S s
        · rw [zlt_t h (by omega), zlt_t (ev.mp h) (by omega)]
        · rw [zlt_f (by omega) (by omega), zlt_f (by omega) (by omega)]
      dsimp only
      simp only [e1, e2, false_or]
      by_cases hc : zCan tg S n = true ∧ zRnk S n < zRnk S s
      · rw [if_pos hc, if_pos ⟨hc.1, e3.mpr hc.2⟩]
        exact Or.inr ⟨n, by omega, rfl, rfl, hc.1⟩
      · rw [if_neg hc, if_neg (fun hh => hc ⟨hh.1, e3.mp hh.2⟩)]
        exact Or.inr ⟨s, by omega, rfl, rfl, h3⟩
theorem zBr_or (tg : Nat → Int32) (S : zSt) {n : Nat} (h : n ≤ 32) : zBr tg S n = -1 ∨ ∃ r, r < 2000 ∧ zBr tg S n = nI r := by
  rcases zBr_bes tg S n h with h1 | ⟨s, hs, _, h2, _⟩
  · exact Or.inl h1.2
  · exact Or.inr ⟨_, zrv_b (by omega), h2⟩
theorem M_bl (can : Nat → Bool) (rv : Nat → Nat) (b : Nat → Int32) (hcall : ∀ s, s < 32 → zcal zTT jM_rank [.ref 122, .int (nI s)] (zhp G) = some (some (.int (if can s = true then nI (rv s) else -1)), zhp G)) (hrv : ∀ s, s < 32 → rv s < 2000) (hb : ∀ s, b (s + 1) = if can s = true ∧ (b s < 0 ∨ nI (rv s) < b s) then nI (rv s) else b s) (hor : ∀ s, s ≤ 32 → b s = -1 ∨ ∃ r, r < 2000 ∧ b s = nI r) (f : Int32) (y : zRt × zHp) (hy : ∀ v, zEv zTT (zco mM_begin) kM_begin_71 [.ref 122, .int f, .int (b 32), .int (nI 32), v] [] (zhp G) y) : ∀ n i v4, i + n = 32 → zEv zTT (zco mM_begin) kM_begin_30 [.ref 122, .int f, .int (b i), .int (nI i), v4] [] (zhp G) y := by
  intro n
  induction n with
  | zero =>
    intro i v4 hi
    have hi : i = 32 := by omega
    subst hi
    have hy := hy v4
    generalize b 32 = c at hy ⊢
    rw [kM_begin_30]
    simp only [kM_begin_0, kM_begin_20, kM_begin_21, kM_begin_22, kM_begin_58, kM_begin_63, kM_begin_64, kM_begin_178, kM_begin_202, kM_begin_203, kM_begin_207, zjM_begin_20, zjM_begin_21, zjM_begin_22, zjM_begin_30, zjM_begin_58, zjM_begin_63, zjM_begin_64, zjM_begin_71, zjM_begin_178, zjM_begin_202, zjM_begin_203, zjM_begin_207, ev_iload, ev_aload, ev_istore, ev_astore, ev_iconst, ev_null, ev_iinc, ev_iadd, ev_isub, ev_imul, ev_iand, ev_ior, ev_ixor, ev_ishl, ev_ishr, ev_iushr, ev_idiv, ev_irem, ev_icmp, ev_if, ev_ifnull, ev_ifnullN, ev_goto, ev_dupi, ev_dupr, ev_dup2, ev_pop, ev_getf, ev_puti, ev_putr, ev_iald, ev_cald, ev_aald, ev_iast, ev_cast, ev_alen, ev_tsw, ev_lsw, ev_max, ev_min, ev_obj, ev_cp, ev_throw, ev_iret, ev_aret, ev_aretN, ev_ret, ev_new, ev_newa, ev_anew, ev_is0, ev_is1, ev_is2, ev_is3, ev_is4, ev_iv1, ev_iv2, ev_iv3, ev_iv4, ev_iv5, ev_ip1, ev_ip2, zlg_0, zls_0, zlg_1, zls_1, zlg_2, zls_2, zlg_3, zls_3, zlg_4, zls_4, zlg_5, zls_5, zlg_6, zls_6, zlg_7, zls_7, zlg_8, zls_8, zlg_9, zls_9, zlg_10, zls_10, zlg_11, zls_11, ev_jif, zLI_i, zLR_r, zOV_s, List.length_cons, List.length_nil, zcd, decide_eq_true_eq, true_and, and_true, Option.toList_some, Option.toList_none, List.cons_append, List.nil_append, zrf, if_true, if_false, true_or, or_true, false_or, or_false, and_self, zwr_w, zG_hp, Nat.reduceAdd, Nat.reduceLT, Nat.reduceLeDiff, Nat.zero_le, reduceIte, not_true_eq_false, not_false_eq_true, Prod.mk.injEq, Sum.inl.injEq, Option.some.injEq, Value.int.injEq, Value.ref.injEq, zsw, ev_jif, zB01, Bool.false_eq_true, one_ne, zero_eqone, nI_1, zle_t (s := 32) (n := 32) (by omega) (by omega), zlt_f (s := 32) (n := 32) (by omega) (by omega)]
    exact hy
  | succ n ih =>
    intro i v4 hi
    have hi32 : i < 32 := by omega
    have hx := fun v => ih (i + 1) v (by omega)
    have cr := hcall i hi32
    have hb' := hor i (by omega)
    have hr := hrv i hi32
    rw [hb i] at hx
    clear hy ih hb hor hcall hrv
    generalize b i = c at *
    generalize rv i = r at *
    have em : ((-1 : Int32) < 0) = True := by decide
    have em2 : ((0 : Int32) ≤ -1) = False := by decide
    by_cases hc : can i = true
    · rw [if_pos hc] at cr
      rcases hb' with h1 | ⟨q, hq, h1⟩
      · rw [h1] at hx ⊢
        rw [if_pos ⟨hc, Or.inl (by decide)⟩] at hx
        rw [kM_begin_30]
        simp only [kM_begin_0, kM_begin_20, kM_begin_21, kM_begin_22, kM_begin_58, kM_begin_63, kM_begin_64, kM_begin_178, kM_begin_202, kM_begin_203, kM_begin_207, zjM_begin_20, zjM_begin_21, zjM_begin_22, zjM_begin_30, zjM_begin_58, zjM_begin_63, zjM_begin_64, zjM_begin_71, zjM_begin_178, zjM_begin_202, zjM_begin_203, zjM_begin_207, ev_iload, ev_aload, ev_istore, ev_astore, ev_iconst, ev_null, ev_iinc, ev_iadd, ev_isub, ev_imul, ev_iand, ev_ior, ev_ixor, ev_ishl, ev_ishr, ev_iushr, ev_idiv, ev_irem, ev_icmp, ev_if, ev_ifnull, ev_ifnullN, ev_goto, ev_dupi, ev_dupr, ev_dup2, ev_pop, ev_getf, ev_puti, ev_putr, ev_iald, ev_cald, ev_aald, ev_iast, ev_cast, ev_alen, ev_tsw, ev_lsw, ev_max, ev_min, ev_obj, ev_cp, ev_throw, ev_iret, ev_aret, ev_aretN, ev_ret, ev_new, ev_newa, ev_anew, ev_is0, ev_is1, ev_is2, ev_is3, ev_is4, ev_iv1, ev_iv2, ev_iv3, ev_iv4, ev_iv5, ev_ip1, ev_ip2, zlg_0, zls_0, zlg_1, zls_1, zlg_2, zls_2, zlg_3, zls_3, zlg_4, zls_4, zlg_5, zls_5, zlg_6, zls_6, zlg_7, zls_7, zlg_8, zls_8, zlg_9, zls_9, zlg_10, zls_10, zlg_11, zls_11, ev_jif, zLI_i, zLR_r, zOV_s, List.length_cons, List.length_nil, zcd, decide_eq_true_eq, true_and, and_true, Option.toList_some, Option.toList_none, List.cons_append, List.nil_append, zrf, if_true, if_false, true_or, or_true, false_or, or_false, and_self, zwr_w, zG_hp, Nat.reduceAdd, Nat.reduceLT, Nat.reduceLeDiff, Nat.zero_le, reduceIte, not_true_eq_false, not_false_eq_true, Prod.mk.injEq, Sum.inl.injEq, Option.some.injEq, Value.int.injEq, Value.ref.injEq, zsw, ev_jif, zB01, Bool.false_eq_true, one_ne, zero_eqone, nI_1, gT0_0, gT0_1, gT0_2, gT0_3, gT0_4, gT0_5, gT0_6, gT0_7, oT0, aT1, aT2, aT3, aT4, aT5, aT6, gT7_0, pgT7_0, gT7_1, gT7_2, pgT7_2, oT7, aT8, gT9_0, pgT9_0, gT9_1, gT9_2, pgT9_2, oT9, aT10, gP0_0, gP0_1, gP0_2, gP0_3, gP0_4, gP0_5, gP0_6, gP0_7, pgP0_7, gP0_8, pgP0_8, oP0, aP1, aP2, aP3, aP4, aP5, aP6, gR0_0, pgR0_0, gR0_1, gR0_2, pgR0_2, oR0, aR1, g0_0, g0_1, g0_2, g0_3, g0_4, g0_5, g0_6, g0_7, pg0_7, g0_8, pg0_8, o0, g34_0, g34_1, pg34_1, g34_2, pg34_2, o34, g102_0, g102_1, pg102_1, g102_2, pg102_2, g102_3, g102_4, g102_5, g102_6, pg102_6, o102, g122_0, g122_1, g122_2, g122_3, pg122_3, g122_4, g122_5, pg122_5, g122_6, pg122_6, g122_7, g122_8, g122_9, pg122_9, g122_10, g122_11, g122_12, g122_13, g122_14, g122_15, g122_16, g122_17, g122_18, pg122_18, g122_19, g122_20, pg122_20, g122_21, pg122_21, g122_22, pg122_22, g122_23, o122, a103, a104, a105, a106, a107, a123, a124, a125, a126, a127, a128, a129, a130, a131, a132, a133, a134, a135, a136, a137, a138, q35, zisT_1, zisT_12, zisT_23, zisT_36, zisT_47, zisT_58, zisT_69, zisT_80, zisT_91, zisP_108, zisP_115, zisR_8, zisR_10, zisR_19, zisR_21, zisR_30, zisR_32, zisR_43, zisR_45, zisR_54, zisR_56, zisR_65, zisR_67, zisR_76, zisR_78, zisR_87, zisR_89, zisR_98, zisR_100, id zisT_1, id zisT_12, id zisT_23, id zisP_108, id zisP_115, id (zisR_T7 zisT_1), id (zisR_T9 zisT_1), zle_f (s := i) (n := 32) (by omega) (by omega), zlt_t (s := i) (n := 32) (by omega) (by omega), cr, zlt_0 (s := r) (by omega), znn (s := r) (by omega), em, em2]
        exact hx _
      · rw [h1] at hx ⊢
        by_cases h2 : r < q
        · rw [if_pos ⟨hc, Or.inr (nI_lt h2 (by omega))⟩] at hx
          rw [kM_begin_30]
          simp only [kM_begin_0, kM_begin_20, kM_begin_21, kM_begin_22, kM_begin_58, kM_begin_63, kM_begin_64, kM_begin_178, kM_begin_202, kM_begin_203, kM_begin_207, zjM_begin_20, zjM_begin_21, zjM_begin_22, zjM_begin_30, zjM_begin_58, zjM_begin_63, zjM_begin_64, zjM_begin_71, zjM_begin_178, zjM_begin_202, zjM_begin_203, zjM_begin_207, ev_iload, ev_aload, ev_istore, ev_astore, ev_iconst, ev_null, ev_iinc, ev_iadd, ev_isub, ev_imul, ev_iand, ev_ior, ev_ixor, ev_ishl, ev_ishr, ev_iushr, ev_idiv, ev_irem, ev_icmp, ev_if, ev_ifnull, ev_ifnullN, ev_goto, ev_dupi, ev_dupr, ev_dup2, ev_pop, ev_getf, ev_puti, ev_putr, ev_iald, ev_cald, ev_aald, ev_iast, ev_cast, ev_alen, ev_tsw, ev_lsw, ev_max, ev_min, ev_obj, ev_cp, ev_throw, ev_iret, ev_aret, ev_aretN, ev_ret, ev_new, ev_newa, ev_anew, ev_is0, ev_is1, ev_is2, ev_is3, ev_is4, ev_iv1, ev_iv2, ev_iv3, ev_iv4, ev_iv5, ev_ip1, ev_ip2, zlg_0, zls_0, zlg_1, zls_1, zlg_2, zls_2, zlg_3, zls_3, zlg_4, zls_4, zlg_5, zls_5, zlg_6, zls_6, zlg_7, zls_7, zlg_8, zls_8, zlg_9, zls_9, zlg_10, zls_10, zlg_11, zls_11, ev_jif, zLI_i, zLR_r, zOV_s, List.length_cons, List.length_nil, zcd, decide_eq_true_eq, true_and, and_true, Option.toList_some, Option.toList_none, List.cons_append, List.nil_append, zrf, if_true, if_false, true_or, or_true, false_or, or_false, and_self, zwr_w, zG_hp, Nat.reduceAdd, Nat.reduceLT, Nat.reduceLeDiff, Nat.zero_le, reduceIte, not_true_eq_false, not_false_eq_true, Prod.mk.injEq, Sum.inl.injEq, Option.some.injEq, Value.int.injEq, Value.ref.injEq, zsw, ev_jif, zB01, Bool.false_eq_true, one_ne, zero_eqone, nI_1, gT0_0, gT0_1, gT0_2, gT0_3, gT0_4, gT0_5, gT0_6, gT0_7, oT0, aT1, aT2, aT3, aT4, aT5, aT6, gT7_0, pgT7_0, gT7_1, gT7_2, pgT7_2, oT7, aT8, gT9_0, pgT9_0, gT9_1, gT9_2, pgT9_2, oT9, aT10, gP0_0, gP0_1, gP0_2, gP0_3, gP0_4, gP0_5, gP0_6, gP0_7, pgP0_7, gP0_8, pgP0_8, oP0, aP1, aP2, aP3, aP4, aP5, aP6, gR0_0, pgR0_0, gR0_1, gR0_2, pgR0_2, oR0, aR1, g0_0, g0_1, g0_2, g0_3, g0_4, g0_5, g0_6, g0_7, pg0_7, g0_8, pg0_8, o0, g34_0, g34_1, pg34_1, g34_2, pg34_2, o34, g102_0, g102_1, pg102_1, g102_2, pg102_2, g102_3, g102_4, g102_5, g102_6, pg102_6, o102, g122_0, g122_1, g122_2, g122_3, pg122_3, g122_4, g122_5, pg122_5, g122_6, pg122_6, g122_7, g122_8, g122_9, pg122_9, g122_10, g122_11, g122_12, g122_13, g122_14, g122_15, g122_16, g122_17, g122_18, pg122_18, g122_19, g122_20, pg122_20, g122_21, pg122_21, g122_22, pg122_22, g122_23, o122, a103, a104, a105, a106, a107, a123, a124, a125, a126, a127, a128, a129, a130, a131, a132, a133, a134, a135, a136, a137, a138, q35, zisT_1, zisT_12, zisT_23, zisT_36, zisT_47, zisT_58, zisT_69, zisT_80, zisT_91, zisP_108, zisP_115, zisR_8, zisR_10, zisR_19, zisR_21, zisR_30, zisR_32, zisR_43, zisR_45, zisR_54, zisR_56, zisR_65, zisR_67, zisR_76, zisR_78, zisR_87, zisR_89, zisR_98, zisR_100, id zisT_1, id zisT_12, id zisT_23, id zisP_108, id zisP_115, id (zisR_T7 zisT_1), id (zisR_T9 zisT_1), zle_f (s := i) (n := 32) (by omega) (by omega), zlt_t (s := i) (n := 32) (by omega) (by omega), cr, zlt_0 (s := r) (by omega), znn (s := r) (by omega), zlt_0 (s := q) (by omega), znn (s := q) (by omega), zle_f (s := r) (n := q) (by omega) (by omega), zlt_t (s := r) (n := q) (by omega) (by omega)]
          exact hx _
        · rw [if_neg (fun hh => hh.2.elim (nI_pos (by omega)) (nI_nlt (by omega) (by omega)))] at hx
          rw [kM_begin_30]
          simp only [kM_begin_0, kM_begin_20, kM_begin_21, kM_begin_22, kM_begin_58, kM_begin_63, kM_begin_64, kM_begin_178, kM_begin_202, kM_begin_203, kM_begin_207, zjM_begin_20, zjM_begin_21, zjM_begin_22, zjM_begin_30, zjM_begin_58, zjM_begin_63, zjM_begin_64, zjM_begin_71, zjM_begin_178, zjM_begin_202, zjM_begin_203, zjM_begin_207, ev_iload, ev_aload, ev_istore, ev_astore, ev_iconst, ev_null, ev_iinc, ev_iadd, ev_isub, ev_imul, ev_iand, ev_ior, ev_ixor, ev_ishl, ev_ishr, ev_iushr, ev_idiv, ev_irem, ev_icmp, ev_if, ev_ifnull, ev_ifnullN, ev_goto, ev_dupi, ev_dupr, ev_dup2, ev_pop, ev_getf, ev_puti, ev_putr, ev_iald, ev_cald, ev_aald, ev_iast, ev_cast, ev_alen, ev_tsw, ev_lsw, ev_max, ev_min, ev_obj, ev_cp, ev_throw, ev_iret, ev_aret, ev_aretN, ev_ret, ev_new, ev_newa, ev_anew, ev_is0, ev_is1, ev_is2, ev_is3, ev_is4, ev_iv1, ev_iv2, ev_iv3, ev_iv4, ev_iv5, ev_ip1, ev_ip2, zlg_0, zls_0, zlg_1, zls_1, zlg_2, zls_2, zlg_3, zls_3, zlg_4, zls_4, zlg_5, zls_5, zlg_6, zls_6, zlg_7, zls_7, zlg_8, zls_8, zlg_9, zls_9, zlg_10, zls_10, zlg_11, zls_11, ev_jif, zLI_i, zLR_r, zOV_s, List.length_cons, List.length_nil, zcd, decide_eq_true_eq, true_and, and_true, Option.toList_some, Option.toList_none, List.cons_append, List.nil_append, zrf, if_true, if_false, true_or, or_true, false_or, or_false, and_self, zwr_w, zG_hp, Nat.reduceAdd, Nat.reduceLT, Nat.reduceLeDiff, Nat.zero_le, reduceIte, not_true_eq_false, not_false_eq_true, Prod.mk.injEq, Sum.inl.injEq, Option.some.injEq, Value.int.injEq, Value.ref.injEq, zsw, ev_jif, zB01, Bool.false_eq_true, one_ne, zero_eqone, nI_1, gT0_0, gT0_1, gT0_2, gT0_3, gT0_4, gT0_5, gT0_6, gT0_7, oT0, aT1, aT2, aT3, aT4, aT5, aT6, gT7_0, pgT7_0, gT7_1, gT7_2, pgT7_2, oT7, aT8, gT9_0, pgT9_0, gT9_1, gT9_2, pgT9_2, oT9, aT10, gP0_0, gP0_1, gP0_2, gP0_3, gP0_4, gP0_5, gP0_6, gP0_7, pgP0_7, gP0_8, pgP0_8, oP0, aP1, aP2, aP3, aP4, aP5, aP6, gR0_0, pgR0_0, gR0_1, gR0_2, pgR0_2, oR0, aR1, g0_0, g0_1, g0_2, g0_3, g0_4, g0_5, g0_6, g0_7, pg0_7, g0_8, pg0_8, o0, g34_0, g34_1, pg34_1, g34_2, pg34_2, o34, g102_0, g102_1, pg102_1, g102_2, pg102_2, g102_3, g102_4, g102_5, g102_6, pg102_6, o102, g122_0, g122_1, g122_2, g122_3, pg122_3, g122_4, g122_5, pg122_5, g122_6, pg122_6, g122_7, g122_8, g122_9, pg122_9, g122_10, g122_11, g122_12, g122_13, g122_14, g122_15, g122_16, g122_17, g122_18, pg122_18, g122_19, g122_20, pg122_20, g122_21, pg122_21, g122_22, pg122_22, g122_23, o122, a103, a104, a105, a106, a107, a123, a124, a125, a126, a127, a128, a129, a130, a131, a132, a133, a134, a135, a136, a137, a138, q35, zisT_1, zisT_12, zisT_23, zisT_36, zisT_47, zisT_58, zisT_69, zisT_80, zisT_91, zisP_108, zisP_115, zisR_8, zisR_10, zisR_19, zisR_21, zisR_30, zisR_32, zisR_43, zisR_45, zisR_54, zisR_56, zisR_65, zisR_67, zisR_76, zisR_78, zisR_87, zisR_89, zisR_98, zisR_100, id zisT_1, id zisT_12, id zisT_23, id zisP_108, id zisP_115, id (zisR_T7 zisT_1), id (zisR_T9 zisT_1), zle_f (s := i) (n := 32) (by omega) (by omega), zlt_t (s := i) (n := 32) (by omega) (by omega), cr, zlt_0 (s := r) (by omega), znn (s := r) (by omega), zlt_0 (s := q) (by omega), znn (s := q) (by omega), zle_t (s := r) (n := q) (by omega) (by omega), zlt_f (s := r) (n := q) (by omega) (by omega)]
          exact hx _
    · rw [if_neg hc] at cr
      rw [if_neg (fun hh => hc hh.1)] at hx
      rw [kM_begin_30]
      simp only [kM_begin_0, kM_begin_20, kM_begin_21, kM_begin_22, kM_begin_58, kM_begin_63, kM_begin_64, kM_begin_178, kM_begin_202, kM_begin_203, kM_begin_207, zjM_begin_20, zjM_begin_21, zjM_begin_22, zjM_begin_30, zjM_begin_58, zjM_begin_63, zjM_begin_64, zjM_begin_71, zjM_begin_178, zjM_begin_202, zjM_begin_203, zjM_begin_207, ev_iload, ev_aload, ev_istore, ev_astore, ev_iconst, ev_null, ev_iinc, ev_iadd, ev_isub, ev_imul, ev_iand, ev_ior, ev_ixor, ev_ishl, ev_ishr, ev_iushr, ev_idiv, ev_irem, ev_icmp, ev_if, ev_ifnull, ev_ifnullN, ev_goto, ev_dupi, ev_dupr, ev_dup2, ev_pop, ev_getf, ev_puti, ev_putr, ev_iald, ev_cald, ev_aald, ev_iast, ev_cast, ev_alen, ev_tsw, ev_lsw, ev_max, ev_min, ev_obj, ev_cp, ev_throw, ev_iret, ev_aret, ev_aretN, ev_ret, ev_new, ev_newa, ev_anew, ev_is0, ev_is1, ev_is2, ev_is3, ev_is4, ev_iv1, ev_iv2, ev_iv3, ev_iv4, ev_iv5, ev_ip1, ev_ip2, zlg_0, zls_0, zlg_1, zls_1, zlg_2, zls_2, zlg_3, zls_3, zlg_4, zls_4, zlg_5, zls_5, zlg_6, zls_6, zlg_7, zls_7, zlg_8, zls_8, zlg_9, zls_9, zlg_10, zls_10, zlg_11, zls_11, ev_jif, zLI_i, zLR_r, zOV_s, List.length_cons, List.length_nil, zcd, decide_eq_true_eq, true_and, and_true, Option.toList_some, Option.toList_none, List.cons_append, List.nil_append, zrf, if_true, if_false, true_or, or_true, false_or, or_false, and_self, zwr_w, zG_hp, Nat.reduceAdd, Nat.reduceLT, Nat.reduceLeDiff, Nat.zero_le, reduceIte, not_true_eq_false, not_false_eq_true, Prod.mk.injEq, Sum.inl.injEq, Option.some.injEq, Value.int.injEq, Value.ref.injEq, zsw, ev_jif, zB01, Bool.false_eq_true, one_ne, zero_eqone, nI_1, gT0_0, gT0_1, gT0_2, gT0_3, gT0_4, gT0_5, gT0_6, gT0_7, oT0, aT1, aT2, aT3, aT4, aT5, aT6, gT7_0, pgT7_0, gT7_1, gT7_2, pgT7_2, oT7, aT8, gT9_0, pgT9_0, gT9_1, gT9_2, pgT9_2, oT9, aT10, gP0_0, gP0_1, gP0_2, gP0_3, gP0_4, gP0_5, gP0_6, gP0_7, pgP0_7, gP0_8, pgP0_8, oP0, aP1, aP2, aP3, aP4, aP5, aP6, gR0_0, pgR0_0, gR0_1, gR0_2, pgR0_2, oR0, aR1, g0_0, g0_1, g0_2, g0_3, g0_4, g0_5, g0_6, g0_7, pg0_7, g0_8, pg0_8, o0, g34_0, g34_1, pg34_1, g34_2, pg34_2, o34, g102_0, g102_1, pg102_1, g102_2, pg102_2, g102_3, g102_4, g102_5, g102_6, pg102_6, o102, g122_0, g122_1, g122_2, g122_3, pg122_3, g122_4, g122_5, pg122_5, g122_6, pg122_6, g122_7, g122_8, g122_9, pg122_9, g122_10, g122_11, g122_12, g122_13, g122_14, g122_15, g122_16, g122_17, g122_18, pg122_18, g122_19, g122_20, pg122_20, g122_21, pg122_21, g122_22, pg122_22, g122_23, o122, a103, a104, a105, a106, a107, a123, a124, a125, a126, a127, a128, a129, a130, a131, a132, a133, a134, a135, a136, a137, a138, q35, zisT_1, zisT_12, zisT_23, zisT_36, zisT_47, zisT_58, zisT_69, zisT_80, zisT_91, zisP_108, zisP_115, zisR_8, zisR_10, zisR_19, zisR_21, zisR_30, zisR_32, zisR_43, zisR_45, zisR_54, zisR_56, zisR_65, zisR_67, zisR_76, zisR_78, zisR_87, zisR_89, zisR_98, zisR_100, id zisT_1, id zisT_12, id zisT_23, id zisP_108, id zisP_115, id (zisR_T7 zisT_1), id (zisR_T9 zisT_1), zle_f (s := i) (n := 32) (by omega) (by omega), zlt_t (s := i) (n := 32) (by omega) (by omega), cr, em, em2]
      exact hx _
theorem zFx_m1 {P : Nat → Bool} : ∀ n i, i + n < 2 ^ 31 → zFx P n i = -1 → ∀ j, i ≤ j → j < i + n → P j = false
  | 0, _, _, _, j, h1, h2 => absurd h2 (by omega)
  | n + 1, i, hb, h, j, h1, h2 => by
    rw [zFx] at h
    by_cases hp : P i = true
    · rw [if_pos hp, zeq_m1 (by omega)] at h; exact absurd h id
    · rw [if_neg hp] at h
      by_cases e : j = i
      · subst e; simpa using hp
      · exact zFx_m1 n (i + 1) (by omega) h j (by omega) (by omega)
theorem zun_app {l : List zMv} (h8 : l.length ≤ 8) (hu : zun l) {x : zMv} (h : zFw l 0 x.1 = -1) : zun (l ++ [x]) := by
  unfold zun at hu ⊢
  rw [List.map_append]
  refine List.nodup_append.mpr ⟨hu, by simp, fun a ha b hb => ?_⟩
  have hb : b = x.1 := by simpa using hb
  subst hb
  intro e
  subst e
  obtain ⟨m, hm, e⟩ := List.mem_map.mp ha
  obtain ⟨i, hi, e2⟩ := List.getElem_of_mem hm
  have := zFx_m1 l.length 0 (by omega) h i (by omega) (by omega)
  have := of_decide_eq_false this
  apply this
  rw [List.getD_eq_getElem?_getD, List.getElem?_eq_getElem hi]
  show l[i].1 = _
  rw [e2, e]
theorem zBeg_gd (hg : zGd S) (htg : ∀ s, s < 32 → zow (tg s)) {s : Nat} (hs : s < 32) (hc : zCan tg S s = true) (h8 : (sM S).length < 8) : zGd (zBeg tg S s) ∧ sM (zBeg tg S s) = sM S ++ [(nI s, sO S s, tg s, 0)] := by
  have e : sM (zBeg tg S s) = sM S ++ [(nI s, sO S s, tg s, 0)] := by
    show zapp 8 (sM S) (nI s, sO S s, tg s, 0) = _
    unfold zapp
    rw [if_pos h8]
  refine ⟨⟨hg.1, fun m hm => ?_, ?_⟩, e⟩
  · rw [e] at hm
    rcases List.mem_append.mp hm with h | h
    · exact hg.2.1 m h
    · have h : m = (nI s, sO S s, tg s, 0) := by simpa using h
      subst h
      refine ⟨s, 0, hs, rfl, hg.1 s hs, ?_, (zsz_r s hs).1, rfl⟩
      rcases htg s hs with h1 | h1
      · unfold zCan at hc; rw [h1] at hc; simp at hc
      · exact h1
  · rw [e]
    refine zun_app (by omega) hg.2.2 ?_
    unfold zCan at hc
    simp only [Bool.and_eq_true, decide_eq_true_eq] at hc
    exact hc.1.2
theorem M_bgw {r s L B : Nat} {o d t1 : Int32} {G2 : Nat → Nat → Int32} (hs : s < 32) (hL : L < B) (hB : B ≤ 8) (hr : r < 2000) (em : r - r / 32 * 32 = s) (h10 : G 123 10 = nI L) (eO : G 123 (28 + s) = o) (eT : G 133 s = d) (t1h : G 123 4 = t1) (q10 : G2 123 10 = nI (L + 1)) (q1 : G2 123 1 = nI B)
    (c2 : zcal zTT jM_tells [.ref 122, .int 0, .int (nI s), .int d] (zhp (zw (zw (zw4 G (92 + 4 * L) (nI s) o d 0) 123 10 (nI (L + 1))) 123 4 (t1 + 1))) = some (none, zhp G2)) (v : Value) (y : zRt × zHp) (hy : zEv zTT (zco mM_begin) kM_begin_22 [.ref 122, .int (if L + 1 < B then 1 else 0), .int (nI r), .int (nI s), .int (nI (92 + 4 * L))] [] (zhp G2) y) : zEv zTT (zco mM_begin) kM_begin_71 [.ref 122, .int 1, .int (nI r), .int (nI 32), v] [] (zhp G) y := by
  have e10 : (nI 10).toNatClampNeg = 10 := by decide
  have z10 : zi (nI 10) 340 = true := by decide
  have e4 : (nI 4).toNatClampNeg = 4 := by decide
  have z4 : zi (nI 4) 340 = true := by decide
  have e1 : (1 : Int32).toNatClampNeg = 1 := by decide
  have z1 : zi 1 340 = true := by decide
  have n32 : (nI 32 = 0) = False := by decide
  have rO : zw G 123 (92 + 4 * L) (nI s) 123 (28 + s) = o := by rw [zw_ne _ (Or.inr (by omega))]; exact eO
  have rT : zw (zw G 123 (92 + 4 * L) (nI s)) 123 (92 + 4 * L + 1) o 133 s = d := by rw [zw_ne _ (Or.inl (by omega)), zw_ne _ (Or.inl (by omega))]; exact eT
  have r10 : zw (zw (zw (zw G 123 (92 + 4 * L) (nI s)) 123 (92 + 4 * L + 1) o) 123 (92 + 4 * L + 2) d) 123 (92 + 4 * L + 3) 0 123 10 = nI L := by
    rw [zw_ne _ (Or.inr (by omega)), zw_ne _ (Or.inr (by omega)), zw_ne _ (Or.inr (by omega)), zw_ne _ (Or.inr (by omega))]; exact h10
  have r4 : zw (zw (zw (zw (zw G 123 (92 + 4 * L) (nI s)) 123 (92 + 4 * L + 1) o) 123 (92 + 4 * L + 2) d) 123 (92 + 4 * L + 3) 0) 123 10 (nI (L + 1)) 123 4 = t1 := by
    rw [zw_ne _ (Or.inr (by omega)), zw_ne _ (Or.inr (by omega)), zw_ne _ (Or.inr (by omega)), zw_ne _ (Or.inr (by omega)), zw_ne _ (Or.inr (by omega))]; exact t1h
  have rT2 : zw (zw (zw (zw (zw (zw G 123 (92 + 4 * L) (nI s)) 123 (92 + 4 * L + 1) o) 123 (92 + 4 * L + 2) d) 123 (92 + 4 * L + 3) 0) 123 10 (nI (L + 1))) 123 4 (t1 + 1) 133 s = d := by
    rw [zw_ne _ (Or.inl (by omega)), zw_ne _ (Or.inl (by omega)), zw_ne _ (Or.inl (by omega)), zw_ne _ (Or.inl (by omega)), zw_ne _ (Or.inl (by omega)), zw_ne _ (Or.inl (by omega))]; exact eT
  unfold zw4 at c2
  have hdv : r / 32 * 32 ≤ r := Nat.div_mul_le_self _ _
  rw [kM_begin_71]
  by_cases hlt : L + 1 < B
  · rw [if_pos hlt] at hy
    simp only [kM_begin_0, kM_begin_20, kM_begin_21, kM_begin_30, kM_begin_58, kM_begin_63, kM_begin_64, kM_begin_178, kM_begin_202, kM_begin_203, kM_begin_207, zjM_begin_20, zjM_begin_21, zjM_begin_22, zjM_begin_30, zjM_begin_58, zjM_begin_63, zjM_begin_64, zjM_begin_71, zjM_begin_178, zjM_begin_202, zjM_begin_203, zjM_begin_207, ev_iload, ev_aload, ev_istore, ev_astore, ev_iconst, ev_null, ev_iinc, ev_iadd, ev_isub, ev_imul, ev_iand, ev_ior, ev_ixor, ev_ishl, ev_ishr, ev_iushr, ev_idiv, ev_irem, ev_icmp, ev_if, ev_ifnull, ev_ifnullN, ev_goto, ev_dupi, ev_dupr, ev_dup2, ev_pop, ev_getf, ev_puti, ev_putr, ev_iald, ev_cald, ev_aald, ev_iast, ev_cast, ev_alen, ev_tsw, ev_lsw, ev_max, ev_min, ev_obj, ev_cp, ev_throw, ev_iret, ev_aret, ev_aretN, ev_ret, ev_new, ev_newa, ev_anew, ev_is0, ev_is1, ev_is2, ev_is3, ev_is4, ev_iv1, ev_iv2, ev_iv3, ev_iv4, ev_iv5, ev_ip1, ev_ip2, zlg_0, zls_0, zlg_1, zls_1, zlg_2, zls_2, zlg_3, zls_3, zlg_4, zls_4, zlg_5, zls_5, zlg_6, zls_6, zlg_7, zls_7, zlg_8, zls_8, zlg_9, zls_9, zlg_10, zls_10, zlg_11, zls_11, ev_jif, zLI_i, zLR_r, zOV_s, List.length_cons, List.length_nil, zcd, decide_eq_true_eq, true_and, and_true, Option.toList_some, Option.toList_none, List.cons_append, List.nil_append, zrf, if_true, if_false, true_or, or_true, false_or, or_false, and_self, zwr_w, zG_hp, Nat.reduceAdd, Nat.reduceLT, Nat.reduceLeDiff, Nat.zero_le, reduceIte, not_true_eq_false, not_false_eq_true, Prod.mk.injEq, Sum.inl.injEq, Option.some.injEq, Value.int.injEq, Value.ref.injEq, zsw, ev_jif, zB01, Bool.false_eq_true, one_ne, zero_eqone, nI_1, gT0_0, gT0_1, gT0_2, gT0_3, gT0_4, gT0_5, gT0_6, gT0_7, oT0, aT1, aT2, aT3, aT4, aT5, aT6, gT7_0, pgT7_0, gT7_1, gT7_2, pgT7_2, oT7, aT8, gT9_0, pgT9_0, gT9_1, gT9_2, pgT9_2, oT9, aT10, gP0_0, gP0_1, gP0_2, gP0_3, gP0_4, gP0_5, gP0_6, gP0_7, pgP0_7, gP0_8, pgP0_8, oP0, aP1, aP2, aP3, aP4, aP5, aP6, gR0_0, pgR0_0, gR0_1, gR0_2, pgR0_2, oR0, aR1, g0_0, g0_1, g0_2, g0_3, g0_4, g0_5, g0_6, g0_7, pg0_7, g0_8, pg0_8, o0, g34_0, g34_1, pg34_1, g34_2, pg34_2, o34, g102_0, g102_1, pg102_1, g102_2, pg102_2, g102_3, g102_4, g102_5, g102_6, pg102_6, o102, g122_0, g122_1, g122_2, g122_3, pg122_3, g122_4, g122_5, pg122_5, g122_6, pg122_6, g122_7, g122_8, g122_9, pg122_9, g122_10, g122_11, g122_12, g122_13, g122_14, g122_15, g122_16, g122_17, g122_18, pg122_18, g122_19, g122_20, pg122_20, g122_21, pg122_21, g122_22, pg122_22, g122_23, o122, a103, a104, a105, a106, a107, a123, a124, a125, a126, a127, a128, a129, a130, a131, a132, a133, a134, a135, a136, a137, a138, q35, zisT_1, zisT_12, zisT_23, zisT_36, zisT_47, zisT_58, zisT_69, zisT_80, zisT_91, zisP_108, zisP_115, zisR_8, zisR_10, zisR_19, zisR_21, zisR_30, zisR_32, zisR_43, zisR_45, zisR_54, zisR_56, zisR_65, zisR_67, zisR_76, zisR_78, zisR_87, zisR_89, zisR_98, zisR_100, id zisT_1, id zisT_12, id zisT_23, id zisP_108, id zisP_115, id (zisR_T7 zisT_1), id (zisR_T9 zisT_1), zlt_0 (s := r) (by omega), znn (s := r) (by omega), n32, zdiv (a := r) (b := 32) (by omega) (by omega) (by omega), zmul, zsub (a := r) (b := r / 32 * 32) hdv, em, a123, e10, z10, h10, nI_add, zi_n (s := 92 + 4 * L) (n := 340) (by omega) (by omega), zcl_n (s := 92 + 4 * L) (by omega), zi_n (s := 92 + 4 * L + 1) (n := 340) (by omega) (by omega), zcl_n (s := 92 + 4 * L + 1) (by omega), zi_n (s := 92 + 4 * L + 2) (n := 340) (by omega) (by omega), zcl_n (s := 92 + 4 * L + 2) (by omega), zi_n (s := 92 + 4 * L + 3) (n := 340) (by omega) (by omega), zcl_n (s := 92 + 4 * L + 3) (by omega), zi_n (s := 28 + s) (n := 340) (by omega) (by omega), zcl_n (s := 28 + s) (by omega), zi_n (s := s) (n := 32) (by omega) (by omega), zcl_n (s := s) (by omega), rO, rT, r10, e4, z4, r4, rT2, c2, q10, e1, z1, q1, zle_f (s := L + 1) (n := B) (by omega) (by omega), zlt_t (s := L + 1) (n := B) (by omega) (by omega)]
    exact hy
  · rw [if_neg hlt] at hy
    simp only [kM_begin_0, kM_begin_20, kM_begin_21, kM_begin_30, kM_begin_58, kM_begin_63, kM_begin_64, kM_begin_178, kM_begin_202, kM_begin_203, kM_begin_207, zjM_begin_20, zjM_begin_21, zjM_begin_22, zjM_begin_30, zjM_begin_58, zjM_begin_63, zjM_begin_64, zjM_begin_71, zjM_begin_178, zjM_begin_202, zjM_begin_203, zjM_begin_207, ev_iload, ev_aload, ev_istore, ev_astore, ev_iconst, ev_null, ev_iinc, ev_iadd, ev_isub, ev_imul, ev_iand, ev_ior, ev_ixor, ev_ishl, ev_ishr, ev_iushr, ev_idiv, ev_irem, ev_icmp, ev_if, ev_ifnull, ev_ifnullN, ev_goto, ev_dupi, ev_dupr, ev_dup2, ev_pop, ev_getf, ev_puti, ev_putr, ev_iald, ev_cald, ev_aald, ev_iast, ev_cast, ev_alen, ev_tsw, ev_lsw, ev_max, ev_min, ev_obj, ev_cp, ev_throw, ev_iret, ev_aret, ev_aretN, ev_ret, ev_new, ev_newa, ev_anew, ev_is0, ev_is1, ev_is2, ev_is3, ev_is4, ev_iv1, ev_iv2, ev_iv3, ev_iv4, ev_iv5, ev_ip1, ev_ip2, zlg_0, zls_0, zlg_1, zls_1, zlg_2, zls_2, zlg_3, zls_3, zlg_4, zls_4, zlg_5, zls_5, zlg_6, zls_6, zlg_7, zls_7, zlg_8, zls_8, zlg_9, zls_9, zlg_10, zls_10, zlg_11, zls_11, ev_jif, zLI_i, zLR_r, zOV_s, List.length_cons, List.length_nil, zcd, decide_eq_true_eq, true_and, and_true, Option.toList_some, Option.toList_none, List.cons_append, List.nil_append, zrf, if_true, if_false, true_or, or_true, false_or, or_false, and_self, zwr_w, zG_hp, Nat.reduceAdd, Nat.reduceLT, Nat.reduceLeDiff, Nat.zero_le, reduceIte, not_true_eq_false, not_false_eq_true, Prod.mk.injEq, Sum.inl.injEq, Option.some.injEq, Value.int.injEq, Value.ref.injEq, zsw, ev_jif, zB01, Bool.false_eq_true, one_ne, zero_eqone, nI_1, gT0_0, gT0_1, gT0_2, gT0_3, gT0_4, gT0_5, gT0_6, gT0_7, oT0, aT1, aT2, aT3, aT4, aT5, aT6, gT7_0, pgT7_0, gT7_1, gT7_2, pgT7_2, oT7, aT8, gT9_0, pgT9_0, gT9_1, gT9_2, pgT9_2, oT9, aT10, gP0_0, gP0_1, gP0_2, gP0_3, gP0_4, gP0_5, gP0_6, gP0_7, pgP0_7, gP0_8, pgP0_8, oP0, aP1, aP2, aP3, aP4, aP5, aP6, gR0_0, pgR0_0, gR0_1, gR0_2, pgR0_2, oR0, aR1, g0_0, g0_1, g0_2, g0_3, g0_4, g0_5, g0_6, g0_7, pg0_7, g0_8, pg0_8, o0, g34_0, g34_1, pg34_1, g34_2, pg34_2, o34, g102_0, g102_1, pg102_1, g102_2, pg102_2, g102_3, g102_4, g102_5, g102_6, pg102_6, o102, g122_0, g122_1, g122_2, g122_3, pg122_3, g122_4, g122_5, pg122_5, g122_6, pg122_6, g122_7, g122_8, g122_9, pg122_9, g122_10, g122_11, g122_12, g122_13, g122_14, g122_15, g122_16, g122_17, g122_18, pg122_18, g122_19, g122_20, pg122_20, g122_21, pg122_21, g122_22, pg122_22, g122_23, o122, a103, a104, a105, a106, a107, a123, a124, a125, a126, a127, a128, a129, a130, a131, a132, a133, a134, a135, a136, a137, a138, q35, zisT_1, zisT_12, zisT_23, zisT_36, zisT_47, zisT_58, zisT_69, zisT_80, zisT_91, zisP_108, zisP_115, zisR_8, zisR_10, zisR_19, zisR_21, zisR_30, zisR_32, zisR_43, zisR_45, zisR_54, zisR_56, zisR_65, zisR_67, zisR_76, zisR_78, zisR_87, zisR_89, zisR_98, zisR_100, id zisT_1, id zisT_12, id zisT_23, id zisP_108, id zisP_115, id (zisR_T7 zisT_1), id (zisR_T9 zisT_1), zlt_0 (s := r) (by omega), znn (s := r) (by omega), n32, zdiv (a := r) (b := 32) (by omega) (by omega) (by omega), zmul, zsub (a := r) (b := r / 32 * 32) hdv, em, a123, e10, z10, h10, nI_add, zi_n (s := 92 + 4 * L) (n := 340) (by omega) (by omega), zcl_n (s := 92 + 4 * L) (by omega), zi_n (s := 92 + 4 * L + 1) (n := 340) (by omega) (by omega), zcl_n (s := 92 + 4 * L + 1) (by omega), zi_n (s := 92 + 4 * L + 2) (n := 340) (by omega) (by omega), zcl_n (s := 92 + 4 * L + 2) (by omega), zi_n (s := 92 + 4 * L + 3) (n := 340) (by omega) (by omega), zcl_n (s := 92 + 4 * L + 3) (by omega), zi_n (s := 28 + s) (n := 340) (by omega) (by omega), zcl_n (s := 28 + s) (by omega), zi_n (s := s) (n := 32) (by omega) (by omega), zcl_n (s := s) (by omega), rO, rT, r10, e4, z4, r4, rT2, c2, q10, e1, z1, q1, zle_t (s := L + 1) (n := B) (by omega) (by omega), zlt_f (s := L + 1) (n := B) (by omega) (by omega)]
    exact hy
theorem M_bg1 (hM : zMO G S) (ht : zAg 32 (G 133) tg) {B : Nat} (hB : B ≤ 8) (hC : sC S 1 = nI B) (hl : (sM S).length < B) {s : Nat} (hs : s < 32) : ∃ G2, zMO G2 (zBeg tg S s) ∧ (∀ a, a ≠ 123 → G2 a = G a) ∧ ∀ v y, zEv zTT (zco mM_begin) kM_begin_22 [.ref 122, .int (if (sM S).length + 1 < B then 1 else 0), .int (nI (zrv S s)), .int (nI s), .int (nI (92 + 4 * (sM S).length))] [] (zhp G2) y → zEv zTT (zco mM_begin) kM_begin_71 [.ref 122, .int 1, .int (nI (zrv S s)), .int (nI 32), v] [] (zhp G) y := by
  obtain ⟨h10, h8, hmv⟩ := hM.2.2.2.2.2.2.1
  have hr := zrv_b (S := S) hs
  have eO : G 123 (28 + s) = sO S s := hM.2.2.2.2.1 s hs
  have eT : G 133 s = tg s := ht s hs
  have t1 : G 123 4 = sT S 1 := hM.2.1 1 (by omega)
  have c1 : G 123 1 = nI B := (hM.1 1 (by omega)).trans hC
  have em : zrv S s - zrv S s / 32 * 32 = s := by unfold zrv; omega
  generalize zrv S s = r at *
  obtain ⟨L, hL⟩ : ∃ L, L = (sM S).length := ⟨_, rfl⟩
  obtain ⟨l, hle⟩ : ∃ l, l = zapp 8 (sM S) (nI s, sO S s, tg s, 0) := ⟨_, rfl⟩
  have hl1 : l = sM S ++ [(nI s, sO S s, tg s, 0)] := by rw [hle]; unfold zapp; rw [if_pos (by omega)]
  have hll : l.length = L + 1 := by rw [hl1, List.length_append, hL]; rfl
  have sM1 : zMO (zw (zw4 G (92 + 4 * L) (nI s) (sO S s) (tg s) 0) 123 10 (nI (L + 1))) (uM S l) := by
    refine hM.vM (fun k h1 h2 => by rw [zw_ne _ (Or.inr h1), zw4_ne (by omega)]) ⟨by rw [zw_eq, hll], by rw [hll]; omega, fun i k hi hk => ?_⟩
    rw [hll] at hi
    rw [zw_ne _ (Or.inr (by omega)), hl1, zgd_app]
    by_cases h : i < (sM S).length
    · rw [if_pos h, zw4_ne (by omega)]; exact hmv i k h hk
    · have : i = L := by omega
      subst this
      rw [if_neg h, if_pos hL, zw4_at hk]
  have sM2 := sM1.vT (n := 1) (by omega) (sT S 1 + 1)
  have e31 : 3 + 1 = 4 := rfl
  rw [e31] at sM2
  obtain ⟨G2, c2, s2, f2⟩ := M_tells sM2 0 (nI s) (tg s)
  have q10 : G2 123 10 = nI (L + 1) := by
    have := s2.2.2.2.2.2.2.1.1
    rw [this, ← hll]
    rfl
  have q1 : G2 123 1 = nI B := (s2.1 1 (by omega)).trans hC
  have eb : zBeg tg S s = zNote (uT (uM S l) (upd (sT S) 1 (sT S 1 + 1))) 0 (nI s) (tg s) := by unfold zBeg; rw [← hle]
  refine ⟨G2, by rw [eb]; exact s2, fun a ha => by rw [f2 a ha, zw_oth _ ha, zw_oth _ ha, zw4_oth ha], fun v y hy => ?_⟩
  rw [← hL] at h10 hl hy
  exact M_bgw hs hl hB hr em h10 eO eT t1 q10 q1 c2 v y hy
theorem M_begin (hM : zMO G S) (hz : zSI G) (hg : zGd S) (ht : zAg 32 (G 133) tg) (htg : ∀ s, s < 32 → zow (tg s)) {B : Nat} (hB : B ≤ 8) (hC : sC S 1 = nI B) : ∃ G', zcal zTT jM_begin [.ref 122] (zhp G) = some (none, zhp G') ∧ zMO G' (zBg tg (B - (sM S).length) S) ∧ ∀ a, a ≠ 123 → G' a = G a := by
  have e10 : (nI 10).toNatClampNeg = 10 := by decide
  have z10 : zi (nI 10) 340 = true := by decide
  have e1 : (1 : Int32).toNatClampNeg = 1 := by decide
  have z1 : zi 1 340 = true := by decide
  have key : ∀ n (U : zSt) (G1 : Nat → Nat → Int32) v2 v3 v4, n = B - (sM U).length → zMO G1 U → zGd U → sC U 1 = nI B → (∀ a, a ≠ 123 → G1 a = G a) → ∃ G', zEv zTT (zco mM_begin) kM_begin_22 [.ref 122, .int (if (sM U).length < B then 1 else 0), v2, v3, v4] [] (zhp G1) (.inl none, zhp G') ∧ zMO G' (zBg tg n U) ∧ ∀ a, a ≠ 123 → G' a = G a := by
    intro n
    induction n with
    | zero =>
      intro U G1 v2 v3 v4 hn h1 _ _ hF
      refine ⟨G1, ?_, h1, hF⟩
      rw [if_neg (by omega)]
      rw [kM_begin_22]
      simp only [kM_begin_0, kM_begin_20, kM_begin_21, kM_begin_58, kM_begin_63, kM_begin_64, kM_begin_178, kM_begin_202, kM_begin_203, kM_begin_207, zjM_begin_20, zjM_begin_21, zjM_begin_22, zjM_begin_30, zjM_begin_58, zjM_begin_63, zjM_begin_64, zjM_begin_71, zjM_begin_178, zjM_begin_202, zjM_begin_203, zjM_begin_207, ev_iload, ev_aload, ev_istore, ev_astore, ev_iconst, ev_null, ev_iinc, ev_iadd, ev_isub, ev_imul, ev_iand, ev_ior, ev_ixor, ev_ishl, ev_ishr, ev_iushr, ev_idiv, ev_irem, ev_icmp, ev_if, ev_ifnull, ev_ifnullN, ev_goto, ev_dupi, ev_dupr, ev_dup2, ev_pop, ev_getf, ev_puti, ev_putr, ev_iald, ev_cald, ev_aald, ev_iast, ev_cast, ev_alen, ev_tsw, ev_lsw, ev_max, ev_min, ev_obj, ev_cp, ev_throw, ev_iret, ev_aret, ev_aretN, ev_ret, ev_new, ev_newa, ev_anew, ev_is0, ev_is1, ev_is2, ev_is3, ev_is4, ev_iv1, ev_iv2, ev_iv3, ev_iv4, ev_iv5, ev_ip1, ev_ip2, zlg_0, zls_0, zlg_1, zls_1, zlg_2, zls_2, zlg_3, zls_3, zlg_4, zls_4, zlg_5, zls_5, zlg_6, zls_6, zlg_7, zls_7, zlg_8, zls_8, zlg_9, zls_9, zlg_10, zls_10, zlg_11, zls_11, ev_jif, zLI_i, zLR_r, zOV_s, List.length_cons, List.length_nil, zcd, decide_eq_true_eq, true_and, and_true, Option.toList_some, Option.toList_none, List.cons_append, List.nil_append, zrf, if_true, if_false, true_or, or_true, false_or, or_false, and_self, zwr_w, zG_hp, Nat.reduceAdd, Nat.reduceLT, Nat.reduceLeDiff, Nat.zero_le, reduceIte, not_true_eq_false, not_false_eq_true, Prod.mk.injEq, Sum.inl.injEq, Option.some.injEq, Value.int.injEq, Value.ref.injEq, zsw, ev_jif, zB01, Bool.false_eq_true, one_ne, zero_eqone, nI_1, gT0_0, gT0_1, gT0_2, gT0_3, gT0_4, gT0_5, gT0_6, gT0_7, oT0, aT1, aT2, aT3, aT4, aT5, aT6, gT7_0, pgT7_0, gT7_1, gT7_2, pgT7_2, oT7, aT8, gT9_0, pgT9_0, gT9_1, gT9_2, pgT9_2, oT9, aT10, gP0_0, gP0_1, gP0_2, gP0_3, gP0_4, gP0_5, gP0_6, gP0_7, pgP0_7, gP0_8, pgP0_8, oP0, aP1, aP2, aP3, aP4, aP5, aP6, gR0_0, pgR0_0, gR0_1, gR0_2, pgR0_2, oR0, aR1, g0_0, g0_1, g0_2, g0_3, g0_4, g0_5, g0_6, g0_7, pg0_7, g0_8, pg0_8, o0, g34_0, g34_1, pg34_1, g34_2, pg34_2, o34, g102_0, g102_1, pg102_1, g102_2, pg102_2, g102_3, g102_4, g102_5, g102_6, pg102_6, o102, g122_0, g122_1, g122_2, g122_3, pg122_3, g122_4, g122_5, pg122_5, g122_6, pg122_6, g122_7, g122_8, g122_9, pg122_9, g122_10, g122_11, g122_12, g122_13, g122_14, g122_15, g122_16, g122_17, g122_18, pg122_18, g122_19, g122_20, pg122_20, g122_21, pg122_21, g122_22, pg122_22, g122_23, o122, a103, a104, a105, a106, a107, a123, a124, a125, a126, a127, a128, a129, a130, a131, a132, a133, a134, a135, a136, a137, a138, q35, zisT_1, zisT_12, zisT_23, zisT_36, zisT_47, zisT_58, zisT_69, zisT_80, zisT_91, zisP_108, zisP_115, zisR_8, zisR_10, zisR_19, zisR_21, zisR_30, zisR_32, zisR_43, zisR_45, zisR_54, zisR_56, zisR_65, zisR_67, zisR_76, zisR_78, zisR_87, zisR_89, zisR_98, zisR_100, id zisT_1, id zisT_12, id zisT_23, id zisP_108, id zisP_115, id (zisR_T7 zisT_1), id (zisR_T9 zisT_1)]
    | succ n ih =>
      intro U G1 v2 v3 v4 hn h1 hg1 hC1 hF
      have hlt : (sM U).length < B := by omega
      have htU : zAg 32 (G1 133) tg := by rw [hF 133 (by omega)]; exact ht
      have hzU : zSI G1 := fun s hs => by rw [hF 127 (by omega)]; exact hz s hs
      rw [if_pos hlt, zBg]
      rcases zBr_bes tg U 32 (Nat.le_refl _) with ⟨g1, g2⟩ | ⟨s, hs, g1, g2, g3⟩
      · rw [if_pos g1]
        refine ⟨G1, ?_, h1, hF⟩
        have em : ((-1 : Int32) < 0) = True := by decide
        have bl := M_bl (zCan tg U) (zrv U) (zBr tg U) (fun s hs => M_rank h1 hzU hg1.2.2 htU hs (hg1.1 s hs) (htg s hs)) (fun s hs => zrv_b hs) (fun s => rfl) (fun s hs => zBr_or tg U hs) 1 (.inl none, zhp G1) (by
          intro v
          rw [g2, kM_begin_71]
          simp only [kM_begin_0, kM_begin_20, kM_begin_21, kM_begin_22, kM_begin_58, kM_begin_63, kM_begin_64, kM_begin_178, kM_begin_202, kM_begin_203, kM_begin_207, zjM_begin_20, zjM_begin_21, zjM_begin_22, zjM_begin_30, zjM_begin_58, zjM_begin_63, zjM_begin_64, zjM_begin_71, zjM_begin_178, zjM_begin_202, zjM_begin_203, zjM_begin_207, ev_iload, ev_aload, ev_istore, ev_astore, ev_iconst, ev_null, ev_iinc, ev_iadd, ev_isub, ev_imul, ev_iand, ev_ior, ev_ixor, ev_ishl, ev_ishr, ev_iushr, ev_idiv, ev_irem, ev_icmp, ev_if, ev_ifnull, ev_ifnullN, ev_goto, ev_dupi, ev_dupr, ev_dup2, ev_pop, ev_getf, ev_puti, ev_putr, ev_iald, ev_cald, ev_aald, ev_iast, ev_cast, ev_alen, ev_tsw, ev_lsw, ev_max, ev_min, ev_obj, ev_cp, ev_throw, ev_iret, ev_aret, ev_aretN, ev_ret, ev_new, ev_newa, ev_anew, ev_is0, ev_is1, ev_is2, ev_is3, ev_is4, ev_iv1, ev_iv2, ev_iv3, ev_iv4, ev_iv5, ev_ip1, ev_ip2, zlg_0, zls_0, zlg_1, zls_1, zlg_2, zls_2, zlg_3, zls_3, zlg_4, zls_4, zlg_5, zls_5, zlg_6, zls_6, zlg_7, zls_7, zlg_8, zls_8, zlg_9, zls_9, zlg_10, zls_10, zlg_11, zls_11, ev_jif, zLI_i, zLR_r, zOV_s, List.length_cons, List.length_nil, zcd, decide_eq_true_eq, true_and, and_true, Option.toList_some, Option.toList_none, List.cons_append, List.nil_append, zrf, if_true, if_false, true_or, or_true, false_or, or_false, and_self, zwr_w, zG_hp, Nat.reduceAdd, Nat.reduceLT, Nat.reduceLeDiff, Nat.zero_le, reduceIte, not_true_eq_false, not_false_eq_true, Prod.mk.injEq, Sum.inl.injEq, Option.some.injEq, Value.int.injEq, Value.ref.injEq, zsw, ev_jif, zB01, Bool.false_eq_true, one_ne, zero_eqone, nI_1, gT0_0, gT0_1, gT0_2, gT0_3, gT0_4, gT0_5, gT0_6, gT0_7, oT0, aT1, aT2, aT3, aT4, aT5, aT6, gT7_0, pgT7_0, gT7_1, gT7_2, pgT7_2, oT7, aT8, gT9_0, pgT9_0, gT9_1, gT9_2, pgT9_2, oT9, aT10, gP0_0, gP0_1, gP0_2, gP0_3, gP0_4, gP0_5, gP0_6, gP0_7, pgP0_7, gP0_8, pgP0_8, oP0, aP1, aP2, aP3, aP4, aP5, aP6, gR0_0, pgR0_0, gR0_1, gR0_2, pgR0_2, oR0, aR1, g0_0, g0_1, g0_2, g0_3, g0_4, g0_5, g0_6, g0_7, pg0_7, g0_8, pg0_8, o0, g34_0, g34_1, pg34_1, g34_2, pg34_2, o34, g102_0, g102_1, pg102_1, g102_2, pg102_2, g102_3, g102_4, g102_5, g102_6, pg102_6, o102, g122_0, g122_1, g122_2, g122_3, pg122_3, g122_4, g122_5, pg122_5, g122_6, pg122_6, g122_7, g122_8, g122_9, pg122_9, g122_10, g122_11, g122_12, g122_13, g122_14, g122_15, g122_16, g122_17, g122_18, pg122_18, g122_19, g122_20, pg122_20, g122_21, pg122_21, g122_22, pg122_22, g122_23, o122, a103, a104, a105, a106, a107, a123, a124, a125, a126, a127, a128, a129, a130, a131, a132, a133, a134, a135, a136, a137, a138, q35, zisT_1, zisT_12, zisT_23, zisT_36, zisT_47, zisT_58, zisT_69, zisT_80, zisT_91, zisP_108, zisP_115, zisR_8, zisR_10, zisR_19, zisR_21, zisR_30, zisR_32, zisR_43, zisR_45, zisR_54, zisR_56, zisR_65, zisR_67, zisR_76, zisR_78, zisR_87, zisR_89, zisR_98, zisR_100, id zisT_1, id zisT_12, id zisT_23, id zisP_108, id zisP_115, id (zisR_T7 zisT_1), id (zisR_T9 zisT_1), em]) 32 0 v4 rfl
        have e0 : zBr tg U 0 = -1 := rfl
        rw [e0] at bl
        rw [kM_begin_22]
        simp only [kM_begin_0, kM_begin_20, kM_begin_21, kM_begin_58, kM_begin_63, kM_begin_64, kM_begin_178, kM_begin_202, kM_begin_203, kM_begin_207, zjM_begin_20, zjM_begin_21, zjM_begin_22, zjM_begin_30, zjM_begin_58, zjM_begin_63, zjM_begin_64, zjM_begin_71, zjM_begin_178, zjM_begin_202, zjM_begin_203, zjM_begin_207, ev_iload, ev_aload, ev_istore, ev_astore, ev_iconst, ev_null, ev_iinc, ev_iadd, ev_isub, ev_imul, ev_iand, ev_ior, ev_ixor, ev_ishl, ev_ishr, ev_iushr, ev_idiv, ev_irem, ev_icmp, ev_if, ev_ifnull, ev_ifnullN, ev_goto, ev_dupi, ev_dupr, ev_dup2, ev_pop, ev_getf, ev_puti, ev_putr, ev_iald, ev_cald, ev_aald, ev_iast, ev_cast, ev_alen, ev_tsw, ev_lsw, ev_max, ev_min, ev_obj, ev_cp, ev_throw, ev_iret, ev_aret, ev_aretN, ev_ret, ev_new, ev_newa, ev_anew, ev_is0, ev_is1, ev_is2, ev_is3, ev_is4, ev_iv1, ev_iv2, ev_iv3, ev_iv4, ev_iv5, ev_ip1, ev_ip2, zlg_0, zls_0, zlg_1, zls_1, zlg_2, zls_2, zlg_3, zls_3, zlg_4, zls_4, zlg_5, zls_5, zlg_6, zls_6, zlg_7, zls_7, zlg_8, zls_8, zlg_9, zls_9, zlg_10, zls_10, zlg_11, zls_11, ev_jif, zLI_i, zLR_r, zOV_s, List.length_cons, List.length_nil, zcd, decide_eq_true_eq, true_and, and_true, Option.toList_some, Option.toList_none, List.cons_append, List.nil_append, zrf, if_true, if_false, true_or, or_true, false_or, or_false, and_self, zwr_w, zG_hp, Nat.reduceAdd, Nat.reduceLT, Nat.reduceLeDiff, Nat.zero_le, reduceIte, not_true_eq_false, not_false_eq_true, Prod.mk.injEq, Sum.inl.injEq, Option.some.injEq, Value.int.injEq, Value.ref.injEq, zsw, ev_jif, zB01, Bool.false_eq_true, one_ne, zero_eqone, nI_1, gT0_0, gT0_1, gT0_2, gT0_3, gT0_4, gT0_5, gT0_6, gT0_7, oT0, aT1, aT2, aT3, aT4, aT5, aT6, gT7_0, pgT7_0, gT7_1, gT7_2, pgT7_2, oT7, aT8, gT9_0, pgT9_0, gT9_1, gT9_2, pgT9_2, oT9, aT10, gP0_0, gP0_1, gP0_2, gP0_3, gP0_4, gP0_5, gP0_6, gP0_7, pgP0_7, gP0_8, pgP0_8, oP0, aP1, aP2, aP3, aP4, aP5, aP6, gR0_0, pgR0_0, gR0_1, gR0_2, pgR0_2, oR0, aR1, g0_0, g0_1, g0_2, g0_3, g0_4, g0_5, g0_6, g0_7, pg0_7, g0_8, pg0_8, o0, g34_0, g34_1, pg34_1, g34_2, pg34_2, o34, g102_0, g102_1, pg102_1, g102_2, pg102_2, g102_3, g102_4, g102_5, g102_6, pg102_6, o102, g122_0, g122_1, g122_2, g122_3, pg122_3, g122_4, g122_5, pg122_5, g122_6, pg122_6, g122_7, g122_8, g122_9, pg122_9, g122_10, g122_11, g122_12, g122_13, g122_14, g122_15, g122_16, g122_17, g122_18, pg122_18, g122_19, g122_20, pg122_20, g122_21, pg122_21, g122_22, pg122_22, g122_23, o122, a103, a104, a105, a106, a107, a123, a124, a125, a126, a127, a128, a129, a130, a131, a132, a133, a134, a135, a136, a137, a138, q35, zisT_1, zisT_12, zisT_23, zisT_36, zisT_47, zisT_58, zisT_69, zisT_80, zisT_91, zisP_108, zisP_115, zisR_8, zisR_10, zisR_19, zisR_21, zisR_30, zisR_32, zisR_43, zisR_45, zisR_54, zisR_56, zisR_65, zisR_67, zisR_76, zisR_78, zisR_87, zisR_89, zisR_98, zisR_100, id zisT_1, id zisT_12, id zisT_23, id zisP_108, id zisP_115, id (zisR_T7 zisT_1), id (zisR_T9 zisT_1)]
        exact bl
      · have g1' : (zBes tg U 32).1 = nI s := by rw [g1]
        rw [if_neg (by rw [g1', zeq_m1 (by omega)]; exact id), g1', zcl_n (by omega)]
        obtain ⟨hgb, hlb⟩ := zBeg_gd hg1 htg hs g3 (by omega)
        obtain ⟨G2, s2, f2, y2⟩ := M_bg1 h1 htU hB hC1 hlt hs
        have hlb1 : (sM (zBeg tg U s)).length = (sM U).length + 1 := by rw [hlb, List.length_append, List.length_singleton]
        obtain ⟨G', q1, q2, q3⟩ := ih (zBeg tg U s) G2 (.int (nI (zrv U s))) (.int (nI s)) (.int (nI (92 + 4 * (sM U).length))) (by omega) s2 hgb hC1 (fun a ha => (f2 a ha).trans (hF a ha))
        rw [hlb1] at q1
        refine ⟨G', ?_, q2, q3⟩
        have bl := M_bl (zCan tg U) (zrv U) (zBr tg U) (fun s hs => M_rank h1 hzU hg1.2.2 htU hs (hg1.1 s hs) (htg s hs)) (fun s hs => zrv_b hs) (fun s => rfl) (fun s hs => zBr_or tg U hs) 1 (.inl none, zhp G') (fun v => by rw [g2]; exact y2 v _ q1) 32 0 v4 rfl
        have e0 : zBr tg U 0 = -1 := rfl
        rw [e0] at bl
        rw [kM_begin_22]
        simp only [kM_begin_0, kM_begin_20, kM_begin_21, kM_begin_58, kM_begin_63, kM_begin_64, kM_begin_178, kM_begin_202, kM_begin_203, kM_begin_207, zjM_begin_20, zjM_begin_21, zjM_begin_22, zjM_begin_30, zjM_begin_58, zjM_begin_63, zjM_begin_64, zjM_begin_71, zjM_begin_178, zjM_begin_202, zjM_begin_203, zjM_begin_207, ev_iload, ev_aload, ev_istore, ev_astore, ev_iconst, ev_null, ev_iinc, ev_iadd, ev_isub, ev_imul, ev_iand, ev_ior, ev_ixor, ev_ishl, ev_ishr, ev_iushr, ev_idiv, ev_irem, ev_icmp, ev_if, ev_ifnull, ev_ifnullN, ev_goto, ev_dupi, ev_dupr, ev_dup2, ev_pop, ev_getf, ev_puti, ev_putr, ev_iald, ev_cald, ev_aald, ev_iast, ev_cast, ev_alen, ev_tsw, ev_lsw, ev_max, ev_min, ev_obj, ev_cp, ev_throw, ev_iret, ev_aret, ev_aretN, ev_ret, ev_new, ev_newa, ev_anew, ev_is0, ev_is1, ev_is2, ev_is3, ev_is4, ev_iv1, ev_iv2, ev_iv3, ev_iv4, ev_iv5, ev_ip1, ev_ip2, zlg_0, zls_0, zlg_1, zls_1, zlg_2, zls_2, zlg_3, zls_3, zlg_4, zls_4, zlg_5, zls_5, zlg_6, zls_6, zlg_7, zls_7, zlg_8, zls_8, zlg_9, zls_9, zlg_10, zls_10, zlg_11, zls_11, ev_jif, zLI_i, zLR_r, zOV_s, List.length_cons, List.length_nil, zcd, decide_eq_true_eq, true_and, and_true, Option.toList_some, Option.toList_none, List.cons_append, List.nil_append, zrf, if_true, if_false, true_or, or_true, false_or, or_false, and_self, zwr_w, zG_hp, Nat.reduceAdd, Nat.reduceLT, Nat.reduceLeDiff, Nat.zero_le, reduceIte, not_true_eq_false, not_false_eq_true, Prod.mk.injEq, Sum.inl.injEq, Option.some.injEq, Value.int.injEq, Value.ref.injEq, zsw, ev_jif, zB01, Bool.false_eq_true, one_ne, zero_eqone, nI_1, gT0_0, gT0_1, gT0_2, gT0_3, gT0_4, gT0_5, gT0_6, gT0_7, oT0, aT1, aT2, aT3, aT4, aT5, aT6, gT7_0, pgT7_0, gT7_1, gT7_2, pgT7_2, oT7, aT8, gT9_0, pgT9_0, gT9_1, gT9_2, pgT9_2, oT9, aT10, gP0_0, gP0_1, gP0_2, gP0_3, gP0_4, gP0_5, gP0_6, gP0_7, pgP0_7, gP0_8, pgP0_8, oP0, aP1, aP2, aP3, aP4, aP5, aP6, gR0_0, pgR0_0, gR0_1, gR0_2, pgR0_2, oR0, aR1, g0_0, g0_1, g0_2, g0_3, g0_4, g0_5, g0_6, g0_7, pg0_7, g0_8, pg0_8, o0, g34_0, g34_1, pg34_1, g34_2, pg34_2, o34, g102_0, g102_1, pg102_1, g102_2, pg102_2, g102_3, g102_4, g102_5, g102_6, pg102_6, o102, g122_0, g122_1, g122_2, g122_3, pg122_3, g122_4, g122_5, pg122_5, g122_6, pg122_6, g122_7, g122_8, g122_9, pg122_9, g122_10, g122_11, g122_12, g122_13, g122_14, g122_15, g122_16, g122_17, g122_18, pg122_18, g122_19, g122_20, pg122_20, g122_21, pg122_21, g122_22, pg122_22, g122_23, o122, a103, a104, a105, a106, a107, a123, a124, a125, a126, a127, a128, a129, a130, a131, a132, a133, a134, a135, a136, a137, a138, q35, zisT_1, zisT_12, zisT_23, zisT_36, zisT_47, zisT_58, zisT_69, zisT_80, zisT_91, zisP_108, zisP_115, zisR_8, zisR_10, zisR_19, zisR_21, zisR_30, zisR_32, zisR_43, zisR_45, zisR_54, zisR_56, zisR_65, zisR_67, zisR_76, zisR_78, zisR_87, zisR_89, zisR_98, zisR_100, id zisT_1, id zisT_12, id zisT_23, id zisP_108, id zisP_115, id (zisR_T7 zisT_1), id (zisR_T9 zisT_1)]
        exact bl
  obtain ⟨G', g1, g2⟩ := key (B - (sM S).length) S G zU zU zU rfl hM hg hC (fun _ _ => rfl)
  refine ⟨G', ?_, g2⟩
  have h10 := hM.2.2.2.2.2.2.1.1
  have h8 := hM.2.2.2.2.2.2.1.2.1
  have c1 : G 123 1 = nI B := (hM.1 1 (by omega)).trans hC
  by_cases hlt : (sM S).length < B
  · rw [if_pos hlt] at g1
    refine zgo zMt_M_begin (show zEv zTT (zco mM_begin) kM_begin_0 [.ref 122, zU, zU, zU, zU] [] _ _ from ?_)
    simp only [kM_begin_0, kM_begin_20, kM_begin_21, kM_begin_30, kM_begin_58, kM_begin_63, kM_begin_64, kM_begin_71, kM_begin_178, kM_begin_202, kM_begin_203, kM_begin_207, zjM_begin_20, zjM_begin_21, zjM_begin_22, zjM_begin_30, zjM_begin_58, zjM_begin_63, zjM_begin_64, zjM_begin_71, zjM_begin_178, zjM_begin_202, zjM_begin_203, zjM_begin_207, ev_iload, ev_aload, ev_istore, ev_astore, ev_iconst, ev_null, ev_iinc, ev_iadd, ev_isub, ev_imul, ev_iand, ev_ior, ev_ixor, ev_ishl, ev_ishr, ev_iushr, ev_idiv, ev_irem, ev_icmp, ev_if, ev_ifnull, ev_ifnullN, ev_goto, ev_dupi, ev_dupr, ev_dup2, ev_pop, ev_getf, ev_puti, ev_putr, ev_iald, ev_cald, ev_aald, ev_iast, ev_cast, ev_alen, ev_tsw, ev_lsw, ev_max, ev_min, ev_obj, ev_cp, ev_throw, ev_iret, ev_aret, ev_aretN, ev_ret, ev_new, ev_newa, ev_anew, ev_is0, ev_is1, ev_is2, ev_is3, ev_is4, ev_iv1, ev_iv2, ev_iv3, ev_iv4, ev_iv5, ev_ip1, ev_ip2, zlg_0, zls_0, zlg_1, zls_1, zlg_2, zls_2, zlg_3, zls_3, zlg_4, zls_4, zlg_5, zls_5, zlg_6, zls_6, zlg_7, zls_7, zlg_8, zls_8, zlg_9, zls_9, zlg_10, zls_10, zlg_11, zls_11, ev_jif, zLI_i, zLR_r, zOV_s, List.length_cons, List.length_nil, zcd, decide_eq_true_eq, true_and, and_true, Option.toList_some, Option.toList_none, List.cons_append, List.nil_append, zrf, if_true, if_false, true_or, or_true, false_or, or_false, and_self, zwr_w, zG_hp, Nat.reduceAdd, Nat.reduceLT, Nat.reduceLeDiff, Nat.zero_le, reduceIte, not_true_eq_false, not_false_eq_true, Prod.mk.injEq, Sum.inl.injEq, Option.some.injEq, Value.int.injEq, Value.ref.injEq, zsw, ev_jif, zB01, Bool.false_eq_true, one_ne, zero_eqone, nI_1, gT0_0, gT0_1, gT0_2, gT0_3, gT0_4, gT0_5, gT0_6, gT0_7, oT0, aT1, aT2, aT3, aT4, aT5, aT6, gT7_0, pgT7_0, gT7_1, gT7_2, pgT7_2, oT7, aT8, gT9_0, pgT9_0, gT9_1, gT9_2, pgT9_2, oT9, aT10, gP0_0, gP0_1, gP0_2, gP0_3, gP0_4, gP0_5, gP0_6, gP0_7, pgP0_7, gP0_8, pgP0_8, oP0, aP1, aP2, aP3, aP4, aP5, aP6, gR0_0, pgR0_0, gR0_1, gR0_2, pgR0_2, oR0, aR1, g0_0, g0_1, g0_2, g0_3, g0_4, g0_5, g0_6, g0_7, pg0_7, g0_8, pg0_8, o0, g34_0, g34_1, pg34_1, g34_2, pg34_2, o34, g102_0, g102_1, pg102_1, g102_2, pg102_2, g102_3, g102_4, g102_5, g102_6, pg102_6, o102, g122_0, g122_1, g122_2, g122_3, pg122_3, g122_4, g122_5, pg122_5, g122_6, pg122_6, g122_7, g122_8, g122_9, pg122_9, g122_10, g122_11, g122_12, g122_13, g122_14, g122_15, g122_16, g122_17, g122_18, pg122_18, g122_19, g122_20, pg122_20, g122_21, pg122_21, g122_22, pg122_22, g122_23, o122, a103, a104, a105, a106, a107, a123, a124, a125, a126, a127, a128, a129, a130, a131, a132, a133, a134, a135, a136, a137, a138, q35, zisT_1, zisT_12, zisT_23, zisT_36, zisT_47, zisT_58, zisT_69, zisT_80, zisT_91, zisP_108, zisP_115, zisR_8, zisR_10, zisR_19, zisR_21, zisR_30, zisR_32, zisR_43, zisR_45, zisR_54, zisR_56, zisR_65, zisR_67, zisR_76, zisR_78, zisR_87, zisR_89, zisR_98, zisR_100, id zisT_1, id zisT_12, id zisT_23, id zisP_108, id zisP_115, id (zisR_T7 zisT_1), id (zisR_T9 zisT_1), a123, e10, z10, h10, e1, z1, c1, zle_f (s := (sM S).length) (n := B) (by omega) (by omega), zlt_t (s := (sM S).length) (n := B) (by omega) (by omega)]
    exact g1
  · rw [if_neg hlt] at g1
    refine zgo zMt_M_begin (show zEv zTT (zco mM_begin) kM_begin_0 [.ref 122, zU, zU, zU, zU] [] _ _ from ?_)
    simp only [kM_begin_0, kM_begin_20, kM_begin_21, kM_begin_30, kM_begin_58, kM_begin_63, kM_begin_64, kM_begin_71, kM_begin_178, kM_begin_202, kM_begin_203, kM_begin_207, zjM_begin_20, zjM_begin_21, zjM_begin_22, zjM_begin_30, zjM_begin_58, zjM_begin_63, zjM_begin_64, zjM_begin_71, zjM_begin_178, zjM_begin_202, zjM_begin_203, zjM_begin_207, ev_iload, ev_aload, ev_istore, ev_astore, ev_iconst, ev_null, ev_iinc, ev_iadd, ev_isub, ev_imul, ev_iand, ev_ior, ev_ixor, ev_ishl, ev_ishr, ev_iushr, ev_idiv, ev_irem, ev_icmp, ev_if, ev_ifnull, ev_ifnullN, ev_goto, ev_dupi, ev_dupr, ev_dup2, ev_pop, ev_getf, ev_puti, ev_putr, ev_iald, ev_cald, ev_aald, ev_iast, ev_cast, ev_alen, ev_tsw, ev_lsw, ev_max, ev_min, ev_obj, ev_cp, ev_throw, ev_iret, ev_aret, ev_aretN, ev_ret, ev_new, ev_newa, ev_anew, ev_is0, ev_is1, ev_is2, ev_is3, ev_is4, ev_iv1, ev_iv2, ev_iv3, ev_iv4, ev_iv5, ev_ip1, ev_ip2, zlg_0, zls_0, zlg_1, zls_1, zlg_2, zls_2, zlg_3, zls_3, zlg_4, zls_4, zlg_5, zls_5, zlg_6, zls_6, zlg_7, zls_7, zlg_8, zls_8, zlg_9, zls_9, zlg_10, zls_10, zlg_11, zls_11, ev_jif, zLI_i, zLR_r, zOV_s, List.length_cons, List.length_nil, zcd, decide_eq_true_eq, true_and, and_true, Option.toList_some, Option.toList_none, List.cons_append, List.nil_append, zrf, if_true, if_false, true_or, or_true, false_or, or_false, and_self, zwr_w, zG_hp, Nat.reduceAdd, Nat.reduceLT, Nat.reduceLeDiff, Nat.zero_le, reduceIte, not_true_eq_false, not_false_eq_true, Prod.mk.injEq, Sum.inl.injEq, Option.some.injEq, Value.int.injEq, Value.ref.injEq, zsw, ev_jif, zB01, Bool.false_eq_true, one_ne, zero_eqone, nI_1, gT0_0, gT0_1, gT0_2, gT0_3, gT0_4, gT0_5, gT0_6, gT0_7, oT0, aT1, aT2, aT3, aT4, aT5, aT6, gT7_0, pgT7_0, gT7_1, gT7_2, pgT7_2, oT7, aT8, gT9_0, pgT9_0, gT9_1, gT9_2, pgT9_2, oT9, aT10, gP0_0, gP0_1, gP0_2, gP0_3, gP0_4, gP0_5, gP0_6, gP0_7, pgP0_7, gP0_8, pgP0_8, oP0, aP1, aP2, aP3, aP4, aP5, aP6, gR0_0, pgR0_0, gR0_1, gR0_2, pgR0_2, oR0, aR1, g0_0, g0_1, g0_2, g0_3, g0_4, g0_5, g0_6, g0_7, pg0_7, g0_8, pg0_8, o0, g34_0, g34_1, pg34_1, g34_2, pg34_2, o34, g102_0, g102_1, pg102_1, g102_2, pg102_2, g102_3, g102_4, g102_5, g102_6, pg102_6, o102, g122_0, g122_1, g122_2, g122_3, pg122_3, g122_4, g122_5, pg122_5, g122_6, pg122_6, g122_7, g122_8, g122_9, pg122_9, g122_10, g122_11, g122_12, g122_13, g122_14, g122_15, g122_16, g122_17, g122_18, pg122_18, g122_19, g122_20, pg122_20, g122_21, pg122_21, g122_22, pg122_22, g122_23, o122, a103, a104, a105, a106, a107, a123, a124, a125, a126, a127, a128, a129, a130, a131, a132, a133, a134, a135, a136, a137, a138, q35, zisT_1, zisT_12, zisT_23, zisT_36, zisT_47, zisT_58, zisT_69, zisT_80, zisT_91, zisP_108, zisP_115, zisR_8, zisR_10, zisR_19, zisR_21, zisR_30, zisR_32, zisR_43, zisR_45, zisR_54, zisR_56, zisR_65, zisR_67, zisR_76, zisR_78, zisR_87, zisR_89, zisR_98, zisR_100, id zisT_1, id zisT_12, id zisT_23, id zisP_108, id zisP_115, id (zisR_T7 zisT_1), id (zisR_T9 zisT_1), a123, e10, z10, h10, e1, z1, c1, zle_t (s := (sM S).length) (n := B) (by omega) (by omega), zlt_f (s := (sM S).length) (n := B) (by omega) (by omega)]
    exact g1
end ZMODEL10
