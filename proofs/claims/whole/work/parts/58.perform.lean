section ZPERFORM
variable {G G' : Nat → Nat → Int32} {T : List Int32} {a : Nat} {A : zCA} {X : zSt}
theorem zOb_iv {B : Nat} (h : zIv B X) (l n w : Int32) : zIv B (zOb B X l n w).2 := by
  have ht : ∀ tg N, zIv B (zfd (fun _ => zTk tg B) X N) := fun tg N => zfd_iv (P := zIv B) (fun i s hs => (zTk_iv hs).2.2.2) h N
  unfold zOb
  split
  · split <;> exact h
  · split
    · split <;> exact h
    · split
      · split <;> exact h
      · split
        · split <;> exact h
        · split
          · split <;> exact h
          · split
            · split
              · exact ht _ _
              · exact h
            · exact h
/-- the commands on the trial state -/
def zRun (B : Nat) : List zCm → zSt → Option zSt
  | [], X => some X
  | c :: cs, X => if (zOb B X c.1 c.2.1 c.2.2).1 = true then zRun B cs (zOb B X c.1 c.2.1 c.2.2).2 else none
theorem zCP.of (h : zCP G A) (hX : zSO G' 12 X) (hF : zOF G G') : zCP G' A := by
  obtain ⟨h1, -, h3, h4, h5, h6, h7⟩ := h
  refine ⟨h1.eq (fun a _ _ => hF a (by omega)), ⟨X, hX⟩, h3.eq (fun a _ _ => hF a (by omega)), h4.fr (fun a _ _ => hF a (by omega)), fun i hi => by rw [hF 107 (by omega)]; exact h5 i hi, ?_, by rw [hF 0 (by omega)]; exact h7⟩
  rw [hF 0 (by omega)]
  rcases h6 with h | ⟨h, g⟩
  · exact Or.inl h
  · exact Or.inr ⟨h, g.fr (fun a _ _ => hF a (by omega))⟩
theorem zOF.tr {G1 : Nat → Nat → Int32} (h : zOF G G') (h2 : zOF G' G1) : zOF G G1 := fun a ha => (h2 a ha).trans (h a ha)
/-- what the end of perform answers, and the state -/
def qEnd (A : zCA) (N : Nat) : Option zSt → zRt × zCA
  | some X => (.inl (some (.int (nI N))), qS (qCh A) X)
  | none => (.inr 5, A)
theorem C_perfLoop {B : Nat} (hB : B < 1000) {Cs : List zCm} (v1 : Value) : ∀ (cs : List zCm) (i : Nat) (X : zSt) (G : Nat → Nat → Int32), i + cs.length = Cs.length → (∀ k, k < cs.length → cs.getD k zC0 = Cs.getD (i + k) zC0) → zCP G A → zSO G 12 X → zIv B X → zSD G Cs → ∃ G', zEv zTT (zco mC_perform) kC_perform_38 [.ref 0, v1, .int (nI i)] [] (zhp G) ((qEnd A Cs.length (zRun B cs X)).1, zhp G') ∧ zCP G' (qEnd A Cs.length (zRun B cs X)).2 ∧ ∀ a, 102 ≤ a → (a ≤ 106 ∨ 122 ≤ a) → G' a = G a := by
  intro cs
  induction cs with
  | nil =>
    intro i X G hi _ h hX hI hD
    have hi : i = Cs.length := by simpa using hi
    subst hi
    have d1 := hD.1
    have d2 := hD.2.1
    obtain ⟨G1, c1, h1, o1, f1⟩ := h.ch
    have s1 : zSO G1 12 X := hX.eq (fun a _ _ => f1 a (by omega) (by omega))
    obtain ⟨G2, c2, s2, f2⟩ := T_copyFrom (p := 1) (r := 12) rfl rfl (by omega) s1 h1.1
    have e2 : G2 102 6 = nI Cs.length := by rw [f2 102 (by omega), f1 102 (by omega) (by omega)]; exact d1
    refine ⟨G2, ?_, h1.wr o1 s2 f2, fun a _ _ => by rw [f2 a (by omega)]; exact f1 a (by omega) (by omega)⟩
    show zEv _ _ _ _ _ _ (.inl (some (.int (nI Cs.length))), _)
    rw [kC_perform_38]
    simp only [kC_perform_0, kC_perform_25, kC_perform_100, kC_perform_106, zjC_perform_25, zjC_perform_38, zjC_perform_100, zjC_perform_106, ev_iload, ev_aload, ev_istore, ev_astore, ev_iconst, ev_null, ev_iinc, ev_iadd, ev_isub, ev_imul, ev_iand, ev_ior, ev_ixor, ev_ishl, ev_ishr, ev_iushr, ev_idiv, ev_irem, ev_icmp, ev_if, ev_ifnull, ev_ifnullN, ev_goto, ev_dupi, ev_dupr, ev_dup2, ev_pop, ev_getf, ev_puti, ev_putr, ev_iald, ev_cald, ev_aald, ev_iast, ev_cast, ev_alen, ev_tsw, ev_lsw, ev_max, ev_min, ev_obj, ev_cp, ev_throw, ev_iret, ev_aret, ev_aretN, ev_ret, ev_new, ev_newa, ev_anew, ev_is0, ev_is1, ev_is2, ev_is3, ev_is4, ev_iv1, ev_iv2, ev_iv3, ev_iv4, ev_iv5, ev_ip1, ev_ip2, zlg_0, zls_0, zlg_1, zls_1, zlg_2, zls_2, zlg_3, zls_3, zlg_4, zls_4, zlg_5, zls_5, zlg_6, zls_6, zlg_7, zls_7, zlg_8, zls_8, zlg_9, zls_9, zlg_10, zls_10, zlg_11, zls_11, ev_jif, zLI_i, zLR_r, zOV_s, List.length_cons, List.length_nil, zcd, decide_eq_true_eq, true_and, and_true, Option.toList_some, Option.toList_none, List.cons_append, List.nil_append, zrf, if_true, if_false, true_or, or_true, false_or, or_false, and_self, zwr_w, zG_hp, Nat.reduceAdd, Nat.reduceLT, Nat.reduceLeDiff, Nat.zero_le, reduceIte, not_true_eq_false, not_false_eq_true, Prod.mk.injEq, Sum.inl.injEq, Option.some.injEq, Value.int.injEq, Value.ref.injEq, zsw, ev_jif, zB01, Bool.false_eq_true, one_ne, zero_eqone, nI_1, gT0_0, gT0_1, gT0_2, gT0_3, gT0_4, gT0_5, gT0_6, gT0_7, oT0, aT1, aT2, aT3, aT4, aT5, aT6, gT7_0, pgT7_0, gT7_1, gT7_2, pgT7_2, oT7, aT8, gT9_0, pgT9_0, gT9_1, gT9_2, pgT9_2, oT9, aT10, gP0_0, gP0_1, gP0_2, gP0_3, gP0_4, gP0_5, gP0_6, gP0_7, pgP0_7, gP0_8, pgP0_8, oP0, aP1, aP2, aP3, aP4, aP5, aP6, gR0_0, pgR0_0, gR0_1, gR0_2, pgR0_2, oR0, aR1, g0_0, g0_1, g0_2, g0_3, g0_4, g0_5, g0_6, g0_7, pg0_7, g0_8, pg0_8, o0, g34_0, g34_1, pg34_1, g34_2, pg34_2, o34, g102_0, g102_1, pg102_1, g102_2, pg102_2, g102_3, g102_4, g102_5, g102_6, pg102_6, o102, g122_0, g122_1, g122_2, g122_3, pg122_3, g122_4, g122_5, pg122_5, g122_6, pg122_6, g122_7, g122_8, g122_9, pg122_9, g122_10, g122_11, g122_12, g122_13, g122_14, g122_15, g122_16, g122_17, g122_18, pg122_18, g122_19, g122_20, pg122_20, g122_21, pg122_21, g122_22, pg122_22, g122_23, o122, a103, a104, a105, a106, a107, a123, a124, a125, a126, a127, a128, a129, a130, a131, a132, a133, a134, a135, a136, a137, a138, q35, zisT_1, zisT_12, zisT_23, zisT_36, zisT_47, zisT_58, zisT_69, zisT_80, zisT_91, zisP_108, zisP_115, zisR_8, zisR_10, zisR_19, zisR_21, zisR_30, zisR_32, zisR_43, zisR_45, zisR_54, zisR_56, zisR_65, zisR_67, zisR_76, zisR_78, zisR_87, zisR_89, zisR_98, zisR_100, id zisT_1, id zisT_12, id zisT_23, id zisP_108, id zisP_115, id (zisR_T7 zisT_1), id (zisR_T9 zisT_1), d1, zle_t (s := Cs.length) (n := Cs.length) (by omega) (by omega), zlt_f (s := Cs.length) (n := Cs.length) (by omega) (by omega), c1, c2, e2]
  | cons c cs ih =>
    intro i X G hi hk h hX hI hD
    have hi : i + (cs.length + 1) = Cs.length := hi
    have d1 := hD.1
    have d2 := hD.2.1
    have hc : c = Cs.getD i zC0 := hk 0 (by simp)
    obtain ⟨g1, g2, g3⟩ := hD.2.2 i (by omega)
    rw [← hc] at g1 g2 g3
    obtain ⟨G1, c1, s1, f1⟩ := C_obey hX h.2.2.2.2.1 hI hB c.1 c.2.1 c.2.2
    have hI1 := zOb_iv hI c.1 c.2.1 c.2.2
    rw [zRun]
    generalize zOb B X c.1 c.2.1 c.2.2 = r at *
    have h1 : zCP G1 A := h.of s1 f1
    have hD1 : zSD G1 Cs := by
      obtain ⟨a1, a2, a3⟩ := hD
      exact ⟨by rw [f1 102 (by omega)]; exact a1, a2, fun i hi => by rw [f1 104 (by omega), f1 105 (by omega), f1 106 (by omega)]; exact a3 i hi⟩
    by_cases e : r.1 = true
    · rw [if_pos e] at c1 ⊢
      obtain ⟨G', g4, g5, g6⟩ := ih (i + 1) r.2 G1 (by omega) (fun k hk' => by
        have := hk (k + 1) (by simp; omega)
        rw [show i + 1 + k = i + (k + 1) by omega, ← this]
        rfl) h1 s1 hI1 hD1
      refine ⟨G', ?_, g5, fun a ha hb => by rw [g6 a ha hb]; exact f1 a (by omega)⟩
      rw [kC_perform_38]
      simp only [kC_perform_0, kC_perform_25, kC_perform_100, kC_perform_106, zjC_perform_25, zjC_perform_38, zjC_perform_100, zjC_perform_106, ev_iload, ev_aload, ev_istore, ev_astore, ev_iconst, ev_null, ev_iinc, ev_iadd, ev_isub, ev_imul, ev_iand, ev_ior, ev_ixor, ev_ishl, ev_ishr, ev_iushr, ev_idiv, ev_irem, ev_icmp, ev_if, ev_ifnull, ev_ifnullN, ev_goto, ev_dupi, ev_dupr, ev_dup2, ev_pop, ev_getf, ev_puti, ev_putr, ev_iald, ev_cald, ev_aald, ev_iast, ev_cast, ev_alen, ev_tsw, ev_lsw, ev_max, ev_min, ev_obj, ev_cp, ev_throw, ev_iret, ev_aret, ev_aretN, ev_ret, ev_new, ev_newa, ev_anew, ev_is0, ev_is1, ev_is2, ev_is3, ev_is4, ev_iv1, ev_iv2, ev_iv3, ev_iv4, ev_iv5, ev_ip1, ev_ip2, zlg_0, zls_0, zlg_1, zls_1, zlg_2, zls_2, zlg_3, zls_3, zlg_4, zls_4, zlg_5, zls_5, zlg_6, zls_6, zlg_7, zls_7, zlg_8, zls_8, zlg_9, zls_9, zlg_10, zls_10, zlg_11, zls_11, ev_jif, zLI_i, zLR_r, zOV_s, List.length_cons, List.length_nil, zcd, decide_eq_true_eq, true_and, and_true, Option.toList_some, Option.toList_none, List.cons_append, List.nil_append, zrf, if_true, if_false, true_or, or_true, false_or, or_false, and_self, zwr_w, zG_hp, Nat.reduceAdd, Nat.reduceLT, Nat.reduceLeDiff, Nat.zero_le, reduceIte, not_true_eq_false, not_false_eq_true, Prod.mk.injEq, Sum.inl.injEq, Option.some.injEq, Value.int.injEq, Value.ref.injEq, zsw, ev_jif, zB01, Bool.false_eq_true, one_ne, zero_eqone, nI_1, gT0_0, gT0_1, gT0_2, gT0_3, gT0_4, gT0_5, gT0_6, gT0_7, oT0, aT1, aT2, aT3, aT4, aT5, aT6, gT7_0, pgT7_0, gT7_1, gT7_2, pgT7_2, oT7, aT8, gT9_0, pgT9_0, gT9_1, gT9_2, pgT9_2, oT9, aT10, gP0_0, gP0_1, gP0_2, gP0_3, gP0_4, gP0_5, gP0_6, gP0_7, pgP0_7, gP0_8, pgP0_8, oP0, aP1, aP2, aP3, aP4, aP5, aP6, gR0_0, pgR0_0, gR0_1, gR0_2, pgR0_2, oR0, aR1, g0_0, g0_1, g0_2, g0_3, g0_4, g0_5, g0_6, g0_7, pg0_7, g0_8, pg0_8, o0, g34_0, g34_1, pg34_1, g34_2, pg34_2, o34, g102_0, g102_1, pg102_1, g102_2, pg102_2, g102_3, g102_4, g102_5, g102_6, pg102_6, o102, g122_0, g122_1, g122_2, g122_3, pg122_3, g122_4, g122_5, pg122_5, g122_6, pg122_6, g122_7, g122_8, g122_9, pg122_9, g122_10, g122_11, g122_12, g122_13, g122_14, g122_15, g122_16, g122_17, g122_18, pg122_18, g122_19, g122_20, pg122_20, g122_21, pg122_21, g122_22, pg122_22, g122_23, o122, a103, a104, a105, a106, a107, a123, a124, a125, a126, a127, a128, a129, a130, a131, a132, a133, a134, a135, a136, a137, a138, q35, zisT_1, zisT_12, zisT_23, zisT_36, zisT_47, zisT_58, zisT_69, zisT_80, zisT_91, zisP_108, zisP_115, zisR_8, zisR_10, zisR_19, zisR_21, zisR_30, zisR_32, zisR_43, zisR_45, zisR_54, zisR_56, zisR_65, zisR_67, zisR_76, zisR_78, zisR_87, zisR_89, zisR_98, zisR_100, id zisT_1, id zisT_12, id zisT_23, id zisP_108, id zisP_115, id (zisR_T7 zisT_1), id (zisR_T9 zisT_1), d1, zle_f (s := i) (n := Cs.length) (by omega) (by omega), zlt_t (s := i) (n := Cs.length) (by omega) (by omega), zle_f (s := i) (n := 20) (by omega) (by omega), zlt_t (s := i) (n := 20) (by omega) (by omega), a104, a105, a106, zi_n (s := i) (n := 20) (by omega) (by omega), zcl_n (s := i) (by omega), g1, g2, g3, c1]
      exact g4
    · rw [if_neg e] at c1 ⊢
      refine ⟨G1, ?_, h1, fun a _ _ => f1 a (by omega)⟩
      show zEv _ _ _ _ _ _ (.inr 5, _)
      rw [kC_perform_38]
      simp only [kC_perform_0, kC_perform_25, kC_perform_100, kC_perform_106, zjC_perform_25, zjC_perform_38, zjC_perform_100, zjC_perform_106, ev_iload, ev_aload, ev_istore, ev_astore, ev_iconst, ev_null, ev_iinc, ev_iadd, ev_isub, ev_imul, ev_iand, ev_ior, ev_ixor, ev_ishl, ev_ishr, ev_iushr, ev_idiv, ev_irem, ev_icmp, ev_if, ev_ifnull, ev_ifnullN, ev_goto, ev_dupi, ev_dupr, ev_dup2, ev_pop, ev_getf, ev_puti, ev_putr, ev_iald, ev_cald, ev_aald, ev_iast, ev_cast, ev_alen, ev_tsw, ev_lsw, ev_max, ev_min, ev_obj, ev_cp, ev_throw, ev_iret, ev_aret, ev_aretN, ev_ret, ev_new, ev_newa, ev_anew, ev_is0, ev_is1, ev_is2, ev_is3, ev_is4, ev_iv1, ev_iv2, ev_iv3, ev_iv4, ev_iv5, ev_ip1, ev_ip2, zlg_0, zls_0, zlg_1, zls_1, zlg_2, zls_2, zlg_3, zls_3, zlg_4, zls_4, zlg_5, zls_5, zlg_6, zls_6, zlg_7, zls_7, zlg_8, zls_8, zlg_9, zls_9, zlg_10, zls_10, zlg_11, zls_11, ev_jif, zLI_i, zLR_r, zOV_s, List.length_cons, List.length_nil, zcd, decide_eq_true_eq, true_and, and_true, Option.toList_some, Option.toList_none, List.cons_append, List.nil_append, zrf, if_true, if_false, true_or, or_true, false_or, or_false, and_self, zwr_w, zG_hp, Nat.reduceAdd, Nat.reduceLT, Nat.reduceLeDiff, Nat.zero_le, reduceIte, not_true_eq_false, not_false_eq_true, Prod.mk.injEq, Sum.inl.injEq, Option.some.injEq, Value.int.injEq, Value.ref.injEq, zsw, ev_jif, zB01, Bool.false_eq_true, one_ne, zero_eqone, nI_1, gT0_0, gT0_1, gT0_2, gT0_3, gT0_4, gT0_5, gT0_6, gT0_7, oT0, aT1, aT2, aT3, aT4, aT5, aT6, gT7_0, pgT7_0, gT7_1, gT7_2, pgT7_2, oT7, aT8, gT9_0, pgT9_0, gT9_1, gT9_2, pgT9_2, oT9, aT10, gP0_0, gP0_1, gP0_2, gP0_3, gP0_4, gP0_5, gP0_6, gP0_7, pgP0_7, gP0_8, pgP0_8, oP0, aP1, aP2, aP3, aP4, aP5, aP6, gR0_0, pgR0_0, gR0_1, gR0_2, pgR0_2, oR0, aR1, g0_0, g0_1, g0_2, g0_3, g0_4, g0_5, g0_6, g0_7, pg0_7, g0_8, pg0_8, o0, g34_0, g34_1, pg34_1, g34_2, pg34_2, o34, g102_0, g102_1, pg102_1, g102_2, pg102_2, g102_3, g102_4, g102_5, g102_6, pg102_6, o102, g122_0, g122_1, g122_2, g122_3, pg122_3, g122_4, g122_5, pg122_5, g122_6, pg122_6, g122_7, g122_8, g122_9, pg122_9, g122_10, g122_11, g122_12, g122_13, g122_14, g122_15, g122_16, g122_17, g122_18, pg122_18, g122_19, g122_20, pg122_20, g122_21, pg122_21, g122_22, pg122_22, g122_23, o122, a103, a104, a105, a106, a107, a123, a124, a125, a126, a127, a128, a129, a130, a131, a132, a133, a134, a135, a136, a137, a138, q35, zisT_1, zisT_12, zisT_23, zisT_36, zisT_47, zisT_58, zisT_69, zisT_80, zisT_91, zisP_108, zisP_115, zisR_8, zisR_10, zisR_19, zisR_21, zisR_30, zisR_32, zisR_43, zisR_45, zisR_54, zisR_56, zisR_65, zisR_67, zisR_76, zisR_78, zisR_87, zisR_89, zisR_98, zisR_100, id zisT_1, id zisT_12, id zisT_23, id zisP_108, id zisP_115, id (zisR_T7 zisT_1), id (zisR_T9 zisT_1), d1, zle_f (s := i) (n := Cs.length) (by omega) (by omega), zlt_t (s := i) (n := Cs.length) (by omega) (by omega), zle_f (s := i) (n := 20) (by omega) (by omega), zlt_t (s := i) (n := 20) (by omega) (by omega), a104, a105, a106, zi_n (s := i) (n := 20) (by omega) (by omega), zcl_n (s := i) (by omega), g1, g2, g3, c1]
end ZPERFORM
