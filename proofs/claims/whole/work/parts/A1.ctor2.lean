section ZCTORS2
variable {N M : Nat} {S : Nat → zSh} {G : Nat → Nat → Int32} {p q : Nat}
theorem N_T2 (hp : zisT p = true) (hr : ∀ d, d ≤ 10 → S (p + d) = zSP (p + d)) : ∃ G', zcal zTT jT_init [.ref p] (p + 1, M, va_up S p (.inr (.inr (6, [some none, some none, some none, some none, some none, some none, some none, some none]))), G) = some (none, (p + 11, M + 248, S, G')) ∧ zSO G' p zI0 ∧ ∀ a, a < p ∨ p + 11 ≤ a → G' a = G a := by
  obtain ⟨G', c, h1, h2⟩ := N_T (M := M) (S := va_up S p (.inr (.inr (6, [some none, some none, some none, some none, some none, some none, some none, some none])))) (G := G) hp (by rw [va_upe, if_pos rfl]) (fun d h1 h2 => by rw [va_upe, if_neg (by omega)]; exact hr d h2)
  rw [zup_up, zup_of (show S p = _ from (hr 0 (by omega)).trans (zSP_T0 hp))] at c
  exact ⟨G', c, h1, h2⟩
theorem N_P (hp : zisP q = true) (hr : ∀ d, d ≤ 6 → S (q + d) = zSP (q + d)) : ∃ G', zcal zTT jP_init [.ref q, .ref 107] (q + 1, M, va_up S q (.inr (.inr (3, [some none, some none, some none, some none, some none, some none, some none, none, none]))), G) = some (none, (q + 7, M + 248, S, G')) ∧ ∀ a, a < q ∨ q + 7 ≤ a → G' a = G a := by
  have s0 := (hr 0 (by omega)).trans (zSP_P0 hp)
  have s0 : S q = _ := s0
  have s1 := (hr 1 (by omega)).trans (zSP_P1 hp)
  have s2 := (hr 2 (by omega)).trans (zSP_P2 hp)
  have s3 := (hr 3 (by omega)).trans (zSP_P3 hp)
  have s4 := (hr 4 (by omega)).trans (zSP_P4 hp)
  have s5 := (hr 5 (by omega)).trans (zSP_P5 hp)
  have s6 := (hr 6 (by omega)).trans (zSP_P6 hp)
  have l7 : (107 < q + 7) = True := eq_true (by have := zP_le hp; omega)
  refine ⟨?G, ?h1, ?h3⟩
  case h1 =>
    refine zgo zMt_P_init (show zEv zTT (zco mP_init) kP_init_0 [.ref q, .ref 107] [] _ _ from ?_)
    simp only [kP_init_0, ev_iload, ev_aload, ev_istore, ev_astore, ev_iconst, ev_null, ev_iinc, ev_iadd, ev_isub, ev_imul, ev_iand, ev_ior, ev_ixor, ev_ishl, ev_ishr, ev_iushr, ev_idiv, ev_irem, ev_icmp, ev_if, ev_ifnull, ev_ifnullN, ev_goto, ev_dupi, ev_dupr, ev_dup2, ev_pop, ev_getf, ev_puti, ev_putr, ev_iald, ev_cald, ev_aald, ev_iast, ev_cast, ev_alen, ev_tsw, ev_lsw, ev_max, ev_min, ev_obj, ev_cp, ev_throw, ev_iret, ev_aret, ev_aretN, ev_ret, ev_new, ev_newa, ev_anew, ev_is0, ev_is1, ev_is2, ev_is3, ev_is4, ev_iv1, ev_iv2, ev_iv3, ev_iv4, ev_iv5, ev_ip1, ev_ip2, zlg_0, zls_0, zlg_1, zls_1, zlg_2, zls_2, zlg_3, zls_3, zlg_4, zls_4, zlg_5, zls_5, zlg_6, zls_6, zlg_7, zls_7, zlg_8, zls_8, zlg_9, zls_9, zlg_10, zls_10, zlg_11, zls_11, ev_jif, zLI_i, zLR_r, zOV_s, List.length_cons, List.length_nil, zcd, decide_eq_true_eq, true_and, and_true, Option.toList_some, Option.toList_none, List.cons_append, List.nil_append, zrf, if_true, if_false, true_or, or_true, false_or, or_false, and_self, zwr_w, zG_hp, Nat.reduceAdd, Nat.reduceLT, Nat.reduceLeDiff, Nat.zero_le, reduceIte, not_true_eq_false, not_false_eq_true, Prod.mk.injEq, Sum.inl.injEq, Option.some.injEq, Value.int.injEq, Value.ref.injEq, zsw, ev_jif, zB01, Bool.false_eq_true, one_ne, zero_eqone, nI_1, ctN, ctM, ctS, ctG, ctnw, ctwr, zpf, zgf, zar, zln, zqr, zob, va_upe, zup_up, zup_of, zpne, zpne0, zpne1, zplt, zplt0, c0_0, c1_1, ctup, zB_2, zB_3, zB_4, zB_5, zB_6, List.getElem?_cons_zero, List.getElem?_cons_succ, List.set_cons_zero, List.set_cons_succ, List.map_cons, List.map_nil, Nat.add_assoc, Nat.reduceAdd, Nat.reduceMul, Nat.reduceEqDiff, Nat.reduceLT, Nat.reduceLeDiff, ne_eq, false_and, and_false, s0, s1, s2, s3, s4, s5, s6, l7, zB, zlt_0 (s := 8) (by omega), zcl_n (s := 8) (by omega), zlt_0 (s := 32) (by omega), zcl_n (s := 32) (by omega), zlt_0 (s := 160) (by omega), zcl_n (s := 160) (by omega)]
    exact rfl
  case h3 =>
    intro a ha
    have e : ∀ d, d ≤ 6 → (a = q + d) = False := fun d hd => eq_false (by omega)
    have e0 : (a = q) = False := eq_false (by omega)
    simp only [va_upe, e0, e 1 (by omega), e 2 (by omega), e 3 (by omega), e 4 (by omega), e 5 (by omega), e 6 (by omega), if_false]
theorem N_S (hr : ∀ d, d ≤ 4 → S (102 + d) = zSP (102 + d)) : ∃ G', zcal zTT jS_init [.ref 102] (103, M, va_up S 102 (.inr (.inr (5, [some none, none, none, some none, some none, some none, none]))), G) = some (none, (107, M + 120, S, G')) ∧ G' 102 1 = 0 ∧ G' 102 6 = 0 ∧ ∀ a, a < 102 ∨ 107 ≤ a → G' a = G a := by
  have s0 : S 102 = .inr (.inr (5, [some (some 103), none, none, some (some 104), some (some 105), some (some 106), none])) := hr 0 (by omega)
  have s1 : S 103 = .inl (1, 60) := hr 1 (by omega)
  have s2 : S 104 = .inl (0, 20) := hr 2 (by omega)
  have s3 : S 105 = .inl (0, 20) := hr 3 (by omega)
  have s4 : S 106 = .inl (0, 20) := hr 4 (by omega)
  refine ⟨?G, ?h1, ?h2, ?h4, ?h3⟩
  case h1 =>
    refine zgo zMt_S_init (show zEv zTT (zco mS_init) kS_init_0 [.ref 102] [] _ _ from ?_)
    simp only [kS_init_0, ev_iload, ev_aload, ev_istore, ev_astore, ev_iconst, ev_null, ev_iinc, ev_iadd, ev_isub, ev_imul, ev_iand, ev_ior, ev_ixor, ev_ishl, ev_ishr, ev_iushr, ev_idiv, ev_irem, ev_icmp, ev_if, ev_ifnull, ev_ifnullN, ev_goto, ev_dupi, ev_dupr, ev_dup2, ev_pop, ev_getf, ev_puti, ev_putr, ev_iald, ev_cald, ev_aald, ev_iast, ev_cast, ev_alen, ev_tsw, ev_lsw, ev_max, ev_min, ev_obj, ev_cp, ev_throw, ev_iret, ev_aret, ev_aretN, ev_ret, ev_new, ev_newa, ev_anew, ev_is0, ev_is1, ev_is2, ev_is3, ev_is4, ev_iv1, ev_iv2, ev_iv3, ev_iv4, ev_iv5, ev_ip1, ev_ip2, zlg_0, zls_0, zlg_1, zls_1, zlg_2, zls_2, zlg_3, zls_3, zlg_4, zls_4, zlg_5, zls_5, zlg_6, zls_6, zlg_7, zls_7, zlg_8, zls_8, zlg_9, zls_9, zlg_10, zls_10, zlg_11, zls_11, ev_jif, zLI_i, zLR_r, zOV_s, List.length_cons, List.length_nil, zcd, decide_eq_true_eq, true_and, and_true, Option.toList_some, Option.toList_none, List.cons_append, List.nil_append, zrf, if_true, if_false, true_or, or_true, false_or, or_false, and_self, zwr_w, zG_hp, Nat.reduceAdd, Nat.reduceLT, Nat.reduceLeDiff, Nat.zero_le, reduceIte, not_true_eq_false, not_false_eq_true, Prod.mk.injEq, Sum.inl.injEq, Option.some.injEq, Value.int.injEq, Value.ref.injEq, zsw, ev_jif, zB01, Bool.false_eq_true, one_ne, zero_eqone, nI_1, ctN, ctM, ctS, ctG, ctnw, ctwr, zpf, zgf, zar, zln, zqr, zob, va_upe, zup_up, zup_of, zpne, zpne0, zpne1, zplt, zplt0, c0_0, c1_1, ctup, zB_2, zB_3, zB_4, zB_5, zB_6, List.getElem?_cons_zero, List.getElem?_cons_succ, List.set_cons_zero, List.set_cons_succ, List.map_cons, List.map_nil, Nat.add_assoc, Nat.reduceAdd, Nat.reduceMul, Nat.reduceEqDiff, Nat.reduceLT, Nat.reduceLeDiff, ne_eq, false_and, and_false, s0, s1, s2, s3, s4, zB, zlt_0 (s := 60) (by omega), zcl_n (s := 60) (by omega), zlt_0 (s := 20) (by omega), zcl_n (s := 20) (by omega)]
    exact rfl
  case h2 => simp [va_upe, upd]
  case h4 => simp [va_upe, upd]
  case h3 =>
    intro a ha
    have e : ∀ d, 102 ≤ d → d ≤ 106 → (a = d) = False := fun d hd h2 => eq_false (by omega)
    simp only [va_upe, e 102 (by omega) (by omega), e 103 (by omega) (by omega), e 104 (by omega) (by omega), e 105 (by omega) (by omega), e 106 (by omega) (by omega), if_false]
def zHi (i : Nat) : Nat → Option Nat := fun j => if j < i then zHk j else none
theorem zHi_0 : (fun _ => none) = zHi 0 := by
  funext j
  unfold zHi
  rw [if_neg (by omega)]
theorem zHi_6 : zHi 6 = zHk := by
  funext j
  unfold zHi
  split
  · rfl
  · rename_i h
    unfold zHk
    rw [List.getElem?_eq_none (by show 6 ≤ j; omega)]
theorem zHi_s {i : Nat} (h : i < 6) : va_up (zHi i) i (some (36 + 11 * i)) = zHi (i + 1) := by
  funext j
  rw [va_upe]
  unfold zHi
  by_cases hj : j = i
  · subst hj
    rw [if_pos rfl, if_pos (by omega)]
    rcases (show j = 0 ∨ j = 1 ∨ j = 2 ∨ j = 3 ∨ j = 4 ∨ j = 5 by omega) with rfl | rfl | rfl | rfl | rfl | rfl <;> rfl
  · rw [if_neg hj]
    by_cases h2 : j < i
    · rw [if_pos h2, if_pos (by omega)]
    · rw [if_neg h2, if_neg (by omega)]
theorem zisT_H {i : Nat} (h : i < 6) : zisT (36 + 11 * i) = true := by
  rcases (show i = 0 ∨ i = 1 ∨ i = 2 ∨ i = 3 ∨ i = 4 ∨ i = 5 by omega) with rfl | rfl | rfl | rfl | rfl | rfl <;> rfl
set_option maxHeartbeats 1000000 in
theorem N_H (hr : ∀ d, d ≤ 67 → S (34 + d) = zSP (34 + d)) : ∃ G', zcal zTT jH_init [.ref 34] (35, M, va_up S 34 (.inr (.inr (2, [some none, none, none]))), G) = some (none, (102, M + 1542, S, G')) ∧ zHO G' (fun _ => zI0) 0 0 ∧ ∀ a, a < 34 ∨ 102 ≤ a → G' a = G a := by
  have s0 : S 34 = .inr (.inr (2, [some (some 35), none, none])) := hr 0 (by omega)
  have s1 : S 35 = .inr (.inl (6, zHk)) := hr 1 (by omega)
  have key : ∀ n i G1, i + n = 6 → G1 34 1 = 0 → G1 34 2 = 0 → (∀ j, j < i → zSO G1 (36 + 11 * j) zI0) → (∀ a, a < 34 ∨ 102 ≤ a → G1 a = G a) → ∃ G', zEv zTT (zco mH_init) kH_init_25 [.ref 34, .int (nI i)] [] (36 + 11 * i, M + 6 + 256 * i, va_up S 35 (.inr (.inl (6, zHi i))), G1) (.inl none, (102, M + 1542, S, G')) ∧ zHO G' (fun _ => zI0) 0 0 ∧ ∀ a, a < 34 ∨ 102 ≤ a → G' a = G a := by
    intro n
    induction n with
    | zero =>
      intro i G1 hi g1 g2 g3 g4
      have hi : i = 6 := by omega
      subst hi
      refine ⟨G1, ?_, ⟨g1.trans nI_0.symm, by omega, g2.trans nI_0.symm, by omega, g3⟩, g4⟩
      rw [zHi_6, zup_of s1, kH_init_25]
      simp only [kH_init_0, kH_init_50, zjH_init_25, zjH_init_50, ev_iload, ev_aload, ev_istore, ev_astore, ev_iconst, ev_null, ev_iinc, ev_iadd, ev_isub, ev_imul, ev_iand, ev_ior, ev_ixor, ev_ishl, ev_ishr, ev_iushr, ev_idiv, ev_irem, ev_icmp, ev_if, ev_ifnull, ev_ifnullN, ev_goto, ev_dupi, ev_dupr, ev_dup2, ev_pop, ev_getf, ev_puti, ev_putr, ev_iald, ev_cald, ev_aald, ev_iast, ev_cast, ev_alen, ev_tsw, ev_lsw, ev_max, ev_min, ev_obj, ev_cp, ev_throw, ev_iret, ev_aret, ev_aretN, ev_ret, ev_new, ev_newa, ev_anew, ev_is0, ev_is1, ev_is2, ev_is3, ev_is4, ev_iv1, ev_iv2, ev_iv3, ev_iv4, ev_iv5, ev_ip1, ev_ip2, zlg_0, zls_0, zlg_1, zls_1, zlg_2, zls_2, zlg_3, zls_3, zlg_4, zls_4, zlg_5, zls_5, zlg_6, zls_6, zlg_7, zls_7, zlg_8, zls_8, zlg_9, zls_9, zlg_10, zls_10, zlg_11, zls_11, ev_jif, zLI_i, zLR_r, zOV_s, List.length_cons, List.length_nil, zcd, decide_eq_true_eq, true_and, and_true, Option.toList_some, Option.toList_none, List.cons_append, List.nil_append, zrf, if_true, if_false, true_or, or_true, false_or, or_false, and_self, zwr_w, zG_hp, Nat.reduceAdd, Nat.reduceLT, Nat.reduceLeDiff, Nat.zero_le, reduceIte, not_true_eq_false, not_false_eq_true, Prod.mk.injEq, Sum.inl.injEq, Option.some.injEq, Value.int.injEq, Value.ref.injEq, zsw, ev_jif, zB01, Bool.false_eq_true, one_ne, zero_eqone, nI_1, zle_t (s := 6) (n := 6) (by omega) (by omega), zlt_f (s := 6) (n := 6) (by omega) (by omega)]
    | succ n ih =>
      intro i G1 hi g1 g2 g3 g4
      have h6 : i < 6 := by omega
      obtain ⟨S1, hS1⟩ : ∃ S1, S1 = va_up S 35 (.inr (.inl (6, zHi i))) := ⟨_, rfl⟩
      have t1 : ∀ d, d ≤ 10 → S1 (36 + 11 * i + d) = zSP (36 + 11 * i + d) := fun d hd => by
        rw [hS1, va_upe, if_neg (by omega), show 36 + 11 * i + d = 34 + (2 + 11 * i + d) by omega]
        exact hr _ (by omega)
      obtain ⟨G2, c2, i2, f2⟩ := N_T2 (p := 36 + 11 * i) (M := M + 6 + 256 * i + 8) (S := S1) (G := va_up G1 (36 + 11 * i) (fun _ => 0)) (zisT_H h6) t1
      have f3 : ∀ a, a < 36 + 11 * i → G2 a = G1 a := fun a ha => by rw [f2 a (Or.inl ha), va_upe, if_neg (by omega)]
      obtain ⟨G3, c3, r3⟩ := ih (i + 1) G2 (by omega) (by rw [f3 34 (by omega)]; exact g1) (by rw [f3 34 (by omega)]; exact g2)
        (fun j hj => by
          by_cases e : j = i
          · subst e; exact i2
          · exact (g3 j (by omega)).eq (fun a h1 h2 => f3 a (by omega)))
        (fun a ha => by rw [f2 a (by omega), va_upe, if_neg (by omega)]; exact g4 a ha)
      refine ⟨G3, ?_, r3⟩
      have z1 : S1 34 = .inr (.inr (2, [some (some 35), none, none])) := by rw [hS1, va_upe, if_neg (by omega)]; exact s0
      have z2 : S1 35 = .inr (.inl (6, zHi i)) := by rw [hS1, va_upe, if_pos rfl]
      have z3 : S1 (36 + 11 * i) = .inr (.inr (6, [some (some (36 + 11 * i + 1)), some (some (36 + 11 * i + 2)), some (some (36 + 11 * i + 3)), some (some (36 + 11 * i + 4)), some (some (36 + 11 * i + 5)), some (some (36 + 11 * i + 6)), some (some (36 + 11 * i + 7)), some (some (36 + 11 * i + 9))])) := (t1 0 (by omega)).trans (zSP_T0 (zisT_H h6))
      have l1 : (34 < 36 + 11 * i) = True := eq_true (by omega)
      have l2 : (35 < 36 + 11 * (i + 1)) = True := eq_true (by omega)
      have l3 : (36 + 11 * i < 36 + 11 * (i + 1)) = True := eq_true (by omega)
      have e1 : 36 + 11 * i + 11 = 36 + 11 * (i + 1) := by omega
      have e2 : M + 6 + 256 * i + 8 + 248 = M + 6 + 256 * (i + 1) := by omega
      have e3 : va_up S1 35 (.inr (.inl (6, va_up (zHi i) i (some (36 + 11 * i))))) = va_up S 35 (.inr (.inl (6, zHi (i + 1)))) := by rw [hS1, zup_up, zHi_s h6]
      have e5 : zi (nI i) 6 = true := zi_n (s := i) (n := 6) (by omega) (by omega)
      have e6 : (nI i).toNatClampNeg = i := zcl_n (s := i) (by omega)
      rw [← hS1, kH_init_25]
      generalize 36 + 11 * i = P at *
      generalize M + 6 + 256 * i = MM at *
      simp only [kH_init_0, kH_init_50, zjH_init_25, zjH_init_50, ev_iload, ev_aload, ev_istore, ev_astore, ev_iconst, ev_null, ev_iinc, ev_iadd, ev_isub, ev_imul, ev_iand, ev_ior, ev_ixor, ev_ishl, ev_ishr, ev_iushr, ev_idiv, ev_irem, ev_icmp, ev_if, ev_ifnull, ev_ifnullN, ev_goto, ev_dupi, ev_dupr, ev_dup2, ev_pop, ev_getf, ev_puti, ev_putr, ev_iald, ev_cald, ev_aald, ev_iast, ev_cast, ev_alen, ev_tsw, ev_lsw, ev_max, ev_min, ev_obj, ev_cp, ev_throw, ev_iret, ev_aret, ev_aretN, ev_ret, ev_new, ev_newa, ev_anew, ev_is0, ev_is1, ev_is2, ev_is3, ev_is4, ev_iv1, ev_iv2, ev_iv3, ev_iv4, ev_iv5, ev_ip1, ev_ip2, zlg_0, zls_0, zlg_1, zls_1, zlg_2, zls_2, zlg_3, zls_3, zlg_4, zls_4, zlg_5, zls_5, zlg_6, zls_6, zlg_7, zls_7, zlg_8, zls_8, zlg_9, zls_9, zlg_10, zls_10, zlg_11, zls_11, ev_jif, zLI_i, zLR_r, zOV_s, List.length_cons, List.length_nil, zcd, decide_eq_true_eq, true_and, and_true, Option.toList_some, Option.toList_none, List.cons_append, List.nil_append, zrf, if_true, if_false, true_or, or_true, false_or, or_false, and_self, zwr_w, zG_hp, Nat.reduceAdd, Nat.reduceLT, Nat.reduceLeDiff, Nat.zero_le, reduceIte, not_true_eq_false, not_false_eq_true, Prod.mk.injEq, Sum.inl.injEq, Option.some.injEq, Value.int.injEq, Value.ref.injEq, zsw, ev_jif, zB01, Bool.false_eq_true, one_ne, zero_eqone, nI_1, zle_f (s := i) (n := 6) (by omega) (by omega), zlt_t (s := i) (n := 6) (by omega) (by omega), ctN, ctM, ctS, ctG, ctnw, zgf, l1, z1, z2, z3, if_true, List.getElem?_cons_zero, List.map_cons, List.map_nil, List.length_cons, List.length_nil, Nat.reduceAdd, Nat.reduceEqDiff, if_false, c2, ct_aast, zqr, zob, l2, l3, e5, e6, e3, e1, e2, beq_self_eq_true]
      exact c3
  obtain ⟨G2, c2, r2⟩ := key 6 0 (va_up (va_up G 35 (fun _ => 0)) 34 (upd (upd (G 34) 1 0) 2 0)) rfl (by simp [va_upe, upd]) (by simp [va_upe, upd]) (fun j hj => absurd hj (by omega)) (fun a ha => by rw [va_upe, if_neg (by omega), va_upe, if_neg (by omega)])
  refine ⟨G2, ?_, r2⟩
  have eS : va_up (va_up (va_up S 34 (.inr (.inr (2, [some none, none, none])))) 35 (.inr (.inl (6, zHi 0)))) 34 (.inr (.inr (2, [some (some 35), none, none]))) = va_up S 35 (.inr (.inl (6, zHi 0))) := by
    rw [zup_sw (by omega : ¬ 34 = 35), zup_up]
    exact zup_of (by rw [va_upe, if_neg (by omega)]; exact s0)
  have c2 : zEv zTT (zco mH_init) kH_init_25 [.ref 34, .int 0] [] (36, M + 6, va_up S 35 (.inr (.inl (6, zHi 0))), va_up (va_up G 35 (fun _ => 0)) 34 (upd (upd (G 34) 1 0) 2 0)) (.inl none, (102, M + 1542, S, G2)) := c2
  refine zgo zMt_H_init (show zEv zTT (zco mH_init) kH_init_0 [.ref 34, zU] [] _ _ from ?_)
  simp only [kH_init_0, kH_init_50, zjH_init_25, zjH_init_50, ev_iload, ev_aload, ev_istore, ev_astore, ev_iconst, ev_null, ev_iinc, ev_iadd, ev_isub, ev_imul, ev_iand, ev_ior, ev_ixor, ev_ishl, ev_ishr, ev_iushr, ev_idiv, ev_irem, ev_icmp, ev_if, ev_ifnull, ev_ifnullN, ev_goto, ev_dupi, ev_dupr, ev_dup2, ev_pop, ev_getf, ev_puti, ev_putr, ev_iald, ev_cald, ev_aald, ev_iast, ev_cast, ev_alen, ev_tsw, ev_lsw, ev_max, ev_min, ev_obj, ev_cp, ev_throw, ev_iret, ev_aret, ev_aretN, ev_ret, ev_new, ev_newa, ev_anew, ev_is0, ev_is1, ev_is2, ev_is3, ev_is4, ev_iv1, ev_iv2, ev_iv3, ev_iv4, ev_iv5, ev_ip1, ev_ip2, zlg_0, zls_0, zlg_1, zls_1, zlg_2, zls_2, zlg_3, zls_3, zlg_4, zls_4, zlg_5, zls_5, zlg_6, zls_6, zlg_7, zls_7, zlg_8, zls_8, zlg_9, zls_9, zlg_10, zls_10, zlg_11, zls_11, ev_jif, zLI_i, zLR_r, zOV_s, List.length_cons, List.length_nil, zcd, decide_eq_true_eq, true_and, and_true, Option.toList_some, Option.toList_none, List.cons_append, List.nil_append, zrf, if_true, if_false, true_or, or_true, false_or, or_false, and_self, zwr_w, zG_hp, Nat.reduceAdd, Nat.reduceLT, Nat.reduceLeDiff, Nat.zero_le, reduceIte, not_true_eq_false, not_false_eq_true, Prod.mk.injEq, Sum.inl.injEq, Option.some.injEq, Value.int.injEq, Value.ref.injEq, zsw, ev_jif, zB01, Bool.false_eq_true, one_ne, zero_eqone, nI_1, ctN, ctM, ctS, ctG, ctnw, ctwr, zpf, zgf, zar, zln, zqr, zob, va_upe, zup_up, zup_of, zpne, zpne0, zpne1, zplt, zplt0, c0_0, c1_1, ctup, zB_2, zB_3, zB_4, zB_5, zB_6, List.getElem?_cons_zero, List.getElem?_cons_succ, List.set_cons_zero, List.set_cons_succ, List.map_cons, List.map_nil, Nat.add_assoc, Nat.reduceAdd, Nat.reduceMul, Nat.reduceEqDiff, Nat.reduceLT, Nat.reduceLeDiff, ne_eq, false_and, and_false, s1, zlt_0 (s := 6) (by omega), zcl_n (s := 6) (by omega)]
  rw [zHi_0, eS]
  exact c2
end ZCTORS2
