section ZCTORS3
variable {N M : Nat} {S : Nat → zSh} {G : Nat → Nat → Int32}
/-- everything at its beginning -/
def zA0 : zCA := (zI0, zI0, fun _ => zI0, 0, 0, false)
def zf0 : zSh := .inr (.inr (7, [some none, some none, some none, some none, some none, some none, some none, none, none]))
set_option maxHeartbeats 4000000 in
/-- the class's constructor: from an object just made to all its cells -/
theorem C_init : ∃ G', zcal zTT jC_init [.ref 0] (1, 9, va_up zSP 0 zf0, G) = some (none, (122, 3123, zSP, G')) ∧ zCP G' zA0 ∧ zST G' [] ∧ ∃ Cs, zSD G' Cs := by
  have hz : ∀ (f : zSh) (a : Nat), ¬ a = 0 → va_up zSP 0 f a = zSP a := fun f a ha => by rw [va_upe, if_neg ha]
  obtain ⟨f0, hf0⟩ : ∃ f, f = va_up zSP 0 zf0 := ⟨_, rfl⟩
  have hT : ∀ (p : Nat), zisT p = true → ∀ (x : zSh) d, d ≤ 10 → va_up zSP 0 x (p + d) = zSP (p + d) := fun p hp x d _ => hz _ _ (by have := (zT_le hp).2; omega)
  obtain ⟨G1, c1, i1, r1⟩ := N_T2 (p := 1) (M := 9 + 8) (S := va_up zSP 0 zf0) (G := va_up G 1 (fun _ => 0)) rfl (hT 1 rfl _)
  obtain ⟨x1, hx1⟩ : ∃ x : zSh, x = .inr (.inr (7, [some (some 1), some none, some none, some none, some none, some none, some none, none, none])) := ⟨_, rfl⟩
  obtain ⟨G2, c2, i2, r2⟩ := N_T2 (p := 12) (M := 265 + 8) (S := va_up zSP 0 x1) (G := va_up G1 12 (fun _ => 0)) rfl (hT 12 rfl _)
  obtain ⟨x2, hx2⟩ : ∃ x : zSh, x = .inr (.inr (7, [some (some 1), some (some 12), some none, some none, some none, some none, some none, none, none])) := ⟨_, rfl⟩
  obtain ⟨G3, c3, i3, r3⟩ := N_T2 (p := 23) (M := 521 + 8) (S := va_up zSP 0 x2) (G := va_up G2 23 (fun _ => 0)) rfl (hT 23 rfl _)
  obtain ⟨x3, hx3⟩ : ∃ x : zSh, x = .inr (.inr (7, [some (some 1), some (some 12), some (some 23), some none, some none, some none, some none, none, none])) := ⟨_, rfl⟩
  obtain ⟨G4, c4, i4, r4⟩ := N_H (M := 777 + 3) (S := va_up zSP 0 x3) (G := va_up G3 34 (fun _ => 0)) (fun d _ => hz _ _ (by omega))
  obtain ⟨x4, hx4⟩ : ∃ x : zSh, x = .inr (.inr (7, [some (some 1), some (some 12), some (some 23), some (some 34), some none, some none, some none, none, none])) := ⟨_, rfl⟩
  obtain ⟨G5, c5, i5, j5, r5⟩ := N_S (M := 2322 + 7) (S := va_up zSP 0 x4) (G := va_up G4 102 (fun _ => 0)) (fun d _ => hz _ _ (by omega))
  obtain ⟨x5, hx5⟩ : ∃ x : zSh, x = .inr (.inr (7, [some (some 1), some (some 12), some (some 23), some (some 34), some (some 102), some none, some none, none, none])) := ⟨_, rfl⟩
  obtain ⟨G6, hG6⟩ : ∃ G6, G6 = va_up G5 0 (upd (upd (G5 0) 7 1) 8 0) := ⟨_, rfl⟩
  obtain ⟨f, c6, i6⟩ := N_A (M := 2449) (S := va_up zSP 0 x5) (G := G6) (hz _ _ (by omega))
  obtain ⟨G7, c7, r7⟩ := N_P (q := 108) (M := 2609 + 9) (S := va_up zSP 0 x5) (G := va_up (va_up G6 107 f) 108 (fun _ => 0)) rfl (fun d _ => hz _ _ (by omega))
  obtain ⟨x6, hx6⟩ : ∃ x : zSh, x = .inr (.inr (7, [some (some 1), some (some 12), some (some 23), some (some 34), some (some 102), some (some 108), some none, none, none])) := ⟨_, rfl⟩
  obtain ⟨G8, c8, r8⟩ := N_P (q := 115) (M := 2866 + 9) (S := va_up zSP 0 x6) (G := va_up G7 115 (fun _ => 0)) rfl (fun d _ => hz _ _ (by omega))
  simp only [Nat.reduceAdd, zf0] at c1 c2 c3 c4 c5 c6 c7 c8
  refine ⟨G8, ?_, ?_⟩
  · subst hx1 hx2 hx3 hx4 hx5 hx6 hG6
    have z0 : zSP 0 = .inr (.inr (7, [some (some 1), some (some 12), some (some 23), some (some 34), some (some 102), some (some 108), some (some 115), none, none])) := rfl
    refine zgo zMt_C_init (show zEv zTT (zco mC_init) kC_init_0 [.ref 0, zU] [] _ _ from ?_)
    simp only [kC_init_0, ev_iload, ev_aload, ev_istore, ev_astore, ev_iconst, ev_null, ev_iinc, ev_iadd, ev_isub, ev_imul, ev_iand, ev_ior, ev_ixor, ev_ishl, ev_ishr, ev_iushr, ev_idiv, ev_irem, ev_icmp, ev_if, ev_ifnull, ev_ifnullN, ev_goto, ev_dupi, ev_dupr, ev_dup2, ev_pop, ev_getf, ev_puti, ev_putr, ev_iald, ev_cald, ev_aald, ev_iast, ev_cast, ev_alen, ev_tsw, ev_lsw, ev_max, ev_min, ev_obj, ev_cp, ev_throw, ev_iret, ev_aret, ev_aretN, ev_ret, ev_new, ev_newa, ev_anew, ev_is0, ev_is1, ev_is2, ev_is3, ev_is4, ev_iv1, ev_iv2, ev_iv3, ev_iv4, ev_iv5, ev_ip1, ev_ip2, zlg_0, zls_0, zlg_1, zls_1, zlg_2, zls_2, zlg_3, zls_3, zlg_4, zls_4, zlg_5, zls_5, zlg_6, zls_6, zlg_7, zls_7, zlg_8, zls_8, zlg_9, zls_9, zlg_10, zls_10, zlg_11, zls_11, ev_jif, zLI_i, zLR_r, zOV_s, List.length_cons, List.length_nil, zcd, decide_eq_true_eq, true_and, and_true, Option.toList_some, Option.toList_none, List.cons_append, List.nil_append, zrf, if_true, if_false, true_or, or_true, false_or, or_false, and_self, zwr_w, zG_hp, Nat.reduceAdd, Nat.reduceLT, Nat.reduceLeDiff, Nat.zero_le, reduceIte, not_true_eq_false, not_false_eq_true, Prod.mk.injEq, Sum.inl.injEq, Option.some.injEq, Value.int.injEq, Value.ref.injEq, zsw, ev_jif, zB01, Bool.false_eq_true, one_ne, zero_eqone, nI_1, ctN, ctM, ctS, ctG, ctnw, ctwr, zpf, zgf, zar, zln, zqr, zob, va_upe, zup_up, zup_of, zpne, zpne0, zpne1, zplt, zplt0, c0_0, c1_1, ctup, zB_2, zB_3, zB_4, zB_5, zB_6, List.getElem?_cons_zero, List.getElem?_cons_succ, List.set_cons_zero, List.set_cons_succ, List.map_cons, List.map_nil, Nat.add_assoc, Nat.reduceAdd, Nat.reduceMul, Nat.reduceEqDiff, Nat.reduceLT, Nat.reduceLeDiff, ne_eq, false_and, and_false, zf0, c1, c2, c3, c4, c5, c6, c7, c8, z0]
  · have e8 : ∀ a, a < 115 → G8 a = G7 a := fun a ha => by rw [r8 a (Or.inl ha), va_upe, if_neg (by omega)]
    have e7 : ∀ a, a < 107 → G8 a = G6 a := fun a ha => by rw [e8 a (by omega), r7 a (by omega), va_upe, if_neg (by omega), va_upe, if_neg (by omega)]
    have e5 : ∀ a, 1 ≤ a → a < 107 → G8 a = G5 a := fun a h1 h2 => by rw [e7 a h2, hG6, va_upe, if_neg (by omega)]
    have e4 : ∀ a, 1 ≤ a → a < 102 → G8 a = G4 a := fun a h1 h2 => by rw [e5 a h1 (by omega), r5 a (by omega), va_upe, if_neg (by omega)]
    have e3 : ∀ a, 1 ≤ a → a < 34 → G8 a = G3 a := fun a h1 h2 => by rw [e4 a h1 (by omega), r4 a (by omega), va_upe, if_neg (by omega)]
    have e2 : ∀ a, 1 ≤ a → a < 23 → G8 a = G2 a := fun a h1 h2 => by rw [e3 a h1 (by omega), r3 a (by omega), va_upe, if_neg (by omega)]
    have e1 : ∀ a, 1 ≤ a → a < 12 → G8 a = G1 a := fun a h1 h2 => by rw [e2 a h1 (by omega), r2 a (by omega), va_upe, if_neg (by omega)]
    have e107 : G8 107 = f := by rw [e8 107 (by omega), r7 107 (by omega), va_upe, if_neg (by omega), va_upe, if_pos rfl]
    have e0 : G8 0 = upd (upd (G5 0) 7 1) 8 0 := by rw [e7 0 (by omega), hG6, va_upe, if_pos rfl]
    refine ⟨⟨i1.eq (fun a h1 h2 => e1 a (by omega) (by omega)), ⟨zI0, i2.eq (fun a h1 h2 => e2 a (by omega) (by omega))⟩, i3.eq (fun a h1 h2 => e3 a (by omega) (by omega)), i4.fr (fun a h1 h2 => e4 a (by omega) (by omega)), fun i hi => by rw [e107]; exact i6 i hi, Or.inl ?_, ?_⟩, ⟨?_, by simp, fun i hi => absurd hi (by simp)⟩, ⟨[], ?_, by simp, fun i hi => absurd hi (by simp)⟩⟩
    · rw [e0]; simp [upd]
    · rw [e0]; simp [upd, zA0, cB]
    · rw [e5 102 (by omega) (by omega), i5]; exact nI_0.symm
    · rw [e5 102 (by omega) (by omega), j5]; exact nI_0.symm
/-- the numbers that the reference's constructor lays -/
def zMi (G : Nat → Nat → Int32) (i : Nat) : Nat → Nat → Int32 := va_up (va_up (va_up G 123 (fun j => if 28 ≤ j ∧ j < 28 + i then -1 else G 123 j)) 127 (fun j => if j < i then zSz (nI j) else G 127 j)) 128 (fun j => if j < i then zPl (nI 1000 + nI j) else G 128 j)
theorem zMi_0 : zMi G 0 = G := by
  unfold zMi
  have e1 : (fun j => if 28 ≤ j ∧ j < 28 + 0 then -1 else G 123 j) = G 123 := by funext j; rw [if_neg (by omega)]
  have e2 : (fun j => if j < 0 then zSz (nI j) else G 127 j) = G 127 := by funext j; rw [if_neg (by omega)]
  have e3 : (fun j => if j < 0 then zPl (nI 1000 + nI j) else G 128 j) = G 128 := by funext j; rw [if_neg (by omega)]
  rw [e1, e2, e3, zup_self, zup_self, zup_self]
theorem zif_lt {α : Type} {j i : Nat} (h : ¬ j = i) (x y : α) : (if j < i + 1 then x else y) = if j < i then x else y := by
  by_cases h2 : j < i
  · rw [if_pos h2, if_pos (by omega)]
  · rw [if_neg h2, if_neg (by omega)]
theorem zMi_s {i : Nat} : zw (zw (zw (zMi G i) 123 (28 + i) (-1)) 128 i (zPl (nI 1000 + nI i))) 127 i (zSz (nI i)) = zMi G (i + 1) := by
  funext a j
  rw [zw_app, zw_app, zw_app]
  unfold zMi
  simp only [va_upe]
  by_cases h1 : a = 123
  · subst h1
    by_cases h2 : j = 28 + i
    · subst h2; simp
    · simp only [h2]
      by_cases h3 : 28 ≤ j ∧ j < 28 + i
      · simp [h3, (by omega : j < 28 + (i + 1))]
      · have h5 : ¬ (28 ≤ j ∧ j < 28 + (i + 1)) := by omega
        simp only [false_and, and_false, if_false, if_true, h3, h5, (by decide : ¬ (123 : Nat) = 128), (by decide : ¬ (123 : Nat) = 127)]
  · by_cases h2 : a = 127
    · subst h2
      by_cases h3 : j = i
      · subst h3; simp
      · simp [h3, zif_lt h3]
    · by_cases h4 : a = 128
      · subst h4
        by_cases h3 : j = i
        · subst h3; simp
        · simp [h3, zif_lt h3]
      · simp [h1, h2, h4]
theorem M_loop : ∀ n i, i + n = 32 → zEv zTT (zco mM_init) kM_init_164 [.ref 122, .int (nI i)] [] (zhp (zMi G i)) (.inl none, zhp (zMi G 32)) := by
  intro n
  induction n with
  | zero =>
    intro i hi
    have hi : i = 32 := by omega
    subst hi
    rw [kM_init_164]
    simp only [kM_init_0, kM_init_219, zjM_init_164, zjM_init_219, ev_iload, ev_aload, ev_istore, ev_astore, ev_iconst, ev_null, ev_iinc, ev_iadd, ev_isub, ev_imul, ev_iand, ev_ior, ev_ixor, ev_ishl, ev_ishr, ev_iushr, ev_idiv, ev_irem, ev_icmp, ev_if, ev_ifnull, ev_ifnullN, ev_goto, ev_dupi, ev_dupr, ev_dup2, ev_pop, ev_getf, ev_puti, ev_putr, ev_iald, ev_cald, ev_aald, ev_iast, ev_cast, ev_alen, ev_tsw, ev_lsw, ev_max, ev_min, ev_obj, ev_cp, ev_throw, ev_iret, ev_aret, ev_aretN, ev_ret, ev_new, ev_newa, ev_anew, ev_is0, ev_is1, ev_is2, ev_is3, ev_is4, ev_iv1, ev_iv2, ev_iv3, ev_iv4, ev_iv5, ev_ip1, ev_ip2, zlg_0, zls_0, zlg_1, zls_1, zlg_2, zls_2, zlg_3, zls_3, zlg_4, zls_4, zlg_5, zls_5, zlg_6, zls_6, zlg_7, zls_7, zlg_8, zls_8, zlg_9, zls_9, zlg_10, zls_10, zlg_11, zls_11, ev_jif, zLI_i, zLR_r, zOV_s, List.length_cons, List.length_nil, zcd, decide_eq_true_eq, true_and, and_true, Option.toList_some, Option.toList_none, List.cons_append, List.nil_append, zrf, if_true, if_false, true_or, or_true, false_or, or_false, and_self, zwr_w, zG_hp, Nat.reduceAdd, Nat.reduceLT, Nat.reduceLeDiff, Nat.zero_le, reduceIte, not_true_eq_false, not_false_eq_true, Prod.mk.injEq, Sum.inl.injEq, Option.some.injEq, Value.int.injEq, Value.ref.injEq, zsw, ev_jif, zB01, Bool.false_eq_true, one_ne, zero_eqone, nI_1, zle_t (s := 32) (n := 32) (by omega) (by omega), zlt_f (s := 32) (n := 32) (by omega) (by omega)]
  | succ n ih =>
    intro i hi
    have h := ih (i + 1) (by omega)
    rw [← zMi_s] at h
    rw [kM_init_164]
    have eS : zSz (nI i) = 1 + (zPl (nI 2000 + nI i) - zPl (nI 2000 + nI i) / nI 9 * nI 9) := rfl
    rw [eS] at h
    simp only [kM_init_0, kM_init_219, zjM_init_164, zjM_init_219, ev_iload, ev_aload, ev_istore, ev_astore, ev_iconst, ev_null, ev_iinc, ev_iadd, ev_isub, ev_imul, ev_iand, ev_ior, ev_ixor, ev_ishl, ev_ishr, ev_iushr, ev_idiv, ev_irem, ev_icmp, ev_if, ev_ifnull, ev_ifnullN, ev_goto, ev_dupi, ev_dupr, ev_dup2, ev_pop, ev_getf, ev_puti, ev_putr, ev_iald, ev_cald, ev_aald, ev_iast, ev_cast, ev_alen, ev_tsw, ev_lsw, ev_max, ev_min, ev_obj, ev_cp, ev_throw, ev_iret, ev_aret, ev_aretN, ev_ret, ev_new, ev_newa, ev_anew, ev_is0, ev_is1, ev_is2, ev_is3, ev_is4, ev_iv1, ev_iv2, ev_iv3, ev_iv4, ev_iv5, ev_ip1, ev_ip2, zlg_0, zls_0, zlg_1, zls_1, zlg_2, zls_2, zlg_3, zls_3, zlg_4, zls_4, zlg_5, zls_5, zlg_6, zls_6, zlg_7, zls_7, zlg_8, zls_8, zlg_9, zls_9, zlg_10, zls_10, zlg_11, zls_11, ev_jif, zLI_i, zLR_r, zOV_s, List.length_cons, List.length_nil, zcd, decide_eq_true_eq, true_and, and_true, Option.toList_some, Option.toList_none, List.cons_append, List.nil_append, zrf, if_true, if_false, true_or, or_true, false_or, or_false, and_self, zwr_w, zG_hp, Nat.reduceAdd, Nat.reduceLT, Nat.reduceLeDiff, Nat.zero_le, reduceIte, not_true_eq_false, not_false_eq_true, Prod.mk.injEq, Sum.inl.injEq, Option.some.injEq, Value.int.injEq, Value.ref.injEq, zsw, ev_jif, zB01, Bool.false_eq_true, one_ne, zero_eqone, nI_1, gT0_0, gT0_1, gT0_2, gT0_3, gT0_4, gT0_5, gT0_6, gT0_7, oT0, aT1, aT2, aT3, aT4, aT5, aT6, gT7_0, pgT7_0, gT7_1, gT7_2, pgT7_2, oT7, aT8, gT9_0, pgT9_0, gT9_1, gT9_2, pgT9_2, oT9, aT10, gP0_0, gP0_1, gP0_2, gP0_3, gP0_4, gP0_5, gP0_6, gP0_7, pgP0_7, gP0_8, pgP0_8, oP0, aP1, aP2, aP3, aP4, aP5, aP6, gR0_0, pgR0_0, gR0_1, gR0_2, pgR0_2, oR0, aR1, g0_0, g0_1, g0_2, g0_3, g0_4, g0_5, g0_6, g0_7, pg0_7, g0_8, pg0_8, o0, g34_0, g34_1, pg34_1, g34_2, pg34_2, o34, g102_0, g102_1, pg102_1, g102_2, pg102_2, g102_3, g102_4, g102_5, g102_6, pg102_6, o102, g122_0, g122_1, g122_2, g122_3, pg122_3, g122_4, g122_5, pg122_5, g122_6, pg122_6, g122_7, g122_8, g122_9, pg122_9, g122_10, g122_11, g122_12, g122_13, g122_14, g122_15, g122_16, g122_17, g122_18, pg122_18, g122_19, g122_20, pg122_20, g122_21, pg122_21, g122_22, pg122_22, g122_23, o122, a103, a104, a105, a106, a107, a123, a124, a125, a126, a127, a128, a129, a130, a131, a132, a133, a134, a135, a136, a137, a138, q35, zisT_1, zisT_12, zisT_23, zisT_36, zisT_47, zisT_58, zisT_69, zisT_80, zisT_91, zisP_108, zisP_115, zisR_8, zisR_10, zisR_19, zisR_21, zisR_30, zisR_32, zisR_43, zisR_45, zisR_54, zisR_56, zisR_65, zisR_67, zisR_76, zisR_78, zisR_87, zisR_89, zisR_98, zisR_100, id zisT_1, id zisT_12, id zisT_23, id zisP_108, id zisP_115, id (zisR_T7 zisT_1), id (zisR_T9 zisT_1), zle_f (s := i) (n := 32) (by omega) (by omega), zlt_t (s := i) (n := 32) (by omega) (by omega), nI_add, zi_n (s := 28 + i) (n := 340) (by omega) (by omega), zcl_n (s := 28 + i) (by omega), zi_n (s := i) (n := 32) (by omega) (by omega), zcl_n (s := i) (by omega), a123, a127, a128, M_placeOf, n9] at h ⊢
    exact h
theorem M_loop0 (G : Nat → Nat → Int32) : zEv zTT (zco mM_init) kM_init_164 [.ref 122, .int 0] [] (139, 7103, zSP, G) (.inl none, zhp (zMi G 32)) := by
  have h := M_loop (G := G) 32 0 rfl
  rw [zMi_0] at h
  exact h
theorem M_fld {T : Nat → zCd × Nat} {MM c : zCd} {ls : List Value} {o : zRt × zHp} {p1 p2 p3 p4 l2 n k : Nat} {fs : List (Option (Option Nat))} (hs : zSP N = .inl (0, n)) (hn : n < 4096) (hN : 122 < N) (hk : fs[k]? = some (some none)) (h : zEv T MM c (.ref 122 :: ls) [] (N + 1, M + n, va_up zSP 122 (.inr (.inr (8, fs.set k (some (some N))))), va_up G N (fun _ => 0)) o) : zEv T MM (zo p1 1 (.aload 0) :: zk p2 l2 (.iconst 0) (nI n) :: zx p3 2 (.newarray .int) 0 :: zz p4 3 (.putfield 1) 8 k :: c) (.ref 122 :: ls) [] (N, M, va_up zSP 122 (.inr (.inr (8, fs))), G) o := by
  have e1 : va_up (va_up zSP 122 (.inr (.inr (8, fs)))) N (.inl (0, n)) = va_up zSP 122 (.inr (.inr (8, fs))) := zup_of (by rw [va_upe, if_neg (by omega)]; exact hs)
  have n31 : n < 2 ^ 31 := Nat.lt_of_lt_of_le hn (by decide)
  have hn2 : n ≤ 4096 := Nat.le_of_lt hn
  have l1 : (122 < N + 1) = True := eq_true (by omega)
  have d1 : (122 = N) = False := eq_false (by omega)
  have l3 : (N < N + 1) = True := eq_true (by omega)
  simp only [ev_iload, ev_aload, ev_istore, ev_astore, ev_iconst, ev_null, ev_iinc, ev_iadd, ev_isub, ev_imul, ev_iand, ev_ior, ev_ixor, ev_ishl, ev_ishr, ev_iushr, ev_idiv, ev_irem, ev_icmp, ev_if, ev_ifnull, ev_ifnullN, ev_goto, ev_dupi, ev_dupr, ev_dup2, ev_pop, ev_getf, ev_puti, ev_putr, ev_iald, ev_cald, ev_aald, ev_iast, ev_cast, ev_alen, ev_tsw, ev_lsw, ev_max, ev_min, ev_obj, ev_cp, ev_throw, ev_iret, ev_aret, ev_aretN, ev_ret, ev_new, ev_newa, ev_anew, ev_is0, ev_is1, ev_is2, ev_is3, ev_is4, ev_iv1, ev_iv2, ev_iv3, ev_iv4, ev_iv5, ev_ip1, ev_ip2, zlg_0, zls_0, zlg_1, zls_1, zlg_2, zls_2, zlg_3, zls_3, zlg_4, zls_4, zlg_5, zls_5, zlg_6, zls_6, zlg_7, zls_7, zlg_8, zls_8, zlg_9, zls_9, zlg_10, zls_10, zlg_11, zls_11, ev_jif, zLI_i, zLR_r, zOV_s, List.length_cons, List.length_nil, zcd, decide_eq_true_eq, true_and, and_true, Option.toList_some, Option.toList_none, List.cons_append, List.nil_append, zrf, if_true, if_false, true_or, or_true, false_or, or_false, and_self, zwr_w, zG_hp, Nat.reduceAdd, Nat.reduceLT, Nat.reduceLeDiff, Nat.zero_le, reduceIte, not_true_eq_false, not_false_eq_true, Prod.mk.injEq, Sum.inl.injEq, Option.some.injEq, Value.int.injEq, Value.ref.injEq, zsw, ev_jif, zB01, Bool.false_eq_true, one_ne, zero_eqone, nI_1, ctN, ctM, ctS, ctG, ctnw, zlt_0 (s := n) n31, zcl_n (s := n) hn, hn2, e1, zpf, l1, l3, d1, va_upe, hk, zup_up]
  exact h
theorem M_tail (H : Nat → Nat → Int32) : zEv zTT (zco mM_init) (zo 140 1 (.aload 0) :: zz 141 3 (.getfield 0) 8 0 :: zk 144 1 (.iconst 0) 0 :: zk 145 2 (.iconst 0) (nI 25) :: zo 147 1 .iastore :: zo 148 1 (.aload 0) :: zz 149 3 (.getfield 0) 8 0 :: zk 152 1 (.iconst 0) 1 :: zk 153 1 (.iconst 0) (nI 3) :: zo 154 1 .iastore :: zo 155 1 (.aload 0) :: zz 156 3 (.getfield 0) 8 0 :: zk 159 1 (.iconst 0) (nI 2) :: zk 160 1 (.iconst 0) (nI 5) :: zo 161 1 .iastore :: zk 162 1 (.iconst 0) 0 :: zo 163 1 (.istore 1) :: kM_init_164) [.ref 122, zU] [] (zhp H) (.inl none, zhp (zMi (zw (zw (zw H 123 0 (nI 25)) 123 1 (nI 3)) 123 2 (nI 5)) 32)) := by
  have z1 : zi 0 340 = true := by decide
  have z2 : zi 1 340 = true := by decide
  simp only [ev_iload, ev_aload, ev_istore, ev_astore, ev_iconst, ev_null, ev_iinc, ev_iadd, ev_isub, ev_imul, ev_iand, ev_ior, ev_ixor, ev_ishl, ev_ishr, ev_iushr, ev_idiv, ev_irem, ev_icmp, ev_if, ev_ifnull, ev_ifnullN, ev_goto, ev_dupi, ev_dupr, ev_dup2, ev_pop, ev_getf, ev_puti, ev_putr, ev_iald, ev_cald, ev_aald, ev_iast, ev_cast, ev_alen, ev_tsw, ev_lsw, ev_max, ev_min, ev_obj, ev_cp, ev_throw, ev_iret, ev_aret, ev_aretN, ev_ret, ev_new, ev_newa, ev_anew, ev_is0, ev_is1, ev_is2, ev_is3, ev_is4, ev_iv1, ev_iv2, ev_iv3, ev_iv4, ev_iv5, ev_ip1, ev_ip2, zlg_0, zls_0, zlg_1, zls_1, zlg_2, zls_2, zlg_3, zls_3, zlg_4, zls_4, zlg_5, zls_5, zlg_6, zls_6, zlg_7, zls_7, zlg_8, zls_8, zlg_9, zls_9, zlg_10, zls_10, zlg_11, zls_11, ev_jif, zLI_i, zLR_r, zOV_s, List.length_cons, List.length_nil, zcd, decide_eq_true_eq, true_and, and_true, Option.toList_some, Option.toList_none, List.cons_append, List.nil_append, zrf, if_true, if_false, true_or, or_true, false_or, or_false, and_self, zwr_w, zG_hp, Nat.reduceAdd, Nat.reduceLT, Nat.reduceLeDiff, Nat.zero_le, reduceIte, not_true_eq_false, not_false_eq_true, Prod.mk.injEq, Sum.inl.injEq, Option.some.injEq, Value.int.injEq, Value.ref.injEq, zsw, ev_jif, zB01, Bool.false_eq_true, one_ne, zero_eqone, nI_1, gT0_0, gT0_1, gT0_2, gT0_3, gT0_4, gT0_5, gT0_6, gT0_7, oT0, aT1, aT2, aT3, aT4, aT5, aT6, gT7_0, pgT7_0, gT7_1, gT7_2, pgT7_2, oT7, aT8, gT9_0, pgT9_0, gT9_1, gT9_2, pgT9_2, oT9, aT10, gP0_0, gP0_1, gP0_2, gP0_3, gP0_4, gP0_5, gP0_6, gP0_7, pgP0_7, gP0_8, pgP0_8, oP0, aP1, aP2, aP3, aP4, aP5, aP6, gR0_0, pgR0_0, gR0_1, gR0_2, pgR0_2, oR0, aR1, g0_0, g0_1, g0_2, g0_3, g0_4, g0_5, g0_6, g0_7, pg0_7, g0_8, pg0_8, o0, g34_0, g34_1, pg34_1, g34_2, pg34_2, o34, g102_0, g102_1, pg102_1, g102_2, pg102_2, g102_3, g102_4, g102_5, g102_6, pg102_6, o102, g122_0, g122_1, g122_2, g122_3, pg122_3, g122_4, g122_5, pg122_5, g122_6, pg122_6, g122_7, g122_8, g122_9, pg122_9, g122_10, g122_11, g122_12, g122_13, g122_14, g122_15, g122_16, g122_17, g122_18, pg122_18, g122_19, g122_20, pg122_20, g122_21, pg122_21, g122_22, pg122_22, g122_23, o122, a103, a104, a105, a106, a107, a123, a124, a125, a126, a127, a128, a129, a130, a131, a132, a133, a134, a135, a136, a137, a138, q35, zisT_1, zisT_12, zisT_23, zisT_36, zisT_47, zisT_58, zisT_69, zisT_80, zisT_91, zisP_108, zisP_115, zisR_8, zisR_10, zisR_19, zisR_21, zisR_30, zisR_32, zisR_43, zisR_45, zisR_54, zisR_56, zisR_65, zisR_67, zisR_76, zisR_78, zisR_87, zisR_89, zisR_98, zisR_100, id zisT_1, id zisT_12, id zisT_23, id zisP_108, id zisP_115, id (zisR_T7 zisT_1), id (zisR_T9 zisT_1), a123, z1, z2, c0_0, c1_1, zi_n (s := 2) (n := 340) (by omega) (by omega), zcl_n (s := 2) (by omega)]
  exact M_loop0 _
theorem zMi_123 {H : Nat → Nat → Int32} (h : H 123 = fun _ => 0) (j : Nat) : zMi (zw (zw (zw H 123 0 (nI 25)) 123 1 (nI 3)) 123 2 (nI 5)) 32 123 j = if 28 ≤ j ∧ j < 60 then -1 else if j = 2 then nI 5 else if j = 1 then nI 3 else if j = 0 then nI 25 else 0 := by
  simp [zMi, va_upe, zw_app, h]
theorem zMi_127 {H : Nat → Nat → Int32} {s : Nat} (hs : s < 32) : zMi H 32 127 s = zSz (nI s) := by
  simp [zMi, va_upe, hs]
theorem zMi_128 {H : Nat → Nat → Int32} {s : Nat} (hs : s < 32) : zMi H 32 128 s = zPl (nI 1000 + nI s) := by
  simp [zMi, va_upe, hs]
theorem zMi_o {H : Nat → Nat → Int32} {a : Nat} (h1 : a ≠ 123) (h2 : a ≠ 127) (h3 : a ≠ 128) : zMi (zw (zw (zw H 123 0 (nI 25)) 123 1 (nI 3)) 123 2 (nI 5)) 32 a = H a := by
  unfold zMi
  rw [va_upe, if_neg h3, va_upe, if_neg h2, va_upe, if_neg h1, zw_oth _ h1, zw_oth _ h1, zw_oth _ h1]
theorem M_zero {H : Nat → Nat → Int32} (h1 : H 123 = fun _ => 0) (h2 : H 122 = fun _ => 0) : zMZ (zMi (zw (zw (zw H 123 0 (nI 25)) 123 1 (nI 3)) 123 2 (nI 5)) 32) zA0 [] := by
  have e := zMi_123 h1
  have e2 : zMi (zw (zw (zw H 123 0 (nI 25)) 123 1 (nI 3)) 123 2 (nI 5)) 32 122 = fun _ => 0 := (zMi_o (by decide) (by decide) (by decide)).trans h2
  refine ⟨⟨fun k hk => ?_, fun k hk => ?_, fun n hn => ?_, fun n hn => ?_, fun j hj => ?_, fun j hj hh => absurd rfl hh, ⟨?_, by simp [zA0, zI0, cS, sM], fun i k hi => absurd hi (by simp [zA0, zI0, cS, sM])⟩, ?_, by simp [zA0, zI0, cS, sE], fun i k hi => absurd hi (by simp [zA0, zI0, cS, sE])⟩, fun h => absurd h (by decide), ?_, ⟨?_, by decide, by decide, fun i hi => absurd hi (by simp [zA0, cC])⟩, fun t ht => zMi_127 ht, fun t ht => zMi_128 ht, ?_, by simp, fun i hi => absurd hi (by simp)⟩
  · show zMi _ 32 123 k = _
    rw [e]
    rcases (show k = 0 ∨ k = 1 ∨ k = 2 by omega) with rfl | rfl | rfl <;> simp [zA0, zI0, cS, sC]
  · show zMi _ 32 123 (3 + k) = _
    rw [e, if_neg (by omega), if_neg (by omega), if_neg (by omega), if_neg (by omega)]
    rfl
  · show zMi _ 32 123 (12 + n) = _
    rw [e, if_neg (by omega), if_neg (by omega), if_neg (by omega), if_neg (by omega)]
    rfl
  · show zMi _ 32 123 (20 + n) = _
    rw [e, if_neg (by omega), if_neg (by omega), if_neg (by omega), if_neg (by omega)]
    rfl
  · show zMi _ 32 123 (28 + j) = _
    rw [e, if_pos (by omega)]
    rfl
  · show zMi _ 32 123 10 = _
    rw [e, if_neg (by omega), if_neg (by omega), if_neg (by omega), if_neg (by omega)]
    exact nI_0.symm
  · show zMi _ 32 123 11 = _
    rw [e, if_neg (by omega), if_neg (by omega), if_neg (by omega), if_neg (by omega)]
    exact nI_0.symm
  · rw [e2]; rfl
  · rw [e2]; exact nI_0.symm
  · rw [e2]; exact nI_0.symm
set_option maxHeartbeats 4000000 in
/-- the reference's constructor -/
theorem M_init {x0 : zSh} (hx0 : x0 = .inr (.inr (8, [some none, some none, some none, none, some none, none, none, some none, some none, none, some none, some none, some none, some none, some none, some none, some none, some none, none, some none, none, none, none, some none]))) : ∃ G', zcal zTT jM_init [.ref 122] (123, 3147, va_up zSP 122 x0, va_up G 122 (fun _ => 0)) = some (none, zhp G') ∧ zMZ G' zA0 [] ∧ ∀ a, a < 122 → G' a = G a := by
  subst hx0
  have z0 : zSP 122 = .inr (.inr (8, [some (some 123), some (some 124), some (some 125), none, some (some 126), none, none, some (some 127), some (some 128), none, some (some 129), some (some 130), some (some 131), some (some 132), some (some 133), some (some 134), some (some 135), some (some 136), none, some (some 137), none, none, none, some (some 138)])) := rfl
  have s1 : zSP 123 = .inl (0, 340) := rfl
  have s2 : zSP 124 = .inl (0, 340) := rfl
  have s3 : zSP 125 = .inl (0, 340) := rfl
  have s4 : zSP 126 = .inl (0, 2040) := rfl
  have s5 : zSP 127 = .inl (0, 32) := rfl
  have s6 : zSP 128 = .inl (0, 32) := rfl
  have s7 : zSP 129 = .inl (0, 160) := rfl
  have s8 : zSP 130 = .inl (0, 160) := rfl
  have s9 : zSP 131 = .inl (0, 160) := rfl
  have s10 : zSP 132 = .inl (0, 8) := rfl
  have s11 : zSP 133 = .inl (0, 32) := rfl
  have s12 : zSP 134 = .inl (0, 32) := rfl
  have s13 : zSP 135 = .inl (0, 8) := rfl
  have s14 : zSP 136 = .inl (0, 32) := rfl
  have s15 : zSP 137 = .inl (0, 60) := rfl
  have s16 : zSP 138 = .inl (0, 180) := rfl
  have eS := zup_of z0
  refine ⟨?G, ?h1, ?h2, ?h3⟩
  case h1 =>
    refine zgo zMt_M_init (show zEv zTT (zco mM_init) kM_init_0 [.ref 122, zU] [] _ _ from ?_)
    rw [kM_init_0, ev_aload, zlg_0, zLR_r, ev_obj]
    refine ⟨by decide, ?_⟩
    refine M_fld s1 (by decide) (by decide) rfl ?_
    refine M_fld s2 (by decide) (by decide) rfl ?_
    refine M_fld s3 (by decide) (by decide) rfl ?_
    refine M_fld s4 (by decide) (by decide) rfl ?_
    refine M_fld s5 (by decide) (by decide) rfl ?_
    refine M_fld s6 (by decide) (by decide) rfl ?_
    refine M_fld s7 (by decide) (by decide) rfl ?_
    refine M_fld s8 (by decide) (by decide) rfl ?_
    refine M_fld s9 (by decide) (by decide) rfl ?_
    refine M_fld s10 (by decide) (by decide) rfl ?_
    refine M_fld s11 (by decide) (by decide) rfl ?_
    refine M_fld s12 (by decide) (by decide) rfl ?_
    refine M_fld s13 (by decide) (by decide) rfl ?_
    refine M_fld s14 (by decide) (by decide) rfl ?_
    refine M_fld s15 (by decide) (by decide) rfl ?_
    refine M_fld s16 (by decide) (by decide) rfl ?_
    show zEv zTT (zco mM_init) _ _ _ (139, 7103, va_up zSP 122 (.inr (.inr (8, [some (some 123), some (some 124), some (some 125), none, some (some 126), none, none, some (some 127), some (some 128), none, some (some 129), some (some 130), some (some 131), some (some 132), some (some 133), some (some 134), some (some 135), some (some 136), none, some (some 137), none, none, none, some (some 138)]))), _) _
    rw [eS]
    exact M_tail _
  case h2 => exact M_zero (by simp [va_upe]) (by simp [va_upe])
  case h3 =>
    intro a ha
    rw [zMi_o (by omega) (by omega) (by omega)]
    have e : ∀ d, 122 ≤ d → (a = d) = False := fun d hd => eq_false (by omega)
    simp only [va_upe, Nat.add_assoc, Nat.reduceAdd, e 122 (by omega), e 123 (by omega), e 124 (by omega), e 125 (by omega), e 126 (by omega), e 127 (by omega), e 128 (by omega), e 129 (by omega), e 130 (by omega), e 131 (by omega), e 132 (by omega), e 133 (by omega), e 134 (by omega), e 135 (by omega), e 136 (by omega), e 137 (by omega), e 138 (by omega), if_false]
/-- what holds of every state, at the beginning -/
theorem zGA_0 : zGA zA0 := by
  have h : zGo zI0 := by
    refine ⟨⟨fun s hs => Or.inl rfl, fun m hm => (nomatch hm), ?_⟩, fun n hn => ⟨0, by omega, nI_0.symm, fun h => absurd rfl h⟩, ⟨3, by omega, by omega, rfl⟩, ⟨25, by omega, rfl⟩, fun n hn => ⟨0, by omega, nI_0.symm⟩, fun n hn _ => rfl, fun s hs _ => rfl⟩
    exact List.nodup_nil
  exact ⟨h, fun h => absurd h (by decide), fun i hi => absurd hi (by show ¬ i < 0; omega)⟩
end ZCTORS3
