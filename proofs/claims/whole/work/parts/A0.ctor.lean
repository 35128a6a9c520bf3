/-! ===== the constructors: the cells as they are made ===== -/
section ZCTORS
variable {N M : Nat} {S : Nat → zSh} {G : Nat → Nat → Int32} {p q : Nat}
theorem ctN : zN ((N, M, S, G) : zHp) = N := rfl
theorem ctM : zM ((N, M, S, G) : zHp) = M := rfl
theorem ctS : zS ((N, M, S, G) : zHp) = S := rfl
theorem ctG : zG ((N, M, S, G) : zHp) = G := rfl
theorem ctnw (s : zSh) (n : Nat) : znw ((N, M, S, G) : zHp) s n = (N + 1, M + n, va_up S N s, va_up G N (fun _ => 0)) := rfl
theorem ctwr (f : Nat → Int32) : zwr ((N, M, S, G) : zHp) p f = (N, M, S, va_up G p f) := rfl
theorem zup_up {α : Type} (f : Nat → α) (k : Nat) (v w : α) : va_up (va_up f k v) k w = va_up f k w := by
  funext j
  unfold va_up
  split <;> rfl
theorem zup_of {α : Type} {f : Nat → α} {k : Nat} {v : α} (h : f k = v) : va_up f k v = f := by rw [← h, zup_self]
theorem zup_sw {α : Type} {f : Nat → α} {a b : Nat} (h : ¬ a = b) (x y : α) : va_up (va_up f a x) b y = va_up (va_up f b y) a x := by
  funext j
  unfold va_up
  by_cases h1 : j = b
  · rw [if_pos h1, if_neg (by omega), if_pos h1]
  · rw [if_neg h1, if_neg h1]
theorem ct_aast {T : Nat → zCd × Nat} {M c : zCd} {ls st : List Value} {E : zHp} {o : zRt × zHp} {pc len : Nat} {i : Int32} {p v : Nat} : zEv T M (zo pc len .aastore :: c) ls (.ref v :: .int i :: .ref p :: st) E o = zOV (zqr E p) (fun r => (zi i r.1 = true ∧ zob E v 6 = true) ∧ zEv T M c ls st (zN E, zM E, va_up (zS E) p (.inr (.inl (r.1, va_up r.2 i.toNatClampNeg (some v)))), zG E) o) := by
  cases h : zqr E p with
  | none => exact zEv_no (by simp [zo, zst, h])
  | some r =>
    obtain ⟨n, f⟩ := r
    by_cases hi : zi i n = true ∧ zob E v 6 = true
    · rw [zEv_nx (by simp only [zo, zst, h, if_pos hi, znx]; rfl)]; simp [zOV, hi]
    · rw [zEv_no (by simp only [zo, zst, h, if_neg hi])]; simp only [zOV, hi, false_and]
theorem zpne {i j : Nat} (h : ¬ i = j) : (p + i = p + j) = False := eq_false (by omega)
theorem zpne0 {j : Nat} (h : ¬ j = 0) : (p + j = p) = False := eq_false (by omega)
theorem zpne1 {j : Nat} (h : ¬ j = 0) : (p = p + j) = False := eq_false (by omega)
theorem zplt {i j : Nat} (h : i < j) : (p + i < p + j) = True := eq_true (by omega)
theorem zplt0 {j : Nat} (h : 0 < j) : (p < p + j) = True := eq_true (by omega)
theorem c0_0 : (0 : Int32).toNatClampNeg = 0 := by decide
theorem c1_1 : (1 : Int32).toNatClampNeg = 1 := by decide
theorem zB_2 (k : Nat) : zB 2 k = false := rfl
theorem zB_3 (k : Nat) : zB 3 k = false := rfl
theorem zB_4 (k : Nat) : zB 4 k = false := rfl
theorem zB_5 (k : Nat) : zB 5 k = false := rfl
theorem zB_6 (k : Nat) : zB 6 k = false := rfl
theorem ctup (f : Nat → Int32) (k j : Nat) (x : Int32) : upd f k x j = if j = k then x else f j := rfl
theorem zar_wr {E : zHp} {a k : Nat} {f : Nat → Int32} : zar (zwr E a f) p k = zar E p k := rfl
theorem zln_wr {E : zHp} {a : Nat} {f : Nat → Int32} : zln (zwr E a f) p = zln E p := rfl
theorem N_fill {E : zHp} {a n : Nat} (ha : zar E a 0 = some n) (hl : zln E a = some n) (hn : n ≤ 4096) (v : Int32) : zcal zTT jJ_fill [.ref a, .int v] E = some (none, zwr E a (fun j => if j < n then v else zG E a j)) := by
  have key : ∀ k i, i + k = n → zEv zTT (zco mJ_fill) kJ_fill_5 [.ref a, .int v, .int (nI i), .int (nI n)] [] (zwr E a (fun j => if j < i then v else zG E a j)) (.inl none, zwr E a (fun j => if j < n then v else zG E a j)) := by
    intro k
    induction k with
    | zero =>
      intro i hi
      have hi : i = n := by omega
      subst hi
      rw [kJ_fill_5]
      simp only [kJ_fill_0, kJ_fill_20, zjJ_fill_5, zjJ_fill_20, ev_iload, ev_aload, ev_istore, ev_astore, ev_iconst, ev_null, ev_iinc, ev_iadd, ev_isub, ev_imul, ev_iand, ev_ior, ev_ixor, ev_ishl, ev_ishr, ev_iushr, ev_idiv, ev_irem, ev_icmp, ev_if, ev_ifnull, ev_ifnullN, ev_goto, ev_dupi, ev_dupr, ev_dup2, ev_pop, ev_getf, ev_puti, ev_putr, ev_iald, ev_cald, ev_aald, ev_iast, ev_cast, ev_alen, ev_tsw, ev_lsw, ev_max, ev_min, ev_obj, ev_cp, ev_throw, ev_iret, ev_aret, ev_aretN, ev_ret, ev_new, ev_newa, ev_anew, ev_is0, ev_is1, ev_is2, ev_is3, ev_is4, ev_iv1, ev_iv2, ev_iv3, ev_iv4, ev_iv5, ev_ip1, ev_ip2, zlg_0, zls_0, zlg_1, zls_1, zlg_2, zls_2, zlg_3, zls_3, zlg_4, zls_4, zlg_5, zls_5, zlg_6, zls_6, zlg_7, zls_7, zlg_8, zls_8, zlg_9, zls_9, zlg_10, zls_10, zlg_11, zls_11, ev_jif, zLI_i, zLR_r, zOV_s, List.length_cons, List.length_nil, zcd, decide_eq_true_eq, true_and, and_true, Option.toList_some, Option.toList_none, List.cons_append, List.nil_append, zrf, if_true, if_false, true_or, or_true, false_or, or_false, and_self, zwr_w, zG_hp, Nat.reduceAdd, Nat.reduceLT, Nat.reduceLeDiff, Nat.zero_le, reduceIte, not_true_eq_false, not_false_eq_true, Prod.mk.injEq, Sum.inl.injEq, Option.some.injEq, Value.int.injEq, Value.ref.injEq, zsw, ev_jif, zB01, Bool.false_eq_true, one_ne, zero_eqone, nI_1, zle_t (s := i) (n := i) (by omega) (by omega), zlt_f (s := i) (n := i) (by omega) (by omega)]
    | succ k ih =>
      intro i hi
      have h8 : i < n := by omega
      have h := ih (i + 1) (by omega)
      have e : zwr (zwr E a (fun j => if j < i then v else zG E a j)) a (upd (zG (zwr E a (fun j => if j < i then v else zG E a j)) a) i v) = zwr E a (fun j => if j < i + 1 then v else zG E a j) := by
        obtain ⟨N, M, S, G⟩ := E
        simp only [ctwr, ctG, zup_up, va_upe, if_true]
        congr 3
        refine congrArg (va_up G a) ?_
        funext j
        unfold upd
        show (if j = i then v else if j < i then v else G a j) = _
        by_cases hj : j = i
        · subst hj; simp
        · rw [if_neg hj]
          by_cases h2 : j < i
          · rw [if_pos h2, if_pos (by omega)]
          · rw [if_neg h2, if_neg (by omega)]
      rw [kJ_fill_5]
      simp only [kJ_fill_0, kJ_fill_20, zjJ_fill_5, zjJ_fill_20, ev_iload, ev_aload, ev_istore, ev_astore, ev_iconst, ev_null, ev_iinc, ev_iadd, ev_isub, ev_imul, ev_iand, ev_ior, ev_ixor, ev_ishl, ev_ishr, ev_iushr, ev_idiv, ev_irem, ev_icmp, ev_if, ev_ifnull, ev_ifnullN, ev_goto, ev_dupi, ev_dupr, ev_dup2, ev_pop, ev_getf, ev_puti, ev_putr, ev_iald, ev_cald, ev_aald, ev_iast, ev_cast, ev_alen, ev_tsw, ev_lsw, ev_max, ev_min, ev_obj, ev_cp, ev_throw, ev_iret, ev_aret, ev_aretN, ev_ret, ev_new, ev_newa, ev_anew, ev_is0, ev_is1, ev_is2, ev_is3, ev_is4, ev_iv1, ev_iv2, ev_iv3, ev_iv4, ev_iv5, ev_ip1, ev_ip2, zlg_0, zls_0, zlg_1, zls_1, zlg_2, zls_2, zlg_3, zls_3, zlg_4, zls_4, zlg_5, zls_5, zlg_6, zls_6, zlg_7, zls_7, zlg_8, zls_8, zlg_9, zls_9, zlg_10, zls_10, zlg_11, zls_11, ev_jif, zLI_i, zLR_r, zOV_s, List.length_cons, List.length_nil, zcd, decide_eq_true_eq, true_and, and_true, Option.toList_some, Option.toList_none, List.cons_append, List.nil_append, zrf, if_true, if_false, true_or, or_true, false_or, or_false, and_self, zwr_w, zG_hp, Nat.reduceAdd, Nat.reduceLT, Nat.reduceLeDiff, Nat.zero_le, reduceIte, not_true_eq_false, not_false_eq_true, Prod.mk.injEq, Sum.inl.injEq, Option.some.injEq, Value.int.injEq, Value.ref.injEq, zsw, ev_jif, zB01, Bool.false_eq_true, one_ne, zero_eqone, nI_1, zle_f (s := i) (n := n) (by omega) (by omega), zlt_t (s := i) (n := n) (by omega) (by omega), zar_wr, ha, zi_n (s := i) (n := n) (by omega) (by omega), zcl_n (s := i) (by omega), e]
      exact h
  have e0 : zwr E a (fun j => if j < 0 then v else zG E a j) = E := by
    obtain ⟨N, M, S, G⟩ := E
    simp only [ctwr, ctG]
    have : (fun j => if j < 0 then v else G a j) = G a := by funext j; simp
    rw [this, zup_self]
  have h := key n 0 (by omega)
  rw [e0] at h
  refine zgo zMt_J_fill (show zEv zTT (zco mJ_fill) kJ_fill_0 [.ref a, .int v, zU, zU] [] _ _ from ?_)
  simp only [kJ_fill_0, kJ_fill_20, zjJ_fill_5, zjJ_fill_20, ev_iload, ev_aload, ev_istore, ev_astore, ev_iconst, ev_null, ev_iinc, ev_iadd, ev_isub, ev_imul, ev_iand, ev_ior, ev_ixor, ev_ishl, ev_ishr, ev_iushr, ev_idiv, ev_irem, ev_icmp, ev_if, ev_ifnull, ev_ifnullN, ev_goto, ev_dupi, ev_dupr, ev_dup2, ev_pop, ev_getf, ev_puti, ev_putr, ev_iald, ev_cald, ev_aald, ev_iast, ev_cast, ev_alen, ev_tsw, ev_lsw, ev_max, ev_min, ev_obj, ev_cp, ev_throw, ev_iret, ev_aret, ev_aretN, ev_ret, ev_new, ev_newa, ev_anew, ev_is0, ev_is1, ev_is2, ev_is3, ev_is4, ev_iv1, ev_iv2, ev_iv3, ev_iv4, ev_iv5, ev_ip1, ev_ip2, zlg_0, zls_0, zlg_1, zls_1, zlg_2, zls_2, zlg_3, zls_3, zlg_4, zls_4, zlg_5, zls_5, zlg_6, zls_6, zlg_7, zls_7, zlg_8, zls_8, zlg_9, zls_9, zlg_10, zls_10, zlg_11, zls_11, ev_jif, zLI_i, zLR_r, zOV_s, List.length_cons, List.length_nil, zcd, decide_eq_true_eq, true_and, and_true, Option.toList_some, Option.toList_none, List.cons_append, List.nil_append, zrf, if_true, if_false, true_or, or_true, false_or, or_false, and_self, zwr_w, zG_hp, Nat.reduceAdd, Nat.reduceLT, Nat.reduceLeDiff, Nat.zero_le, reduceIte, not_true_eq_false, not_false_eq_true, Prod.mk.injEq, Sum.inl.injEq, Option.some.injEq, Value.int.injEq, Value.ref.injEq, zsw, ev_jif, zB01, Bool.false_eq_true, one_ne, zero_eqone, nI_1, hl]
  exact h
theorem N_fill32 {E : zHp} {a : Nat} {v : Int32} (ha : zar E a 0 = some 32) (hl : zln E a = some 32) : zcal zTT jJ_fill [.ref a, .int v] E = some (none, zwr E a (fun j => if j < 32 then v else zG E a j)) := N_fill ha hl (by decide) v
theorem N_R {n : Nat} (h0 : S q = .inr (.inr (4, [none, some none, none]))) (h1 : S (q + 1) = .inl (0, n * 4)) (hn : n ≤ 1000) (e : (nI n < 1) = False) : zcal zTT jR_init [.ref q, .int (nI n)] (q + 1, M, S, G) = some (none, (q + 2, M + n * 4, va_up S q (.inr (.inr (4, [none, some (some (q + 1)), none]))), va_up (va_up G q (upd (upd (G q) 2 0) 0 (nI n))) (q + 1) (fun _ => 0))) := by
  have l2 : n * 4 ≤ 4096 := by omega
  refine zgo zMt_R_init (show zEv zTT (zco mR_init) kR_init_0 [.ref q, .int (nI n)] [] _ _ from ?_)
  simp only [kR_init_0, ev_iload, ev_aload, ev_istore, ev_astore, ev_iconst, ev_null, ev_iinc, ev_iadd, ev_isub, ev_imul, ev_iand, ev_ior, ev_ixor, ev_ishl, ev_ishr, ev_iushr, ev_idiv, ev_irem, ev_icmp, ev_if, ev_ifnull, ev_ifnullN, ev_goto, ev_dupi, ev_dupr, ev_dup2, ev_pop, ev_getf, ev_puti, ev_putr, ev_iald, ev_cald, ev_aald, ev_iast, ev_cast, ev_alen, ev_tsw, ev_lsw, ev_max, ev_min, ev_obj, ev_cp, ev_throw, ev_iret, ev_aret, ev_aretN, ev_ret, ev_new, ev_newa, ev_anew, ev_is0, ev_is1, ev_is2, ev_is3, ev_is4, ev_iv1, ev_iv2, ev_iv3, ev_iv4, ev_iv5, ev_ip1, ev_ip2, zlg_0, zls_0, zlg_1, zls_1, zlg_2, zls_2, zlg_3, zls_3, zlg_4, zls_4, zlg_5, zls_5, zlg_6, zls_6, zlg_7, zls_7, zlg_8, zls_8, zlg_9, zls_9, zlg_10, zls_10, zlg_11, zls_11, ev_jif, zLI_i, zLR_r, zOV_s, List.length_cons, List.length_nil, zcd, decide_eq_true_eq, true_and, and_true, Option.toList_some, Option.toList_none, List.cons_append, List.nil_append, zrf, if_true, if_false, true_or, or_true, false_or, or_false, and_self, zwr_w, zG_hp, Nat.reduceAdd, Nat.reduceLT, Nat.reduceLeDiff, Nat.zero_le, reduceIte, not_true_eq_false, not_false_eq_true, Prod.mk.injEq, Sum.inl.injEq, Option.some.injEq, Value.int.injEq, Value.ref.injEq, zsw, ev_jif, zB01, Bool.false_eq_true, one_ne, zero_eqone, nI_1, ctN, ctM, ctS, ctG, ctnw, ctwr, zpf, zgf, zar, zln, zqr, zob, va_upe, zup_up, zup_of, zpne, zpne0, zpne1, zplt, zplt0, c0_0, c1_1, ctup, zB_2, zB_3, zB_4, zB_5, zB_6, List.getElem?_cons_zero, List.getElem?_cons_succ, List.set_cons_zero, List.set_cons_succ, List.map_cons, List.map_nil, Nat.add_assoc, Nat.reduceAdd, Nat.reduceMul, Nat.reduceEqDiff, Nat.reduceLT, Nat.reduceLeDiff, ne_eq, false_and, and_false, h0, h1, e, zmul, zlt_0 (s := n * 4) (by omega), zcl_n (s := n * 4) (by omega), l2]
/-- the state at the beginning -/
def zI0 : zSt := (fun _ => 0, fun _ => 0, fun _ => -1, fun _ => -1, fun j => if j = 0 then nI 25 else if j = 1 then nI 3 else nI 5, fun _ => 0, [], [])
set_option maxHeartbeats 4000000 in
theorem N_T (hp : zisT p = true) (h0 : S p = .inr (.inr (6, [some none, some none, some none, some none, some none, some none, some none, some none]))) (hr : ∀ d, 1 ≤ d → d ≤ 10 → S (p + d) = zSP (p + d)) : ∃ G', zcal zTT jT_init [.ref p] (p + 1, M, S, G) = some (none, (p + 11, M + 248, va_up S p (.inr (.inr (6, [some (some (p + 1)), some (some (p + 2)), some (some (p + 3)), some (some (p + 4)), some (some (p + 5)), some (some (p + 6)), some (some (p + 7)), some (some (p + 9))]))), G')) ∧ zSO G' p zI0 ∧ ∀ a, a < p ∨ p + 11 ≤ a → G' a = G a := by
  have s1 := (hr 1 (by omega) (by omega)).trans (zSP_T1 hp)
  have s2 := (hr 2 (by omega) (by omega)).trans (zSP_T2 hp)
  have s3 := (hr 3 (by omega) (by omega)).trans (zSP_T3 hp)
  have s4 := (hr 4 (by omega) (by omega)).trans (zSP_T4 hp)
  have s5 := (hr 5 (by omega) (by omega)).trans (zSP_T5 hp)
  have s6 := (hr 6 (by omega) (by omega)).trans (zSP_T6 hp)
  have s7 := (hr 7 (by omega) (by omega)).trans (zSP_T7 hp)
  have s8 := (hr 8 (by omega) (by omega)).trans (zSP_T8 hp)
  have s9 := (hr 9 (by omega) (by omega)).trans (zSP_T9 hp)
  have s10 := (hr 10 (by omega) (by omega)).trans (zSP_T10 hp)
  have r1 : ∀ {M : Nat} {S : Nat → zSh} {G : Nat → Nat → Int32} (h0 : S (p + 7) = .inr (.inr (4, [none, some none, none]))) (h1 : S (p + 8) = .inl (0, 32)), zcal zTT jR_init [.ref (p + 7), .int (nI 8)] (p + 8, M, S, G) = some (none, (p + 9, M + 32, va_up S (p + 7) (.inr (.inr (4, [none, some (some (p + 8)), none]))), va_up (va_up G (p + 7) (upd (upd (G (p + 7)) 2 0) 0 (nI 8))) (p + 8) (fun _ => 0))) := fun h0 h1 => N_R (q := p + 7) (n := 8) h0 h1 (by omega) (eq_false (by decide))
  have r2 : ∀ {M : Nat} {S : Nat → zSh} {G : Nat → Nat → Int32} (h0 : S (p + 9) = .inr (.inr (4, [none, some none, none]))) (h1 : S (p + 10) = .inl (0, 120)), zcal zTT jR_init [.ref (p + 9), .int (nI 30)] (p + 10, M, S, G) = some (none, (p + 11, M + 120, va_up S (p + 9) (.inr (.inr (4, [none, some (some (p + 10)), none]))), va_up (va_up G (p + 9) (upd (upd (G (p + 9)) 2 0) 0 (nI 30))) (p + 10) (fun _ => 0))) := fun h0 h1 => N_R (q := p + 9) (n := 30) h0 h1 (by omega) (eq_false (by decide))
  have z0 : zi 0 3 = true := by decide
  have z1 : zi 1 3 = true := by decide
  refine ⟨?G, ?h1, ?h2, ?h3⟩
  case h1 =>
    refine zgo zMt_T_init (show zEv zTT (zco mT_init) kT_init_0 [.ref p] [] _ _ from ?_)
    simp only [kT_init_0, ev_iload, ev_aload, ev_istore, ev_astore, ev_iconst, ev_null, ev_iinc, ev_iadd, ev_isub, ev_imul, ev_iand, ev_ior, ev_ixor, ev_ishl, ev_ishr, ev_iushr, ev_idiv, ev_irem, ev_icmp, ev_if, ev_ifnull, ev_ifnullN, ev_goto, ev_dupi, ev_dupr, ev_dup2, ev_pop, ev_getf, ev_puti, ev_putr, ev_iald, ev_cald, ev_aald, ev_iast, ev_cast, ev_alen, ev_tsw, ev_lsw, ev_max, ev_min, ev_obj, ev_cp, ev_throw, ev_iret, ev_aret, ev_aretN, ev_ret, ev_new, ev_newa, ev_anew, ev_is0, ev_is1, ev_is2, ev_is3, ev_is4, ev_iv1, ev_iv2, ev_iv3, ev_iv4, ev_iv5, ev_ip1, ev_ip2, zlg_0, zls_0, zlg_1, zls_1, zlg_2, zls_2, zlg_3, zls_3, zlg_4, zls_4, zlg_5, zls_5, zlg_6, zls_6, zlg_7, zls_7, zlg_8, zls_8, zlg_9, zls_9, zlg_10, zls_10, zlg_11, zls_11, ev_jif, zLI_i, zLR_r, zOV_s, List.length_cons, List.length_nil, zcd, decide_eq_true_eq, true_and, and_true, Option.toList_some, Option.toList_none, List.cons_append, List.nil_append, zrf, if_true, if_false, true_or, or_true, false_or, or_false, and_self, zwr_w, zG_hp, Nat.reduceAdd, Nat.reduceLT, Nat.reduceLeDiff, Nat.zero_le, reduceIte, not_true_eq_false, not_false_eq_true, Prod.mk.injEq, Sum.inl.injEq, Option.some.injEq, Value.int.injEq, Value.ref.injEq, zsw, ev_jif, zB01, Bool.false_eq_true, one_ne, zero_eqone, nI_1, ctN, ctM, ctS, ctG, ctnw, ctwr, zpf, zgf, zar, zln, zqr, zob, va_upe, zup_up, zup_of, zpne, zpne0, zpne1, zplt, zplt0, c0_0, c1_1, ctup, zB_2, zB_3, zB_4, zB_5, zB_6, List.getElem?_cons_zero, List.getElem?_cons_succ, List.set_cons_zero, List.set_cons_succ, List.map_cons, List.map_nil, Nat.add_assoc, Nat.reduceAdd, Nat.reduceMul, Nat.reduceEqDiff, Nat.reduceLT, Nat.reduceLeDiff, ne_eq, false_and, and_false, h0, s1, s2, s3, s4, s5, s6, s7, s8, s9, s10, r1, r2, N_fill32, z0, z1, zi_n (s := 2) (n := 3) (by omega) (by omega), zcl_n (s := 2) (by omega), zlt_0 (s := 8) (by omega), zcl_n (s := 8) (by omega), zlt_0 (s := 32) (by omega), zcl_n (s := 32) (by omega), zlt_0 (s := 3) (by omega), zcl_n (s := 3) (by omega), zlt_0 (s := 7) (by omega), zcl_n (s := 7) (by omega)]
    exact rfl
  case h2 =>
    refine ⟨fun j hj => ?_, fun j hj => ?_, fun j hj => ?_, fun j hj => ?_, fun j hj => ?_, fun j hj => ?_, ⟨⟨?_, ?_, ?_⟩, fun i k hi => absurd hi (by simp [zI0, sM])⟩, ⟨?_, ?_, ?_⟩, fun i k hi => absurd hi (by simp [zI0, sE])⟩
    · simp [va_upe, zpne, zpne0, zpne1, upd, zI0, sN, sW, sO, sL, sC, sT, sM, sE, nI_0, zRl_T7 hp, zRl_T9 hp]
    · simp [va_upe, zpne, zpne0, zpne1, upd, zI0, sN, sW, sO, sL, sC, sT, sM, sE, nI_0, zRl_T7 hp, zRl_T9 hp]
    · simp [va_upe, zpne, zpne0, zpne1, upd, zI0, sN, sW, sO, sL, sC, sT, sM, sE, nI_0, zRl_T7 hp, zRl_T9 hp]; exact hj
    · simp [va_upe, zpne, zpne0, zpne1, upd, zI0, sN, sW, sO, sL, sC, sT, sM, sE, nI_0, zRl_T7 hp, zRl_T9 hp]; exact hj
    · rcases (show j = 0 ∨ j = 1 ∨ j = 2 by omega) with rfl | rfl | rfl <;> simp [va_upe, zpne, zpne0, zpne1, upd, zI0, sN, sW, sO, sL, sC, sT, sM, sE, nI_0, zRl_T7 hp, zRl_T9 hp]
    · simp [va_upe, zpne, zpne0, zpne1, upd, zI0, sN, sW, sO, sL, sC, sT, sM, sE, nI_0, zRl_T7 hp, zRl_T9 hp]
    · simp [va_upe, zpne, zpne0, zpne1, upd, zI0, sN, sW, sO, sL, sC, sT, sM, sE, nI_0, zRl_T7 hp, zRl_T9 hp]
    · simp [va_upe, zpne, zpne0, zpne1, upd, zI0, sN, sW, sO, sL, sC, sT, sM, sE, nI_0, zRl_T7 hp, zRl_T9 hp]
    · simp [va_upe, zpne, zpne0, zpne1, upd, zI0, sN, sW, sO, sL, sC, sT, sM, sE, nI_0, zRl_T7 hp, zRl_T9 hp]
    · simp [va_upe, zpne, zpne0, zpne1, upd, zI0, sN, sW, sO, sL, sC, sT, sM, sE, nI_0, zRl_T7 hp, zRl_T9 hp]
    · simp [va_upe, zpne, zpne0, zpne1, upd, zI0, sN, sW, sO, sL, sC, sT, sM, sE, nI_0, zRl_T7 hp, zRl_T9 hp]
    · simp [va_upe, zpne, zpne0, zpne1, upd, zI0, sN, sW, sO, sL, sC, sT, sM, sE, nI_0, zRl_T7 hp, zRl_T9 hp]
  case h3 =>
    intro a ha
    have e : ∀ d, d ≤ 10 → (a = p + d) = False := fun d hd => eq_false (by omega)
    have e0 : (a = p) = False := eq_false (by omega)
    simp only [va_upe, e 1 (by omega), e 2 (by omega), e 3 (by omega), e 4 (by omega), e 5 (by omega), e 6 (by omega), e 7 (by omega), e 8 (by omega), e 9 (by omega), e 10 (by omega), if_false]
end ZCTORS
