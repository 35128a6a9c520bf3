section ZORDER
variable {N M : Nat} {S : Nat → zSh} {G : Nat → Nat → Int32}
/-- the place for a code, from the right -/
def zshi (f : Nat → Int32) (c : Int32) : Nat → Nat → Int32
  | 0 => upd f 0 c
  | j + 1 => if f j ≤ c then upd f (j + 1) c else zshi (upd f (j + 1) (f j)) c j
def zcP (i : Nat) : Int32 := zCod (nI i / nI 20) (nI i - nI i / nI 20 * nI 20)
def zou : Nat → Nat → Int32
  | 0 => fun _ => 0
  | i + 1 => zshi (zou i) (zcP i) i
theorem zou_s (i : Nat) : zou (i + 1) = zshi (zou i) (zcP i) i := by rw [zou]
theorem zshi_0 (f : Nat → Int32) (c : Int32) : zshi f c 0 = upd f 0 c := by rw [zshi]
theorem zshi_1 {f : Nat → Int32} {c : Int32} {j : Nat} (h : f j ≤ c) : zshi f c (j + 1) = upd f (j + 1) c := by rw [zshi, if_pos h]
theorem zshi_2 {f : Nat → Int32} {c : Int32} {j : Nat} (h : ¬ f j ≤ c) : zshi f c (j + 1) = zshi (upd f (j + 1) (f j)) c j := by rw [zshi, if_neg h]
theorem N_Ai (h : S 107 = .inl (0, 160)) {i : Nat} (hi : i < 160) {c : Int32} {F : Nat → Int32} {fin : zRt × zHp} (h0 : ∀ v3, zEv zTT (zco mC_allPointsInOrder) kC_allPointsInOrder_8 [.ref 107, .int (nI (i + 1)), .int c, v3] [] (108, M, S, va_up G 107 F) fin) : ∀ j f, j ≤ i → F = zshi f c j → zEv zTT (zco mC_allPointsInOrder) kC_allPointsInOrder_29 [.ref 107, .int (nI i), .int c, .int (nI j)] [] (108, M, S, va_up G 107 f) fin := by
  intro j
  induction j with
  | zero =>
    intro f hj hf
    have e0 : (nI 0 ≤ 0) = True := eq_true (by decide)
    have e1 : zi (nI 0) 160 = true := by decide
    have e2 : (nI 0).toNatClampNeg = 0 := by decide
    have h1 := h0 (.int (nI 0))
    rw [hf, zshi_0] at h1
    rw [kC_allPointsInOrder_29]
    simp only [kC_allPointsInOrder_0, kC_allPointsInOrder_56, kC_allPointsInOrder_66, zjC_allPointsInOrder_8, zjC_allPointsInOrder_29, zjC_allPointsInOrder_56, zjC_allPointsInOrder_66, ev_iload, ev_aload, ev_istore, ev_astore, ev_iconst, ev_null, ev_iinc, ev_iadd, ev_isub, ev_imul, ev_iand, ev_ior, ev_ixor, ev_ishl, ev_ishr, ev_iushr, ev_idiv, ev_irem, ev_icmp, ev_if, ev_ifnull, ev_ifnullN, ev_goto, ev_dupi, ev_dupr, ev_dup2, ev_pop, ev_getf, ev_puti, ev_putr, ev_iald, ev_cald, ev_aald, ev_iast, ev_cast, ev_alen, ev_tsw, ev_lsw, ev_max, ev_min, ev_obj, ev_cp, ev_throw, ev_iret, ev_aret, ev_aretN, ev_ret, ev_new, ev_newa, ev_anew, ev_is0, ev_is1, ev_is2, ev_is3, ev_is4, ev_iv1, ev_iv2, ev_iv3, ev_iv4, ev_iv5, ev_ip1, ev_ip2, zlg_0, zls_0, zlg_1, zls_1, zlg_2, zls_2, zlg_3, zls_3, zlg_4, zls_4, zlg_5, zls_5, zlg_6, zls_6, zlg_7, zls_7, zlg_8, zls_8, zlg_9, zls_9, zlg_10, zls_10, zlg_11, zls_11, ev_jif, zLI_i, zLR_r, zOV_s, List.length_cons, List.length_nil, zcd, decide_eq_true_eq, true_and, and_true, Option.toList_some, Option.toList_none, List.cons_append, List.nil_append, zrf, if_true, if_false, true_or, or_true, false_or, or_false, and_self, zwr_w, zG_hp, Nat.reduceAdd, Nat.reduceLT, Nat.reduceLeDiff, Nat.zero_le, reduceIte, not_true_eq_false, not_false_eq_true, Prod.mk.injEq, Sum.inl.injEq, Option.some.injEq, Value.int.injEq, Value.ref.injEq, zsw, ev_jif, zB01, Bool.false_eq_true, one_ne, zero_eqone, nI_1, ctN, ctM, ctS, ctG, ctwr, zar, h, Nat.reduceLT, if_true, e0, e1, e2, zup_up, va_upe]
    exact h1
  | succ j ihj =>
    intro f hj hf
    have e0 : (nI (j + 1) ≤ 0) = False := zle_f (s := 0) (n := j + 1) (by omega) (by omega)
    have e1 : nI (j + 1) - 1 = nI j := zsub1 (by omega)
    have e2 : nI (j + 1) + (-1) = nI j := by
      rw [← Int32.sub_eq_add_neg]
      exact zsub1 (by omega)
    by_cases hc : f j ≤ c
    · have h1 := h0 (.int (nI (j + 1)))
      rw [hf, zshi_1 hc] at h1
      rw [kC_allPointsInOrder_29]
      simp only [kC_allPointsInOrder_0, kC_allPointsInOrder_56, kC_allPointsInOrder_66, zjC_allPointsInOrder_8, zjC_allPointsInOrder_29, zjC_allPointsInOrder_56, zjC_allPointsInOrder_66, ev_iload, ev_aload, ev_istore, ev_astore, ev_iconst, ev_null, ev_iinc, ev_iadd, ev_isub, ev_imul, ev_iand, ev_ior, ev_ixor, ev_ishl, ev_ishr, ev_iushr, ev_idiv, ev_irem, ev_icmp, ev_if, ev_ifnull, ev_ifnullN, ev_goto, ev_dupi, ev_dupr, ev_dup2, ev_pop, ev_getf, ev_puti, ev_putr, ev_iald, ev_cald, ev_aald, ev_iast, ev_cast, ev_alen, ev_tsw, ev_lsw, ev_max, ev_min, ev_obj, ev_cp, ev_throw, ev_iret, ev_aret, ev_aretN, ev_ret, ev_new, ev_newa, ev_anew, ev_is0, ev_is1, ev_is2, ev_is3, ev_is4, ev_iv1, ev_iv2, ev_iv3, ev_iv4, ev_iv5, ev_ip1, ev_ip2, zlg_0, zls_0, zlg_1, zls_1, zlg_2, zls_2, zlg_3, zls_3, zlg_4, zls_4, zlg_5, zls_5, zlg_6, zls_6, zlg_7, zls_7, zlg_8, zls_8, zlg_9, zls_9, zlg_10, zls_10, zlg_11, zls_11, ev_jif, zLI_i, zLR_r, zOV_s, List.length_cons, List.length_nil, zcd, decide_eq_true_eq, true_and, and_true, Option.toList_some, Option.toList_none, List.cons_append, List.nil_append, zrf, if_true, if_false, true_or, or_true, false_or, or_false, and_self, zwr_w, zG_hp, Nat.reduceAdd, Nat.reduceLT, Nat.reduceLeDiff, Nat.zero_le, reduceIte, not_true_eq_false, not_false_eq_true, Prod.mk.injEq, Sum.inl.injEq, Option.some.injEq, Value.int.injEq, Value.ref.injEq, zsw, ev_jif, zB01, Bool.false_eq_true, one_ne, zero_eqone, nI_1, ctN, ctM, ctS, ctG, ctwr, zar, h, Nat.reduceLT, if_true, e0, e1, zi_n (s := j) (n := 160) (by omega) (by omega), zcl_n (s := j) (by omega), zi_n (s := j + 1) (n := 160) (by omega) (by omega), zcl_n (s := j + 1) (by omega), zup_up, va_upe, hc]
      exact h1
    · rw [zshi_2 hc] at hf
      have h1 := ihj (upd f (j + 1) (f j)) (by omega) hf
      rw [kC_allPointsInOrder_29]
      simp only [kC_allPointsInOrder_0, kC_allPointsInOrder_56, kC_allPointsInOrder_66, zjC_allPointsInOrder_8, zjC_allPointsInOrder_29, zjC_allPointsInOrder_56, zjC_allPointsInOrder_66, ev_iload, ev_aload, ev_istore, ev_astore, ev_iconst, ev_null, ev_iinc, ev_iadd, ev_isub, ev_imul, ev_iand, ev_ior, ev_ixor, ev_ishl, ev_ishr, ev_iushr, ev_idiv, ev_irem, ev_icmp, ev_if, ev_ifnull, ev_ifnullN, ev_goto, ev_dupi, ev_dupr, ev_dup2, ev_pop, ev_getf, ev_puti, ev_putr, ev_iald, ev_cald, ev_aald, ev_iast, ev_cast, ev_alen, ev_tsw, ev_lsw, ev_max, ev_min, ev_obj, ev_cp, ev_throw, ev_iret, ev_aret, ev_aretN, ev_ret, ev_new, ev_newa, ev_anew, ev_is0, ev_is1, ev_is2, ev_is3, ev_is4, ev_iv1, ev_iv2, ev_iv3, ev_iv4, ev_iv5, ev_ip1, ev_ip2, zlg_0, zls_0, zlg_1, zls_1, zlg_2, zls_2, zlg_3, zls_3, zlg_4, zls_4, zlg_5, zls_5, zlg_6, zls_6, zlg_7, zls_7, zlg_8, zls_8, zlg_9, zls_9, zlg_10, zls_10, zlg_11, zls_11, ev_jif, zLI_i, zLR_r, zOV_s, List.length_cons, List.length_nil, zcd, decide_eq_true_eq, true_and, and_true, Option.toList_some, Option.toList_none, List.cons_append, List.nil_append, zrf, if_true, if_false, true_or, or_true, false_or, or_false, and_self, zwr_w, zG_hp, Nat.reduceAdd, Nat.reduceLT, Nat.reduceLeDiff, Nat.zero_le, reduceIte, not_true_eq_false, not_false_eq_true, Prod.mk.injEq, Sum.inl.injEq, Option.some.injEq, Value.int.injEq, Value.ref.injEq, zsw, ev_jif, zB01, Bool.false_eq_true, one_ne, zero_eqone, nI_1, ctN, ctM, ctS, ctG, ctwr, zar, h, Nat.reduceLT, if_true, e0, e1, e2, zi_n (s := j) (n := 160) (by omega) (by omega), zcl_n (s := j) (by omega), zi_n (s := j + 1) (n := 160) (by omega) (by omega), zcl_n (s := j + 1) (by omega), zup_up, va_upe, hc]
      exact h1
theorem N_Ao (h : S 107 = .inl (0, 160)) {n9 : Nat} (hn9 : n9 = 160) {F : Nat → Int32} (hF : zou n9 = F) : ∀ n i, i + n = n9 → ∀ f, zou i = f → ∀ v2 v3, zEv zTT (zco mC_allPointsInOrder) kC_allPointsInOrder_8 [.ref 107, .int (nI i), v2, v3] [] (108, M, S, va_up G 107 f) (.inl (some (.ref 107)), (108, M, S, va_up G 107 F)) := by
  intro n
  induction n with
  | zero =>
    intro i hi f hf v2 v3
    have hi : i = n9 := by omega
    subst hi
    rw [hF] at hf
    subst hf
    rw [kC_allPointsInOrder_8]
    simp only [kC_allPointsInOrder_0, kC_allPointsInOrder_56, kC_allPointsInOrder_66, zjC_allPointsInOrder_8, zjC_allPointsInOrder_29, zjC_allPointsInOrder_56, zjC_allPointsInOrder_66, ev_iload, ev_aload, ev_istore, ev_astore, ev_iconst, ev_null, ev_iinc, ev_iadd, ev_isub, ev_imul, ev_iand, ev_ior, ev_ixor, ev_ishl, ev_ishr, ev_iushr, ev_idiv, ev_irem, ev_icmp, ev_if, ev_ifnull, ev_ifnullN, ev_goto, ev_dupi, ev_dupr, ev_dup2, ev_pop, ev_getf, ev_puti, ev_putr, ev_iald, ev_cald, ev_aald, ev_iast, ev_cast, ev_alen, ev_tsw, ev_lsw, ev_max, ev_min, ev_obj, ev_cp, ev_throw, ev_iret, ev_aret, ev_aretN, ev_ret, ev_new, ev_newa, ev_anew, ev_is0, ev_is1, ev_is2, ev_is3, ev_is4, ev_iv1, ev_iv2, ev_iv3, ev_iv4, ev_iv5, ev_ip1, ev_ip2, zlg_0, zls_0, zlg_1, zls_1, zlg_2, zls_2, zlg_3, zls_3, zlg_4, zls_4, zlg_5, zls_5, zlg_6, zls_6, zlg_7, zls_7, zlg_8, zls_8, zlg_9, zls_9, zlg_10, zls_10, zlg_11, zls_11, ev_jif, zLI_i, zLR_r, zOV_s, List.length_cons, List.length_nil, zcd, decide_eq_true_eq, true_and, and_true, Option.toList_some, Option.toList_none, List.cons_append, List.nil_append, zrf, if_true, if_false, true_or, or_true, false_or, or_false, and_self, zwr_w, zG_hp, Nat.reduceAdd, Nat.reduceLT, Nat.reduceLeDiff, Nat.zero_le, reduceIte, not_true_eq_false, not_false_eq_true, Prod.mk.injEq, Sum.inl.injEq, Option.some.injEq, Value.int.injEq, Value.ref.injEq, zsw, ev_jif, zB01, Bool.false_eq_true, one_ne, zero_eqone, nI_1, zle_t (s := i) (n := 160) (by omega) (by omega), zlt_f (s := i) (n := 160) (by omega) (by omega)]
  | succ n ih =>
    intro i hi f hf v2 v3
    obtain ⟨c, hc⟩ : ∃ c, c = zcP i := ⟨_, rfl⟩
    obtain ⟨F1, hF1⟩ : ∃ F1, zou (i + 1) = F1 := ⟨_, rfl⟩
    have hz := zou_s i
    rw [hF1, hf, ← hc] at hz
    have h1 := N_Ai h (i := i) (by omega) (c := c) (F := F1) (fun v3 => ih (i + 1) (by omega) F1 hF1 (.int c) v3) i f (Nat.le_refl _) hz
    have ec : ∀ E, zcal zTT jC_codeOfPoint [.int (nI i / nI 20), .int (nI i - nI i / nI 20 * nI 20)] E = some (some (.int c), E) := fun E => by
      rw [C_codeOfPoint, hc]
      unfold zcP
      exact Eq.refl _
    have n20 : (nI 20 = 0) = False := by decide
    rw [kC_allPointsInOrder_8]
    simp only [kC_allPointsInOrder_0, kC_allPointsInOrder_56, kC_allPointsInOrder_66, zjC_allPointsInOrder_8, zjC_allPointsInOrder_29, zjC_allPointsInOrder_56, zjC_allPointsInOrder_66, ev_iload, ev_aload, ev_istore, ev_astore, ev_iconst, ev_null, ev_iinc, ev_iadd, ev_isub, ev_imul, ev_iand, ev_ior, ev_ixor, ev_ishl, ev_ishr, ev_iushr, ev_idiv, ev_irem, ev_icmp, ev_if, ev_ifnull, ev_ifnullN, ev_goto, ev_dupi, ev_dupr, ev_dup2, ev_pop, ev_getf, ev_puti, ev_putr, ev_iald, ev_cald, ev_aald, ev_iast, ev_cast, ev_alen, ev_tsw, ev_lsw, ev_max, ev_min, ev_obj, ev_cp, ev_throw, ev_iret, ev_aret, ev_aretN, ev_ret, ev_new, ev_newa, ev_anew, ev_is0, ev_is1, ev_is2, ev_is3, ev_is4, ev_iv1, ev_iv2, ev_iv3, ev_iv4, ev_iv5, ev_ip1, ev_ip2, zlg_0, zls_0, zlg_1, zls_1, zlg_2, zls_2, zlg_3, zls_3, zlg_4, zls_4, zlg_5, zls_5, zlg_6, zls_6, zlg_7, zls_7, zlg_8, zls_8, zlg_9, zls_9, zlg_10, zls_10, zlg_11, zls_11, ev_jif, zLI_i, zLR_r, zOV_s, List.length_cons, List.length_nil, zcd, decide_eq_true_eq, true_and, and_true, Option.toList_some, Option.toList_none, List.cons_append, List.nil_append, zrf, if_true, if_false, true_or, or_true, false_or, or_false, and_self, zwr_w, zG_hp, Nat.reduceAdd, Nat.reduceLT, Nat.reduceLeDiff, Nat.zero_le, reduceIte, not_true_eq_false, not_false_eq_true, Prod.mk.injEq, Sum.inl.injEq, Option.some.injEq, Value.int.injEq, Value.ref.injEq, zsw, ev_jif, zB01, Bool.false_eq_true, one_ne, zero_eqone, nI_1, zle_f (s := i) (n := 160) (by omega) (by omega), zlt_t (s := i) (n := 160) (by omega) (by omega), n20, ec]
    exact h1
theorem N_A0 {n9 : Nat} (hn9 : n9 = 160) {F : Nat → Int32} (hF : zou n9 = F) (h : S 107 = .inl (0, 160)) : zcal zTT jC_allPointsInOrder [] (107, M, S, G) = some (some (.ref 107), (108, M + 160, S, va_up G 107 F)) := by
  have k0 := N_Ao (M := M + 160) (G := G) h hn9 hF n9 0 (by omega) (fun _ => 0) (by rw [zou]) zU zU
  have e0 : va_up S 107 (.inl (0, 160)) = S := zup_of h
  refine zgo zMt_C_allPointsInOrder (show zEv zTT (zco mC_allPointsInOrder) kC_allPointsInOrder_0 [zU, zU, zU, zU] [] _ _ from ?_)
  simp only [kC_allPointsInOrder_0, kC_allPointsInOrder_29, kC_allPointsInOrder_56, kC_allPointsInOrder_66, zjC_allPointsInOrder_8, zjC_allPointsInOrder_29, zjC_allPointsInOrder_56, zjC_allPointsInOrder_66, ev_iload, ev_aload, ev_istore, ev_astore, ev_iconst, ev_null, ev_iinc, ev_iadd, ev_isub, ev_imul, ev_iand, ev_ior, ev_ixor, ev_ishl, ev_ishr, ev_iushr, ev_idiv, ev_irem, ev_icmp, ev_if, ev_ifnull, ev_ifnullN, ev_goto, ev_dupi, ev_dupr, ev_dup2, ev_pop, ev_getf, ev_puti, ev_putr, ev_iald, ev_cald, ev_aald, ev_iast, ev_cast, ev_alen, ev_tsw, ev_lsw, ev_max, ev_min, ev_obj, ev_cp, ev_throw, ev_iret, ev_aret, ev_aretN, ev_ret, ev_new, ev_newa, ev_anew, ev_is0, ev_is1, ev_is2, ev_is3, ev_is4, ev_iv1, ev_iv2, ev_iv3, ev_iv4, ev_iv5, ev_ip1, ev_ip2, zlg_0, zls_0, zlg_1, zls_1, zlg_2, zls_2, zlg_3, zls_3, zlg_4, zls_4, zlg_5, zls_5, zlg_6, zls_6, zlg_7, zls_7, zlg_8, zls_8, zlg_9, zls_9, zlg_10, zls_10, zlg_11, zls_11, ev_jif, zLI_i, zLR_r, zOV_s, List.length_cons, List.length_nil, zcd, decide_eq_true_eq, true_and, and_true, Option.toList_some, Option.toList_none, List.cons_append, List.nil_append, zrf, if_true, if_false, true_or, or_true, false_or, or_false, and_self, zwr_w, zG_hp, Nat.reduceAdd, Nat.reduceLT, Nat.reduceLeDiff, Nat.zero_le, reduceIte, not_true_eq_false, not_false_eq_true, Prod.mk.injEq, Sum.inl.injEq, Option.some.injEq, Value.int.injEq, Value.ref.injEq, zsw, ev_jif, zB01, Bool.false_eq_true, one_ne, zero_eqone, nI_1, ctN, ctM, ctS, ctG, ctnw, zlt_0 (s := 160) (by omega), zcl_n (s := 160) (by omega), Nat.reduceLeDiff, e0]
  exact k0
def zins : List Nat → Nat → List Nat
  | [], c => [c]
  | a :: r, c => if a ≤ c then c :: a :: r else a :: zins r c
def zcN (i : Nat) : Nat := (zcP i).toNatClampNeg
def zinL : Nat → List Nat
  | 0 => []
  | i + 1 => zins (zinL i) (zcN i)
def zRep (f : Nat → Int32) : List Nat → Prop
  | [] => True
  | a :: r => f r.length = nI a ∧ zRep f r
theorem zRep_cg {f g : Nat → Int32} : ∀ {L : List Nat}, (∀ k, k < L.length → g k = f k) → zRep f L → zRep g L
  | [], _, _ => trivial
  | a :: r, h, hr => ⟨(h r.length (Nat.lt_succ_self _)).trans hr.1, zRep_cg (fun k hk => h k (Nat.lt_succ_of_lt hk)) hr.2⟩
theorem zshi_hi : ∀ (j : Nat) (f : Nat → Int32) (c : Int32) (k : Nat), j < k → zshi f c j k = f k
  | 0, f, c, k, h => by rw [zshi]; unfold upd; rw [if_neg (by omega)]
  | j + 1, f, c, k, h => by
    rw [zshi]
    split
    · unfold upd; rw [if_neg (by omega)]
    · rw [zshi_hi j _ c k (by omega)]; unfold upd; rw [if_neg (by omega)]
theorem zins_len : ∀ (L : List Nat) (c : Nat), (zins L c).length = L.length + 1
  | [], _ => rfl
  | a :: r, c => by
    rw [zins]
    split
    · rfl
    · rw [List.length_cons, zins_len r c]; rfl
theorem zins_mem : ∀ (L : List Nat) (c x : Nat), x ∈ zins L c → x = c ∨ x ∈ L
  | [], c, x, h => Or.inl (List.mem_singleton.mp h)
  | a :: r, c, x, h => by
    rw [zins] at h
    split at h
    · rcases List.mem_cons.mp h with h | h
      · exact Or.inl h
      · exact Or.inr h
    · rcases List.mem_cons.mp h with h | h
      · exact Or.inr (List.mem_cons.mpr (Or.inl h))
      · rcases zins_mem r c x h with h | h
        · exact Or.inl h
        · exact Or.inr (List.mem_cons.mpr (Or.inr h))
theorem zRep_ins : ∀ (L : List Nat) (f : Nat → Int32) (c : Nat), zRep f L → (∀ a ∈ L, a < 2 ^ 31) → c < 2 ^ 31 → zRep (zshi f (nI c) L.length) (zins L c)
  | [], f, c, _, _, _ => ⟨by show zshi f (nI c) 0 0 = nI c; rw [zshi]; unfold upd; rw [if_pos rfl], trivial⟩
  | a :: r, f, c, h, hb, hc => by
    have ha := hb a List.mem_cons_self
    obtain ⟨h1, h2⟩ := h
    show zRep (zshi f (nI c) (r.length + 1)) (zins (a :: r) c)
    rw [zshi, zins, h1]
    by_cases hac : a ≤ c
    · rw [if_pos (nI_le hac hc), if_pos hac]
      refine ⟨?_, ?_, zRep_cg (fun k hk => ?_) h2⟩
      · show upd f (r.length + 1) (nI c) (r.length + 1) = nI c
        unfold upd; rw [if_pos rfl]
      · unfold upd; rw [if_neg (by omega)]; exact h1
      · unfold upd; rw [if_neg (by omega)]
    · rw [if_neg (nI_ge (by omega) ha), if_neg hac]
      refine ⟨?_, zRep_ins r _ c (zRep_cg (fun k hk => ?_) h2) (fun x hx => hb x (List.mem_cons.mpr (Or.inr hx))) hc⟩
      · rw [zins_len, zshi_hi _ _ _ _ (Nat.lt_succ_self _)]; unfold upd; rw [if_pos rfl]
      · unfold upd; rw [if_neg (by omega)]
theorem zcN_ok : ∀ i, i < 160 → zcP i = nI (zcN i) ∧ zcN i < 2 ^ 31 := by decide +kernel
theorem zinL_ok : ∀ i, i ≤ 160 → (zinL i).length = i ∧ (∀ a ∈ zinL i, a < 2 ^ 31) ∧ zRep (zou i) (zinL i)
  | 0, _ => ⟨rfl, fun a h => (nomatch h), trivial⟩
  | i + 1, hi => by
    obtain ⟨h1, h2, h3⟩ := zinL_ok i (by omega)
    obtain ⟨e1, e2⟩ := zcN_ok i (by omega)
    refine ⟨by rw [zinL, zins_len, h1], fun a ha => ?_, ?_⟩
    · rcases zins_mem _ _ _ ha with rfl | h
      · exact e2
      · exact h2 a h
    · have h4 := zRep_ins (zinL i) (zou i) (zcN i) h3 h2 e2
      rw [h1, ← e1] at h4
      exact h4
theorem zRep_get {f : Nat → Int32} : ∀ {L : List Nat}, zRep f L → ∀ k, k < L.length → f k = nI (L.getD (L.length - 1 - k) 0)
  | [], _, k, hk => absurd hk (by simp)
  | a :: r, h, k, hk => by
    have hk : k < r.length + 1 := hk
    show f k = nI ((a :: r).getD (r.length + 1 - 1 - k) 0)
    by_cases e : k = r.length
    · subst e
      rw [h.1, show r.length + 1 - 1 - r.length = 0 by omega]
      rfl
    · rw [zRep_get h.2 k (by omega), show r.length + 1 - 1 - k = (r.length - 1 - k) + 1 by omega]
      rfl
theorem zinL_160 : zinL 160 = zOl.reverse := by decide +kernel
theorem zOl_rev : ∀ i, i < 160 → zOl.reverse.getD (zOl.reverse.length - 1 - i) 0 = zOl.getD i 0 := by decide +kernel
theorem zou_160 {n9 : Nat} (hn9 : n9 = 160) : ∀ i, i < 160 → zou n9 i = nI (zOl.getD i 0) := fun i hi => by
  obtain ⟨h1, -, h3⟩ := zinL_ok n9 (by omega)
  rw [hn9, zinL_160] at h1
  rw [show zinL n9 = zOl.reverse by rw [hn9]; exact zinL_160] at h3
  rw [zRep_get h3 i (by omega), zOl_rev i hi]
/-- the points in order lie at 107 -/
theorem N_A (h : S 107 = .inl (0, 160)) : ∃ f, zcal zTT jC_allPointsInOrder [] (107, M, S, G) = some (some (.ref 107), (108, M + 160, S, va_up G 107 f)) ∧ ∀ i, i < 160 → f i = nI (zOl.getD i 0) := by
  obtain ⟨n9, hn9⟩ : ∃ n : Nat, n = 160 := ⟨_, rfl⟩
  obtain ⟨F, hF⟩ : ∃ F, zou n9 = F := ⟨_, rfl⟩
  have h2 := zou_160 hn9
  rw [hF] at h2
  exact ⟨F, N_A0 hn9 hF h, h2⟩
end ZORDER
