section ZMODEL6
variable {G G' : Nat → Nat → Int32} {S : zSt}
theorem zMO.vT (h : zMO G S) {n : Nat} (hn : n < 7) (v : Int32) : zMO (zw G 123 (3 + n) v) (uT S (upd (sT S) n v)) := by
  obtain ⟨h1, h2, h3, h4, h5, h6, ⟨h7, h8, h9⟩, h10, h11, h12⟩ := h
  refine ⟨fun k hk => ?_, fun k hk => ?_, fun k hk => ?_, fun k hk => ?_, fun k hk => ?_, fun k hk ho => ?_, ⟨?_, h8, fun i k hi hk => ?_⟩, ?_, h11, fun i k hi hk => ?_⟩
  · rw [zw_ne _ (Or.inr (by omega))]; exact h1 k hk
  · show _ = upd (sT S) n v k
    by_cases e : k = n
    · subst e; rw [zw_eq]; unfold upd; rw [if_pos rfl]
    · rw [zw_ne _ (Or.inr (by omega))]; unfold upd; rw [if_neg e]; exact h2 k hk
  · rw [zw_ne _ (Or.inr (by omega))]; exact h3 k hk
  · rw [zw_ne _ (Or.inr (by omega))]; exact h4 k hk
  · rw [zw_ne _ (Or.inr (by omega))]; exact h5 k hk
  · rw [zw_ne _ (Or.inr (by omega))]; exact h6 k hk ho
  · rw [zw_ne _ (Or.inr (by omega))]; exact h7
  · rw [zw_ne _ (Or.inr (by omega))]; exact h9 i k hi hk
  · rw [zw_ne _ (Or.inr (by omega))]; exact h10
  · rw [zw_ne _ (Or.inr (by omega))]; exact h12 i k hi hk
theorem zMO.vC (h : zMO G S) {n : Nat} (hn : n < 3) (v : Int32) : zMO (zw G 123 n v) (uC S (upd (sC S) n v)) := by
  obtain ⟨h1, h2, h3, h4, h5, h6, ⟨h7, h8, h9⟩, h10, h11, h12⟩ := h
  refine ⟨fun k hk => ?_, fun k hk => ?_, fun k hk => ?_, fun k hk => ?_, fun k hk => ?_, fun k hk ho => ?_, ⟨?_, h8, fun i k hi hk => ?_⟩, ?_, h11, fun i k hi hk => ?_⟩
  · show _ = upd (sC S) n v k
    by_cases e : k = n
    · subst e; rw [zw_eq]; unfold upd; rw [if_pos rfl]
    · rw [zw_ne _ (Or.inr (by omega))]; unfold upd; rw [if_neg e]; exact h1 k hk
  · rw [zw_ne _ (Or.inr (by omega))]; exact h2 k hk
  · rw [zw_ne _ (Or.inr (by omega))]; exact h3 k hk
  · rw [zw_ne _ (Or.inr (by omega))]; exact h4 k hk
  · rw [zw_ne _ (Or.inr (by omega))]; exact h5 k hk
  · rw [zw_ne _ (Or.inr (by omega))]; exact h6 k hk ho
  · rw [zw_ne _ (Or.inr (by omega))]; exact h7
  · rw [zw_ne _ (Or.inr (by omega))]; exact h9 i k hi hk
  · rw [zw_ne _ (Or.inr (by omega))]; exact h10
  · rw [zw_ne _ (Or.inr (by omega))]; exact h12 i k hi hk
theorem zMO.vL (h : zMO G S) {n : Nat} (hn : n < 32) (v : Int32) : zMO (zw G 123 (60 + n) v) (uL S (upd (sL S) n v)) := by
  obtain ⟨h1, h2, h3, h4, h5, h6, ⟨h7, h8, h9⟩, h10, h11, h12⟩ := h
  refine ⟨fun k hk => ?_, fun k hk => ?_, fun k hk => ?_, fun k hk => ?_, fun k hk => ?_, fun k hk ho => ?_, ⟨?_, h8, fun i k hi hk => ?_⟩, ?_, h11, fun i k hi hk => ?_⟩
  · rw [zw_ne _ (Or.inr (by omega))]; exact h1 k hk
  · rw [zw_ne _ (Or.inr (by omega))]; exact h2 k hk
  · rw [zw_ne _ (Or.inr (by omega))]; exact h3 k hk
  · rw [zw_ne _ (Or.inr (by omega))]; exact h4 k hk
  · rw [zw_ne _ (Or.inr (by omega))]; exact h5 k hk
  · show _ = upd (sL S) n v k
    by_cases e : k = n
    · subst e; rw [zw_eq]; unfold upd; rw [if_pos rfl]
    · rw [zw_ne _ (Or.inr (by omega))]; unfold upd; rw [if_neg e]; exact h6 k hk ho
  · rw [zw_ne _ (Or.inr (by omega))]; exact h7
  · rw [zw_ne _ (Or.inr (by omega))]; exact h9 i k hi hk
  · rw [zw_ne _ (Or.inr (by omega))]; exact h10
  · rw [zw_ne _ (Or.inr (by omega))]; exact h12 i k hi hk
theorem zMO.vO (h : zMO G S) {n : Nat} (hn : n < 32) (v : Int32) (hv : v = -1 ∨ G 123 (60 + n) = sL S n) : zMO (zw G 123 (28 + n) v) (uO S (upd (sO S) n v)) := by
  obtain ⟨h1, h2, h3, h4, h5, h6, ⟨h7, h8, h9⟩, h10, h11, h12⟩ := h
  refine ⟨fun k hk => ?_, fun k hk => ?_, fun k hk => ?_, fun k hk => ?_, fun k hk => ?_, fun k hk ho => ?_, ⟨?_, h8, fun i k hi hk => ?_⟩, ?_, h11, fun i k hi hk => ?_⟩
  · rw [zw_ne _ (Or.inr (by omega))]; exact h1 k hk
  · rw [zw_ne _ (Or.inr (by omega))]; exact h2 k hk
  · rw [zw_ne _ (Or.inr (by omega))]; exact h3 k hk
  · rw [zw_ne _ (Or.inr (by omega))]; exact h4 k hk
  · show _ = upd (sO S) n v k
    by_cases e : k = n
    · subst e; rw [zw_eq]; unfold upd; rw [if_pos rfl]
    · rw [zw_ne _ (Or.inr (by omega))]; unfold upd; rw [if_neg e]; exact h5 k hk
  · rw [zw_ne _ (Or.inr (by omega))]
    have ho : ¬ upd (sO S) n v k = -1 := ho
    unfold upd at ho
    by_cases e : k = n
    · subst e
      rw [if_pos rfl] at ho
      rcases hv with hv | hv
      · exact absurd hv ho
      · exact hv
    · rw [if_neg e] at ho
      exact h6 k hk ho
  · rw [zw_ne _ (Or.inr (by omega))]; exact h7
  · rw [zw_ne _ (Or.inr (by omega))]; exact h9 i k hi hk
  · rw [zw_ne _ (Or.inr (by omega))]; exact h10
  · rw [zw_ne _ (Or.inr (by omega))]; exact h12 i k hi hk
theorem zMO.mL (h : zMO G S) (f : Nat → Int32) (hf : ∀ s, s < 32 → ¬ sO S s = -1 → f s = sL S s) : zMO G (uL S f) := by
  obtain ⟨h1, h2, h3, h4, h5, h6, h7, h8⟩ := h
  exact ⟨h1, h2, h3, h4, h5, fun s hs ho => (h6 s hs ho).trans (hf s hs ho).symm, h7, h8⟩
/-- owner and lease at once -/
theorem zMO.uOL (h : zMO G S) {n : Nat} (hn : n < 32) (v w : Int32) : zMO (zw (zw G 123 (28 + n) v) 123 (60 + n) w) (uL (uO S (upd (sO S) n v)) (upd (sL S) n w)) := by
  have h2 := (h.vL hn w).vO hn v (Or.inr (by rw [zw_eq]; show w = upd (sL S) n w n; unfold upd; rw [if_pos rfl]))
  have e : zw (zw G 123 (28 + n) v) 123 (60 + n) w = zw (zw G 123 (60 + n) w) 123 (28 + n) v := by
    funext q j
    simp only [zw_app]
    by_cases a1 : q = 123 ∧ j = 60 + n
    · rw [if_pos a1, if_neg (by omega), if_pos a1]
    · rw [if_neg a1]
      by_cases a2 : q = 123 ∧ j = 28 + n
      · rw [if_pos a2, if_pos a2]
      · rw [if_neg a2, if_neg a2, if_neg a1]
  rw [e]
  exact h2
theorem zMO.rel (h : zMO G S) {n : Nat} (hn : n < 32) : zMO (zw G 123 (28 + n) (-1)) (uL (uO S (upd (sO S) n (-1))) (upd (sL S) n (-1))) := by
  refine (h.vO hn (-1) (Or.inl rfl)).mL _ (fun s _ ho => ?_)
  have ho : ¬ upd (sO S) n (-1) s = -1 := ho
  show upd (sL S) n (-1) s = sL S s
  unfold upd at ho ⊢
  by_cases e : s = n
  · rw [if_pos e] at ho; exact absurd rfl ho
  · rw [if_neg e]
theorem zMO.vM (h : zMO G S) {l : List zMv} (hf : ∀ k, k ≠ 10 → (k < 92 ∨ 220 ≤ k) → G' 123 k = G 123 k) (he : G' 123 10 = nI l.length ∧ l.length ≤ 8 ∧ ∀ i k, i < l.length → k < 4 → G' 123 (92 + 4 * i + k) = zpt (l.getD i zM0) k) : zMO G' (uM S l) := by
  obtain ⟨h1, h2, h3, h4, h5, h6, h7, h8, h9, h10⟩ := h
  exact ⟨fun k hk => by rw [hf _ (by omega) (by omega)]; exact h1 k hk, fun k hk => by rw [hf _ (by omega) (by omega)]; exact h2 k hk, fun k hk => by rw [hf _ (by omega) (by omega)]; exact h3 k hk, fun k hk => by rw [hf _ (by omega) (by omega)]; exact h4 k hk, fun k hk => by rw [hf _ (by omega) (by omega)]; exact h5 k hk, fun k hk ho => by rw [hf _ (by omega) (by omega)]; exact h6 k hk ho, he, by rw [hf _ (by omega) (by omega)]; exact h8, h9, fun i k hi hk => by rw [hf _ (by omega) (by omega)]; exact h10 i k hi hk⟩
theorem zMO.vE (h : zMO G S) {l : List zMv} (hf : ∀ k, k ≠ 11 → k < 220 → G' 123 k = G 123 k) (he : G' 123 11 = nI l.length ∧ l.length ≤ 30 ∧ ∀ i k, i < l.length → k < 4 → G' 123 (220 + 4 * i + k) = zpt (l.getD i zM0) k) : zMO G' (uE S l) := by
  obtain ⟨h1, h2, h3, h4, h5, h6, ⟨h7, h8, h9⟩, h10⟩ := h
  exact ⟨fun k hk => by rw [hf _ (by omega) (by omega)]; exact h1 k hk, fun k hk => by rw [hf _ (by omega) (by omega)]; exact h2 k hk, fun k hk => by rw [hf _ (by omega) (by omega)]; exact h3 k hk, fun k hk => by rw [hf _ (by omega) (by omega)]; exact h4 k hk, fun k hk => by rw [hf _ (by omega) (by omega)]; exact h5 k hk, fun k hk ho => by rw [hf _ (by omega) (by omega)]; exact h6 k hk ho, ⟨by rw [hf _ (by omega) (by omega)]; exact h7, h8, fun i k (hi : i < (sM S).length) hk => by rw [hf _ (by omega) (by omega)]; exact h9 i k hi hk⟩, he⟩
/-- a row whose part from a to i is moved down by 4 -/
def zsh (f : Nat → Int32) (a i : Nat) : Nat → Int32 := fun j => if a ≤ j ∧ j < i then f (j + 4) else f j
theorem zsh_0 {q a : Nat} : va_up G q (zsh (G q) a a) = G := by
  have : zsh (G q) a a = G q := by funext j; unfold zsh; rw [if_neg (by omega)]
  rw [this, zup_self]
theorem zsh_st {q a i : Nat} (f : Nat → Int32) (h : a ≤ i) : zw (va_up G q (zsh f a i)) q i (f (i + 4)) = va_up G q (zsh f a (i + 1)) := by
  funext x j
  rw [zw_app, va_upe, va_upe]
  by_cases hx : x = q
  · rw [if_pos hx, if_pos hx]
    unfold zsh
    by_cases hj : j = i
    · subst hj; rw [if_pos ⟨hx, rfl⟩, if_pos (by omega)]
    · rw [if_neg (fun hh => hj hh.2)]
      by_cases h2 : a ≤ j ∧ j < i
      · rw [if_pos h2, if_pos (by omega)]
      · rw [if_neg h2, if_neg (by omega)]
  · rw [if_neg hx, if_neg hx, if_neg (fun hh => hx hh.1)]
theorem zsh_at {q a i j : Nat} (f : Nat → Int32) (h : i ≤ j ∨ j < a) : va_up G q (zsh f a i) q j = f j := by
  rw [va_upe, if_pos rfl]
  unfold zsh
  rw [if_neg (by omega)]
theorem M_of (hM : zMO G S) {i k : Nat} (hi : i < (sM S).length) (hk : k < 4) : zcal zTT jM_of [.ref 122, .int (nI i), .int (nI k)] (zhp G) = some (some (.int (zpt ((sM S).getD i zM0) k)), zhp G) := by
  obtain ⟨h1, h2, h3, h4, h5, h6, ⟨h7, h8, h9⟩, h10⟩ := hM
  have e := h9 i k hi hk
  refine zgo zMt_M_of (show zEv zTT (zco mM_of) kM_of_0 [.ref 122, .int (nI i), .int (nI k)] [] _ _ from ?_)
  simp only [kM_of_0, ev_iload, ev_aload, ev_istore, ev_astore, ev_iconst, ev_null, ev_iinc, ev_iadd, ev_isub, ev_imul, ev_iand, ev_ior, ev_ixor, ev_ishl, ev_ishr, ev_iushr, ev_idiv, ev_irem, ev_icmp, ev_if, ev_ifnull, ev_ifnullN, ev_goto, ev_dupi, ev_dupr, ev_dup2, ev_pop, ev_getf, ev_puti, ev_putr, ev_iald, ev_cald, ev_aald, ev_iast, ev_cast, ev_alen, ev_tsw, ev_lsw, ev_max, ev_min, ev_obj, ev_cp, ev_throw, ev_iret, ev_aret, ev_aretN, ev_ret, ev_new, ev_newa, ev_anew, ev_is0, ev_is1, ev_is2, ev_is3, ev_is4, ev_iv1, ev_iv2, ev_iv3, ev_iv4, ev_iv5, ev_ip1, ev_ip2, zlg_0, zls_0, zlg_1, zls_1, zlg_2, zls_2, zlg_3, zls_3, zlg_4, zls_4, zlg_5, zls_5, zlg_6, zls_6, zlg_7, zls_7, zlg_8, zls_8, zlg_9, zls_9, zlg_10, zls_10, zlg_11, zls_11, ev_jif, zLI_i, zLR_r, zOV_s, List.length_cons, List.length_nil, zcd, decide_eq_true_eq, true_and, and_true, Option.toList_some, Option.toList_none, List.cons_append, List.nil_append, zrf, if_true, if_false, true_or, or_true, false_or, or_false, and_self, zwr_w, zG_hp, Nat.reduceAdd, Nat.reduceLT, Nat.reduceLeDiff, Nat.zero_le, reduceIte, not_true_eq_false, not_false_eq_true, Prod.mk.injEq, Sum.inl.injEq, Option.some.injEq, Value.int.injEq, Value.ref.injEq, zsw, ev_jif, zB01, Bool.false_eq_true, one_ne, zero_eqone, nI_1, gT0_0, gT0_1, gT0_2, gT0_3, gT0_4, gT0_5, gT0_6, gT0_7, oT0, aT1, aT2, aT3, aT4, aT5, aT6, gT7_0, pgT7_0, gT7_1, gT7_2, pgT7_2, oT7, aT8, gT9_0, pgT9_0, gT9_1, gT9_2, pgT9_2, oT9, aT10, gP0_0, gP0_1, gP0_2, gP0_3, gP0_4, gP0_5, gP0_6, gP0_7, pgP0_7, gP0_8, pgP0_8, oP0, aP1, aP2, aP3, aP4, aP5, aP6, gR0_0, pgR0_0, gR0_1, gR0_2, pgR0_2, oR0, aR1, g0_0, g0_1, g0_2, g0_3, g0_4, g0_5, g0_6, g0_7, pg0_7, g0_8, pg0_8, o0, g34_0, g34_1, pg34_1, g34_2, pg34_2, o34, g102_0, g102_1, pg102_1, g102_2, pg102_2, g102_3, g102_4, g102_5, g102_6, pg102_6, o102, g122_0, g122_1, g122_2, g122_3, pg122_3, g122_4, g122_5, pg122_5, g122_6, pg122_6, g122_7, g122_8, g122_9, pg122_9, g122_10, g122_11, g122_12, g122_13, g122_14, g122_15, g122_16, g122_17, g122_18, pg122_18, g122_19, g122_20, pg122_20, g122_21, pg122_21, g122_22, pg122_22, g122_23, o122, a103, a104, a105, a106, a107, a123, a124, a125, a126, a127, a128, a129, a130, a131, a132, a133, a134, a135, a136, a137, a138, q35, zisT_1, zisT_12, zisT_23, zisT_36, zisT_47, zisT_58, zisT_69, zisT_80, zisT_91, zisP_108, zisP_115, zisR_8, zisR_10, zisR_19, zisR_21, zisR_30, zisR_32, zisR_43, zisR_45, zisR_54, zisR_56, zisR_65, zisR_67, zisR_76, zisR_78, zisR_87, zisR_89, zisR_98, zisR_100, id zisT_1, id zisT_12, id zisT_23, id zisP_108, id zisP_115, id (zisR_T7 zisT_1), id (zisR_T9 zisT_1), zmul, nI_add, zi_n (s := 92 + 4 * i + k) (n := 340) (by omega) (by omega), zcl_n (s := 92 + 4 * i + k) (by omega), a123, e]
theorem M_of0 (hM : zMO G S) {i : Nat} (hi : i < (sM S).length) : zcal zTT jM_of [.ref 122, .int (nI i), .int 0] (zhp G) = some (some (.int ((sM S).getD i zM0).1), zhp G) := M_of hM hi (k := 0) (by omega)
theorem M_of1 (hM : zMO G S) {i : Nat} (hi : i < (sM S).length) : zcal zTT jM_of [.ref 122, .int (nI i), .int 1] (zhp G) = some (some (.int ((sM S).getD i zM0).2.1), zhp G) := M_of hM hi (k := 1) (by omega)
theorem M_of2 (hM : zMO G S) {i : Nat} (hi : i < (sM S).length) : zcal zTT jM_of [.ref 122, .int (nI i), .int (nI 2)] (zhp G) = some (some (.int ((sM S).getD i zM0).2.2.1), zhp G) := M_of hM hi (k := 2) (by omega)
theorem M_of3 (hM : zMO G S) {i : Nat} (hi : i < (sM S).length) : zcal zTT jM_of [.ref 122, .int (nI i), .int (nI 3)] (zhp G) = some (some (.int ((sM S).getD i zM0).2.2.2), zhp G) := M_of hM hi (k := 3) (by omega)
end ZMODEL6
