section ZMOBJ
variable {G G' : Nat → Nat → Int32} {S : zSt} {A : zCA} {T : List Int32}
/-- the i-th oldest of the kept states -/
def pP (A : zCA) (i : Nat) : zSt := cK A ((cN A + 6 - cC A + i) % 6)
def zMQ (G : Nat → Nat → Int32) (A : zCA) : Prop := G 122 5 = nI (cC A) ∧ cC A ≤ 6 ∧ cN A < 6 ∧ ∀ i, i < cC A → zMR (fun k => G 126 (340 * i + k)) (pP A i)
def zMT (G : Nat → Nat → Int32) (T : List Int32) : Prop := G 122 18 = nI T.length ∧ T.length ≤ 60 ∧ ∀ i, i < T.length → G 137 i = T.getD i 0
/-- the reference's object -/
def zMZ (G : Nat → Nat → Int32) (A : zCA) (T : List Int32) : Prop := zMR (G 123) (cS A) ∧ (cB A = true → zMR (G 124) (cV A)) ∧ G 122 3 = (if cB A = true then 1 else 0) ∧ zMQ G A ∧ zSI G ∧ zPI G ∧ zMT G T
/-- what holds of all its states -/
def zGA (A : zCA) : Prop := zGo (cS A) ∧ (cB A = true → zGo (cV A)) ∧ ∀ i, i < cC A → zGo (pP A i)
/-- what the reference's methods leave alone -/
def zMJ (G G' : Nat → Nat → Int32) : Prop := (∀ a, a ≠ 122 → a ≠ 123 → a ≠ 125 → (a < 129 ∨ 135 < a) → a ≠ 136 → a ≠ 138 → G' a = G a) ∧ ∀ k, k = 3 ∨ k = 5 ∨ k = 18 → G' 122 k = G 122 k
theorem zMJ.rf : zMJ G G := ⟨fun _ _ _ _ _ _ _ => rfl, fun _ _ => rfl⟩
theorem zMJ.tr {G1 G2 : Nat → Nat → Int32} (h : zMJ G G1) (h2 : zMJ G1 G2) : zMJ G G2 := ⟨fun a b c d e f g => (h2.1 a b c d e f g).trans (h.1 a b c d e f g), fun k hk => (h2.2 k hk).trans (h.2 k hk)⟩
theorem zMH.j (h : zMH G G') : zMJ G G' := ⟨fun a a1 a2 _ a4 _ _ => h.1 a a1 a2 a4, fun k hk => h.2 k (by omega)⟩
theorem zMG.j (h : zMG G G') : zMJ G G' := ⟨fun a a1 _ _ a4 _ _ => h.1 a a1 a4, fun k hk => h.2 k (by omega)⟩
theorem zMF.j (h : zMF G G') : zMJ G G' := ⟨fun a a1 _ _ a4 _ _ => h.1 a a1 (by omega) (by omega) (by omega), fun k hk => h.2 k (by omega)⟩
theorem zMJ.m (h : ∀ a, a ≠ 123 → G' a = G a) : zMJ G G' := ⟨fun a _ a2 _ _ _ _ => h a a2, fun k _ => by rw [h 122 (by omega)]⟩
theorem zMJ.w6 (v : Int32) : zMJ G (zw G 122 6 v) := ⟨fun a a1 _ _ _ _ _ => zw_oth _ a1, fun k hk => zw_ne _ (Or.inr (by omega))⟩
theorem zMJ.as {f : Nat → Int32} {b i : Nat} : zMJ G (zcw G 125 b f i) := ⟨fun a _ _ a3 _ _ _ => zcw_oth a3, fun k _ => by rw [zcw_oth (by omega)]⟩
theorem zMJ.lo (h : zMJ G G') : ∀ a, a < 122 → G' a = G a := fun a ha => h.1 a (by omega) (by omega) (by omega) (by omega) (by omega) (by omega)
theorem zMQ.fr (h : zMQ G A) (hF : zMJ G G') : zMQ G' A := by
  obtain ⟨h1, h2, h3, h4⟩ := h
  refine ⟨by rw [hF.2 5 (by omega)]; exact h1, h2, h3, fun i hi => ?_⟩
  rw [hF.1 126 (by omega) (by omega) (by omega) (by omega) (by omega) (by omega)]
  exact h4 i hi
theorem zMT.fr (h : zMT G T) (hF : zMJ G G') : zMT G' T := by
  obtain ⟨h1, h2, h3⟩ := h
  exact ⟨by rw [hF.2 18 (by omega)]; exact h1, h2, by rw [hF.1 137 (by omega) (by omega) (by omega) (by omega) (by omega) (by omega)]; exact h3⟩
theorem zMZ.st (h : zMZ G A T) (hF : zMJ G G') {S' : zSt} (hS : zMR (G' 123) S') : zMZ G' (qS A S') T := by
  obtain ⟨h1, h2, h3, h4, h5, h6, h7⟩ := h
  refine ⟨hS, ?_, by rw [hF.2 3 (by omega)]; exact h3, h4.fr hF, ?_, ?_, h7.fr hF⟩
  · rw [hF.1 124 (by omega) (by omega) (by omega) (by omega) (by omega) (by omega)]; exact h2
  · intro s hs; rw [hF.1 127 (by omega) (by omega) (by omega) (by omega) (by omega) (by omega)]; exact h5 s hs
  · intro s hs; rw [hF.1 128 (by omega) (by omega) (by omega) (by omega) (by omega) (by omega)]; exact h6 s hs
theorem zMZ.fr (h : zMZ G A T) (hF : zMJ G G') (h123 : G' 123 = G 123) : zMZ G' A T := h.st hF (S' := cS A) (by rw [h123]; exact h.1)
theorem zpP_keep (hc : cC A ≤ 6) (hn : cN A < 6) {i : Nat} (hi : i < zNc (cC A)) : pP (qCh A) i = if i = zNc (cC A) - 1 then cS A else pP A (if cC A < 6 then i else i + 1) := by
  unfold pP
  show zKp (cK A) (cN A) (cS A) ((zNn (cN A) + 6 - zNc (cC A) + i) % 6) = _
  unfold zKp
  have e : ((zNn (cN A) + 6 - zNc (cC A) + i) % 6 = cN A) ↔ i = zNc (cC A) - 1 := by
    unfold zNn zNc at *
    by_cases c6 : cC A < 6
    · rw [if_pos c6] at hi ⊢
      by_cases n6 : cN A + 1 < 6
      · rw [if_pos n6]; omega
      · rw [if_neg n6]; omega
    · rw [if_neg c6] at hi ⊢
      by_cases n6 : cN A + 1 < 6
      · rw [if_pos n6]; omega
      · rw [if_neg n6]; omega
  by_cases h : i = zNc (cC A) - 1
  · rw [if_pos h, if_pos (e.mpr h)]
  · rw [if_neg h, if_neg (fun hh => h (e.mp hh))]
    congr 1
    unfold zNn zNc at *
    by_cases c6 : cC A < 6
    · rw [if_pos c6] at hi h ⊢
      rw [if_pos c6]
      by_cases n6 : cN A + 1 < 6
      · rw [if_pos n6]; omega
      · rw [if_neg n6]; omega
    · rw [if_neg c6] at hi h ⊢
      rw [if_neg c6]
      by_cases n6 : cN A + 1 < 6
      · rw [if_pos n6]; omega
      · rw [if_neg n6]; omega
theorem zNc_b (c : Nat) : 1 ≤ zNc c ∧ zNc c ≤ 6 ∨ 6 < c := by unfold zNc; split <;> omega
/-- a change that counts: the row is kept, the state is another -/
theorem zMZ.kp (h : zMZ G A T) {G2 : Nat → Nat → Int32} {S2 : zSt} (hF : zMJ G G2) (hS : zMR (G2 123) S2) {r : Nat} (hr : r = 123 ∨ r = 125) (h125 : ∀ j, j < 340 → G2 r j = G 123 j) : ∃ G', zcal zTT jM_keepAs [.ref 122, .ref r] (zhp G2) = some (none, zhp G') ∧ zMZ G' (qS (qCh A) S2) T ∧ (∀ a, a ≠ 122 → a ≠ 126 → G' a = G2 a) ∧ ∀ k, k ≠ 5 → G' 122 k = G2 122 k := by
  obtain ⟨h1, h2, h3, h4, h5, h6, h7⟩ := h
  have q := h4.fr hF
  obtain ⟨q1, q2, q3, q4⟩ := q
  obtain ⟨G', c, g1, g2, g3, g4, g5⟩ := M_keepAs (G := G2) (r := r) (by intro G; rcases hr with rfl | rfl <;> rfl) (by omega) (by omega) q2 q1
  have t2 := h7.fr hF
  refine ⟨G', c, ⟨?_, ?_, ?_, ?_, ?_, ?_, ?_⟩, g2, g3⟩
  · rw [g2 123 (by omega) (by omega)]; exact hS
  · rw [g2 124 (by omega) (by omega), hF.1 124 (by omega) (by omega) (by omega) (by omega) (by omega) (by omega)]; exact h2
  · rw [g3 3 (by omega), hF.2 3 (by omega)]; exact h3
  · have hb := zNc_b (cC A)
    have hnn : zNn (cN A) < 6 := by unfold zNn; split <;> omega
    refine ⟨g1, by show zNc (cC A) ≤ 6; omega, hnn, fun i hi => ?_⟩
    have hi : i < zNc (cC A) := hi
    have e : pP (qS (qCh A) S2) i = pP (qCh A) i := rfl
    rw [e, zpP_keep q2 q3 hi]
    by_cases h : i = zNc (cC A) - 1
    · rw [if_pos h, h]
      exact h1.cg (fun j hj => (g4 j hj).trans (h125 j hj))
    · rw [if_neg h]
      refine (q4 (if cC A < 6 then i else i + 1) ?_).cg (fun j hj => g5 i (by omega) j hj)
      unfold zNc at hi h
      split
      · rename_i hc; rw [if_pos hc] at hi h; omega
      · rename_i hc; rw [if_neg hc] at hi h; omega
  · intro s hs; rw [g2 127 (by omega) (by omega), hF.1 127 (by omega) (by omega) (by omega) (by omega) (by omega) (by omega)]; exact h5 s hs
  · intro s hs; rw [g2 128 (by omega) (by omega), hF.1 128 (by omega) (by omega) (by omega) (by omega) (by omega) (by omega)]; exact h6 s hs
  · obtain ⟨t1, t2, t3⟩ := t2
    exact ⟨by rw [g3 18 (by omega)]; exact t1, t2, by rw [g2 137 (by omega) (by omega)]; exact t3⟩
theorem zGA.kp (h : zGA A) (hc : cC A ≤ 6) (hn : cN A < 6) {S2 : zSt} (h2 : zGo S2) : zGA (qS (qCh A) S2) := by
  obtain ⟨g1, g2, g3⟩ := h
  refine ⟨h2, g2, fun i hi => ?_⟩
  have hi : i < zNc (cC A) := hi
  have e : pP (qS (qCh A) S2) i = pP (qCh A) i := rfl
  rw [e, zpP_keep hc hn hi]
  by_cases h : i = zNc (cC A) - 1
  · rw [if_pos h]; exact g1
  · rw [if_neg h]
    refine g3 _ ?_
    unfold zNc at hi h
    split
    · rename_i hc; rw [if_pos hc] at hi h; omega
    · rename_i hc; rw [if_neg hc] at hi h; omega
/-- how a refusal counts in the law -/
def zk1 (a : Nat) (e : Nat) : Int32 := if e = a then 1 else 0
def zk2 (a b : Nat) (e : Nat) : Int32 := if e = a then 1 else if e = b then nI 2 else 0
def zk3 (a b c : Nat) (e : Nat) : Int32 := if e = a then 1 else if e = b then nI 2 else if e = c then nI 3 else 0
def zRf (q : zRt) (f : Nat → Int32) (r t : Int32) : Prop := (∃ v, q = .inl (some (.int v)) ∧ t = 0 ∧ r = v) ∨ ∃ e, q = .inr e ∧ t = f e ∧ ¬ t = 0
/-- a face method's contract for the reference -/
def zFZ (j : Nat) (as : List Value) (G : Nat → Nat → Int32) (T' : List Int32) (f : Nat → Int32) (r : zRt × zCA) : Prop := ∃ G' v, zcal zTT j as (zhp G) = some (some (.int v), zhp G') ∧ zMZ G' r.2 T' ∧ zRf r.1 f v (G' 122 6) ∧ ∀ a, a < 122 → G' a = G a
theorem zFZ.ok {j : Nat} {as : List Value} {T' : List Int32} {f : Nat → Int32} {v : Int32} {A' : zCA} (c : zcal zTT j as (zhp G) = some (some (.int v), zhp G')) (h : zMZ G' A' T') (t : G' 122 6 = 0) (hl : ∀ a, a < 122 → G' a = G a) : zFZ j as G T' f (.inl (some (.int v)), A') := ⟨G', v, c, h, Or.inl ⟨v, rfl, t, rfl⟩, hl⟩
theorem zFZ.no {j : Nat} {as : List Value} {T' : List Int32} {f : Nat → Int32} {v : Int32} {e : Nat} (c : zcal zTT j as (zhp G) = some (some (.int v), zhp G')) (h : zMZ G' A T') (t : G' 122 6 = f e) (hf : ¬ f e = 0) (hl : ∀ a, a < 122 → G' a = G a) : zFZ j as G T' f (.inr e, A) := ⟨G', v, c, h, Or.inr ⟨e, rfl, t, by rw [t]; exact hf⟩, hl⟩
theorem M_done0 (h : zMZ G A T) {G2 : Nat → Nat → Int32} {S2 : zSt} (hF : zMJ G G2) (hS : zMR (G2 123) S2) (h125 : ∀ j, j < 340 → G2 125 j = G 123 j) : ∃ G', zcal zTT jM_done [.ref 122, .int 0] (zhp G2) = some (some (.int 1), zhp G') ∧ zMZ G' (qS (qCh A) S2) T ∧ G' 122 6 = 0 ∧ (∀ a, a ≠ 122 → a ≠ 126 → G' a = G2 a) := by
  obtain ⟨G', c, h1, h2, h3⟩ := h.kp (G2 := zw G2 122 6 0) (S2 := S2) (hF.tr (zMJ.w6 0)) (by rw [zw_oth _ (by omega)]; exact hS) (Or.inr rfl) (fun j hj => by rw [zw_oth _ (by omega)]; exact h125 j hj)
  refine ⟨G', ?_, h1, by rw [h3 6 (by omega), zw_eq], fun a a1 a2 => by rw [h2 a a1 a2, zw_oth _ a1]⟩
  refine zgo zMt_M_done (show zEv zTT (zco mM_done) kM_done_0 [.ref 122, .int 0] [] _ _ from ?_)
  simp only [kM_done_0, kM_done_17, kM_done_25, kM_done_26, zjM_done_17, zjM_done_25, zjM_done_26, ev_iload, ev_aload, ev_istore, ev_astore, ev_iconst, ev_null, ev_iinc, ev_iadd, ev_isub, ev_imul, ev_iand, ev_ior, ev_ixor, ev_ishl, ev_ishr, ev_iushr, ev_idiv, ev_irem, ev_icmp, ev_if, ev_ifnull, ev_ifnullN, ev_goto, ev_dupi, ev_dupr, ev_dup2, ev_pop, ev_getf, ev_puti, ev_putr, ev_iald, ev_cald, ev_aald, ev_iast, ev_cast, ev_alen, ev_tsw, ev_lsw, ev_max, ev_min, ev_obj, ev_cp, ev_throw, ev_iret, ev_aret, ev_aretN, ev_ret, ev_new, ev_newa, ev_anew, ev_is0, ev_is1, ev_is2, ev_is3, ev_is4, ev_iv1, ev_iv2, ev_iv3, ev_iv4, ev_iv5, ev_ip1, ev_ip2, zlg_0, zls_0, zlg_1, zls_1, zlg_2, zls_2, zlg_3, zls_3, zlg_4, zls_4, zlg_5, zls_5, zlg_6, zls_6, zlg_7, zls_7, zlg_8, zls_8, zlg_9, zls_9, zlg_10, zls_10, zlg_11, zls_11, ev_jif, zLI_i, zLR_r, zOV_s, List.length_cons, List.length_nil, zcd, decide_eq_true_eq, true_and, and_true, Option.toList_some, Option.toList_none, List.cons_append, List.nil_append, zrf, if_true, if_false, true_or, or_true, false_or, or_false, and_self, zwr_w, zG_hp, Nat.reduceAdd, Nat.reduceLT, Nat.reduceLeDiff, Nat.zero_le, reduceIte, not_true_eq_false, not_false_eq_true, Prod.mk.injEq, Sum.inl.injEq, Option.some.injEq, Value.int.injEq, Value.ref.injEq, zsw, ev_jif, zB01, Bool.false_eq_true, one_ne, zero_eqone, nI_1, gT0_0, gT0_1, gT0_2, gT0_3, gT0_4, gT0_5, gT0_6, gT0_7, oT0, aT1, aT2, aT3, aT4, aT5, aT6, gT7_0, pgT7_0, gT7_1, gT7_2, pgT7_2, oT7, aT8, gT9_0, pgT9_0, gT9_1, gT9_2, pgT9_2, oT9, aT10, gP0_0, gP0_1, gP0_2, gP0_3, gP0_4, gP0_5, gP0_6, gP0_7, pgP0_7, gP0_8, pgP0_8, oP0, aP1, aP2, aP3, aP4, aP5, aP6, gR0_0, pgR0_0, gR0_1, gR0_2, pgR0_2, oR0, aR1, g0_0, g0_1, g0_2, g0_3, g0_4, g0_5, g0_6, g0_7, pg0_7, g0_8, pg0_8, o0, g34_0, g34_1, pg34_1, g34_2, pg34_2, o34, g102_0, g102_1, pg102_1, g102_2, pg102_2, g102_3, g102_4, g102_5, g102_6, pg102_6, o102, g122_0, g122_1, g122_2, g122_3, pg122_3, g122_4, g122_5, pg122_5, g122_6, pg122_6, g122_7, g122_8, g122_9, pg122_9, g122_10, g122_11, g122_12, g122_13, g122_14, g122_15, g122_16, g122_17, g122_18, pg122_18, g122_19, g122_20, pg122_20, g122_21, pg122_21, g122_22, pg122_22, g122_23, o122, a103, a104, a105, a106, a107, a123, a124, a125, a126, a127, a128, a129, a130, a131, a132, a133, a134, a135, a136, a137, a138, q35, zisT_1, zisT_12, zisT_23, zisT_36, zisT_47, zisT_58, zisT_69, zisT_80, zisT_91, zisP_108, zisP_115, zisR_8, zisR_10, zisR_19, zisR_21, zisR_30, zisR_32, zisR_43, zisR_45, zisR_54, zisR_56, zisR_65, zisR_67, zisR_76, zisR_78, zisR_87, zisR_89, zisR_98, zisR_100, id zisT_1, id zisT_12, id zisT_23, id zisP_108, id zisP_115, id (zisR_T7 zisT_1), id (zisR_T9 zisT_1), c]
theorem M_doneN {t : Int32} (ht : ¬ t = 0) : zcal zTT jM_done [.ref 122, .int t] (zhp G) = some (some (.int 0), zhp (zw G 122 6 t)) := by
  have h := eq_false ht
  refine zgo zMt_M_done (show zEv zTT (zco mM_done) kM_done_0 [.ref 122, .int t] [] _ _ from ?_)
  simp only [kM_done_0, kM_done_17, kM_done_25, kM_done_26, zjM_done_17, zjM_done_25, zjM_done_26, ev_iload, ev_aload, ev_istore, ev_astore, ev_iconst, ev_null, ev_iinc, ev_iadd, ev_isub, ev_imul, ev_iand, ev_ior, ev_ixor, ev_ishl, ev_ishr, ev_iushr, ev_idiv, ev_irem, ev_icmp, ev_if, ev_ifnull, ev_ifnullN, ev_goto, ev_dupi, ev_dupr, ev_dup2, ev_pop, ev_getf, ev_puti, ev_putr, ev_iald, ev_cald, ev_aald, ev_iast, ev_cast, ev_alen, ev_tsw, ev_lsw, ev_max, ev_min, ev_obj, ev_cp, ev_throw, ev_iret, ev_aret, ev_aretN, ev_ret, ev_new, ev_newa, ev_anew, ev_is0, ev_is1, ev_is2, ev_is3, ev_is4, ev_iv1, ev_iv2, ev_iv3, ev_iv4, ev_iv5, ev_ip1, ev_ip2, zlg_0, zls_0, zlg_1, zls_1, zlg_2, zls_2, zlg_3, zls_3, zlg_4, zls_4, zlg_5, zls_5, zlg_6, zls_6, zlg_7, zls_7, zlg_8, zls_8, zlg_9, zls_9, zlg_10, zls_10, zlg_11, zls_11, ev_jif, zLI_i, zLR_r, zOV_s, List.length_cons, List.length_nil, zcd, decide_eq_true_eq, true_and, and_true, Option.toList_some, Option.toList_none, List.cons_append, List.nil_append, zrf, if_true, if_false, true_or, or_true, false_or, or_false, and_self, zwr_w, zG_hp, Nat.reduceAdd, Nat.reduceLT, Nat.reduceLeDiff, Nat.zero_le, reduceIte, not_true_eq_false, not_false_eq_true, Prod.mk.injEq, Sum.inl.injEq, Option.some.injEq, Value.int.injEq, Value.ref.injEq, zsw, ev_jif, zB01, Bool.false_eq_true, one_ne, zero_eqone, nI_1, gT0_0, gT0_1, gT0_2, gT0_3, gT0_4, gT0_5, gT0_6, gT0_7, oT0, aT1, aT2, aT3, aT4, aT5, aT6, gT7_0, pgT7_0, gT7_1, gT7_2, pgT7_2, oT7, aT8, gT9_0, pgT9_0, gT9_1, gT9_2, pgT9_2, oT9, aT10, gP0_0, gP0_1, gP0_2, gP0_3, gP0_4, gP0_5, gP0_6, gP0_7, pgP0_7, gP0_8, pgP0_8, oP0, aP1, aP2, aP3, aP4, aP5, aP6, gR0_0, pgR0_0, gR0_1, gR0_2, pgR0_2, oR0, aR1, g0_0, g0_1, g0_2, g0_3, g0_4, g0_5, g0_6, g0_7, pg0_7, g0_8, pg0_8, o0, g34_0, g34_1, pg34_1, g34_2, pg34_2, o34, g102_0, g102_1, pg102_1, g102_2, pg102_2, g102_3, g102_4, g102_5, g102_6, pg102_6, o102, g122_0, g122_1, g122_2, g122_3, pg122_3, g122_4, g122_5, pg122_5, g122_6, pg122_6, g122_7, g122_8, g122_9, pg122_9, g122_10, g122_11, g122_12, g122_13, g122_14, g122_15, g122_16, g122_17, g122_18, pg122_18, g122_19, g122_20, pg122_20, g122_21, pg122_21, g122_22, pg122_22, g122_23, o122, a103, a104, a105, a106, a107, a123, a124, a125, a126, a127, a128, a129, a130, a131, a132, a133, a134, a135, a136, a137, a138, q35, zisT_1, zisT_12, zisT_23, zisT_36, zisT_47, zisT_58, zisT_69, zisT_80, zisT_91, zisP_108, zisP_115, zisR_8, zisR_10, zisR_19, zisR_21, zisR_30, zisR_32, zisR_43, zisR_45, zisR_54, zisR_56, zisR_65, zisR_67, zisR_76, zisR_78, zisR_87, zisR_89, zisR_98, zisR_100, id zisT_1, id zisT_12, id zisT_23, id zisP_108, id zisP_115, id (zisR_T7 zisT_1), id (zisR_T9 zisT_1), h]
/-- the state put aside -/
theorem zas_at {j : Nat} (hj : j < 340) : zcw G 125 0 (G 123) 340 125 j = G 123 j := by
  have := zcw_in (G := G) (q := 125) (b := 0) (i := 340) (f := G 123) hj
  rw [Nat.zero_add] at this
  exact this
theorem zas_o {a : Nat} (h : a ≠ 125) : zcw G 125 0 (G 123) 340 a = G a := zcw_oth h
end ZMOBJ
