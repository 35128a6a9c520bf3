section ZMSLACK
variable {G G' : Nat → Nat → Int32} {S : zSt} {A : zCA} {T : List Int32} {R : List Nat} {cp : Nat → Int32}
/-- is any of the first n not 0 -/
def zsk (f : Nat → Int32) : Nat → Bool
  | 0 => false
  | n + 1 => zsk f n || decide (¬ f n = 0)
theorem zsk_cg {f g : Nat → Int32} : ∀ n, (∀ k, k < n → f k = g k) → zsk f n = zsk g n
  | 0, _ => rfl
  | n + 1, h => by rw [zsk, zsk, zsk_cg n (fun k hk => h k (by omega)), h n (by omega)]
theorem zor_ne {x y : Int32} (h : ¬ x = 0) : ¬ (x ||| y) = 0 := by
  intro e
  apply h
  have e1 : (x ||| y).toBitVec = 0#32 := by rw [e]; rfl
  rw [Int32.toBitVec_or] at e1
  apply Int32.toBitVec_inj.mp
  apply BitVec.eq_of_toNat_eq
  have e2 : (x.toBitVec ||| y.toBitVec).toNat = 0 := by rw [e1]; rfl
  rw [BitVec.toNat_or] at e2
  have : x.toBitVec.toNat ≤ 0 := by rw [← e2]; exact Nat.left_le_or
  have e0 : (0 : Int32).toBitVec.toNat = 0 := rfl
  rw [e0]
  omega
theorem zbit_ne : ∀ d, d < 8 → ¬ ((0 : Int32) ||| (1 <<< (nI d &&& 31))) = 0 := by decide
theorem zSk_ps : ∀ (k a : Nat) (ld : Nat → Int32) (ps : Int32), ¬ ps = 0 → ¬ (zSk R cp ld k a ps).2.2 = 0
  | 0, _, _, _, h => h
  | k + 1, a, ld, ps, h => by
    rw [zSk]
    split
    · exact h
    · exact zSk_ps k _ _ _ (zor_ne h)
theorem zWn_n (R : List Nat) : ∀ s d, ∃ m, m ≤ s ∧ zWn R s d = nI m
  | 0, d => ⟨0, Nat.le_refl _, rfl⟩
  | s + 1, d => by
    rw [zWn_s]
    unfold upd
    split
    · obtain ⟨m, hm, e⟩ := zWn_n R s (zNd R (zSu R (zsp s)))
      exact ⟨m + 1, by omega, by rw [e, nI_1]⟩
    · obtain ⟨m, hm, e⟩ := zWn_n R s d
      exact ⟨m, by omega, e⟩
theorem zlt_ge {m : Nat} (hm : m < 1000) (x : Int32) : (nI m < x) ↔ (nI m + 1 ≤ x) := by
  rw [nI_1]
  by_cases h : x < 0
  · constructor
    · intro g; exact absurd (Int32.lt_trans g h) (nI_pos (by omega))
    · intro g; exact absurd (Int32.lt_of_le_of_lt g h) (nI_pos (by omega))
  · obtain ⟨c, hc, rfl⟩ := nI_of h
    by_cases h2 : m < c
    · rw [zlt_t h2 (by omega), zle_t (n := m + 1) (s := c) (by omega) (by omega)]
    · rw [zlt_f (s := m) (n := c) (by omega) (by omega), zle_f (s := c) (n := m + 1) (by omega) (by omega)]
theorem zle_dn {m : Nat} (hm : m < 1000) {x : Int32} (h : nI m + 1 ≤ x) : nI m ≤ x := by
  have := (zlt_ge hm x).mpr h
  exact Int32.le_of_lt this
/-- someone is skipped just where one has no room for those that come to it first -/
theorem zskip (hL : 0 < R.length) : ∀ s, s ≤ 32 → (zsk (zTs R cp (fun _ => 0) (fun _ => -1) (fun _ => 0) s).2.2 s = false ∧ (∀ d, d < 8 → (zTs R cp (fun _ => 0) (fun _ => -1) (fun _ => 0) s).1 d = zWn R s d) ∧ ∀ d, d < 8 → (zWn R s d ≤ cp d ∨ zWn R s d = 0)) ∨ (zsk (zTs R cp (fun _ => 0) (fun _ => -1) (fun _ => 0) s).2.2 s = true ∧ ∃ d, d < 8 ∧ ¬ zWn R s d ≤ cp d ∧ ¬ zWn R s d = 0) := by
  intro s
  induction s with
  | zero => exact fun _ => Or.inl ⟨rfl, fun _ _ => rfl, fun _ _ => Or.inr rfl⟩
  | succ s ih =>
    intro hs
    have ih := ih (by omega)
    have hn8 : zNd R (zSu R (zsp s)) < 8 := zNd_lt R _
    rw [zTs_s, zWn_s]
    obtain ⟨U, hU⟩ : ∃ U, U = zTs R cp (fun _ => 0) (fun _ => -1) (fun _ => 0) s := ⟨_, rfl⟩
    rw [← hU] at ih ⊢
    have hsk : ∀ v, zsk (upd U.2.2 s v) (s + 1) = (zsk U.2.2 s || decide (¬ v = 0)) := by
      intro v
      rw [zsk, zsk_cg s (fun k hk => show upd U.2.2 s v k = U.2.2 k by unfold upd; rw [if_neg (by omega)])]
      unfold upd
      rw [if_pos rfl]
    dsimp only
    rw [hsk]
    obtain ⟨L, hLe⟩ : ∃ L, R.length = L + 1 := ⟨R.length - 1, by omega⟩
    obtain ⟨m, hm, em⟩ := zWn_n R s (zNd R (zSu R (zsp s)))
    rcases ih with ⟨h1, h2, h3⟩ | ⟨h1, d0, hd0, h2, h3⟩
    · rw [h1, hLe, zSk]
      by_cases hlt : U.1 (zNd R (zSu R (zsp s))) < cp (zNd R (zSu R (zsp s)))
      · rw [if_pos hlt]
        dsimp only
        refine Or.inl ⟨by simp, fun d hd => ?_, fun d hd => ?_⟩
        · rw [h2 _ hn8]
          unfold upd
          split
          · rfl
          · exact h2 d hd
        · unfold upd
          split
          · rename_i e
            subst e
            rw [h2 _ hn8, em] at hlt
            rw [em]
            exact Or.inl ((zlt_ge (by omega) _).mp hlt)
          · exact h3 d hd
      · rw [if_neg hlt]
        have hne : ¬ (zSk R cp U.1 L (zNx R (zSu R (zsp s))) ((0 : Int32) ||| ((1 : Int32) <<< (nI (zNd R (zSu R (zsp s))) &&& 31)))).2.2 = 0 := zSk_ps _ _ _ _ (zbit_ne _ hn8)
        refine Or.inr ⟨by rw [decide_eq_true hne]; rfl, _, hn8, ?_, ?_⟩
        · unfold upd
          rw [if_pos rfl, em]
          rw [h2 _ hn8, em] at hlt
          exact fun hh => hlt ((zlt_ge (by omega) _).mpr hh)
        · unfold upd
          rw [if_pos rfl, em, nI_1, zeq_0 (by omega)]
          omega
    · rw [h1, Bool.true_or]
      refine Or.inr ⟨rfl, d0, hd0, ?_, ?_⟩
      · unfold upd
        by_cases e : d0 = zNd R (zSu R (zsp s))
        · rw [if_pos e, em]
          rw [e, em] at h2
          exact fun hh => h2 (zle_dn (by omega) (by rw [← e]; exact hh))
        · rw [if_neg e]; exact h2
      · unfold upd
        by_cases e : d0 = zNd R (zSu R (zsp s))
        · rw [if_pos e, em, nI_1, zeq_0 (by omega)]
          omega
        · rw [if_neg e]; exact h3
theorem zAll_iff {P : Nat → Bool} : ∀ n i, zAll P n i = true ↔ ∀ k, i ≤ k → k < i + n → P k = true
  | 0, i => ⟨fun _ k h1 h2 => absurd h2 (by omega), fun _ => rfl⟩
  | n + 1, i => by
    rw [zAll]
    by_cases h : P i = true
    · rw [if_pos h, zAll_iff n (i + 1)]
      constructor
      · intro g k h1 h2
        by_cases e : k = i
        · subst e; exact h
        · exact g k (by omega) (by omega)
      · intro g k h1 h2; exact g k (by omega) (by omega)
    · rw [if_neg h]
      exact ⟨fun g => absurd g (by decide), fun g => absurd (g i (Nat.le_refl _) (by omega)) h⟩
/-- only active nodes are first to anyone -/
theorem zWn_z {N W : Nat → Int32} {d : Nat} (hN : ¬ N d = 1) (hL : 0 < (zRi N W).length) : ∀ s, zWn (zRi N W) s d = 0
  | 0 => rfl
  | s + 1 => by
    rw [zWn_s]
    unfold upd
    have ha : zSu (zRi N W) (zsp s) < (zRi N W).length := by unfold zSu; split <;> omega
    have hm := zgd_in ha
    have hk := (List.mem_filter.mp hm).2
    rw [if_neg (fun e => hN ?_)]
    · exact zWn_z hN hL s
    · unfold zKe at hk
      simp only [Bool.and_eq_true, decide_eq_true_eq] at hk
      rw [e]
      exact hk.1
theorem zCap_p {w q t : Nat} (hw : w ≤ 5) (hq : q ≤ 100) (ht : 1 ≤ t) (htb : t ≤ 40) : (0 : Int32) ≤ zCap (nI w) (nI q) (nI t) := by
  unfold zCap
  have e0 : (nI (100 * t) ≤ 0) = False := zle_f (s := 0) (n := 100 * t) (by omega) (by omega)
  rw [if_neg (by rw [zmul, e0]; exact id), zmul, zmul, nI_add]
  have hb : 32 * w * (100 + q) ≤ 32 * 5 * 200 := Nat.mul_le_mul (by omega) (by omega)
  rw [zmul, zdiv (a := 32 * w * (100 + q)) (b := 100 * t) (by omega) (by omega) (by omega)]
  have hd : 32 * w * (100 + q) / (100 * t) ≤ 32 * w * (100 + q) := Nat.div_le_self _ _
  have e1 : (1 : Int32) = nI 1 := rfl
  rw [e1, nI_add]
  exact nI_pos' (by omega)
theorem zfit_skip {N W : Nat → Int32} (hk : zWk N W) (hL : 0 < (zRi N W).length) {q : Nat} (hq : q ≤ 100) : zsk (zTf N W (nI q)).2.2 32 = !zFit (zWn (zRi N W) 32) W (nI ((zRi N W).length / 4)) (nI q) := by
  have hlen := zRi_le N W
  have h4 : 4 ≤ (zRi N W).length := by
    have h8 := zaw_n (N := N) hk.w 8 (Nat.le_refl _)
    rw [zPk_8] at h8
    omega
  have e4 : (0 : Int32) ≤ 0 := by decide
  have hfit : zFit (zWn (zRi N W) 32) W (nI ((zRi N W).length / 4)) (nI q) = true ↔ ∀ d, d < 8 → (zWn (zRi N W) 32 d ≤ zCp N W (nI q) d ∨ zWn (zRi N W) 32 d = 0) := by
    unfold zFit
    rw [zAll_iff]
    constructor
    · intro g d hd
      have := of_decide_eq_true (g d (by omega) (by omega))
      by_cases hN : N d = 1
      · refine Or.inl ?_
        unfold zCp
        rw [if_pos hN]
        exact this
      · exact Or.inr (zWn_z hN hL 32)
    · intro g d _ hd
      refine decide_eq_true ?_
      obtain ⟨w, hw, ew, _⟩ := hk d (by omega)
      rcases g d (by omega) with h | h
      · by_cases hN : N d = 1
        · unfold zCp at h
          rw [if_pos hN] at h
          exact h
        · rw [zWn_z hN hL 32, ew]
          exact zCap_p hw hq (by omega) (by omega)
      · rw [h, ew]
        exact zCap_p hw hq (by omega) (by omega)
  unfold zTf
  rcases zskip (R := zRi N W) (cp := zCp N W (nI q)) hL 32 (Nat.le_refl _) with ⟨h1, _, h3⟩ | ⟨h1, d, hd, h2, h3⟩
  · rw [h1, hfit.mpr h3]; rfl
  · rw [h1]
    cases h : zFit (zWn (zRi N W) 32) W (nI ((zRi N W).length / 4)) (nI q) with
    | false => rfl
    | true =>
      rcases hfit.mp h d hd with g | g
      · exact absurd g h2
      · exact absurd g h3
theorem M_isSkipping (hM : zMO G S) (hk : zWk (sN S) (sW S)) (hPI : zPI G) : ∃ G', zcal zTT jM_isSkipping [.ref 122] (zhp G) = some (some (.int (if zsk (zTf (sN S) (sW S) (sC S 0)).2.2 32 = true then 1 else 0)), zhp G') ∧ zMP G' (zRi (sN S) (sW S)) ∧ zMG G G' := by
  obtain ⟨G1, c1, r1, f1⟩ := M_layTargets hM hk hPI
  refine ⟨G1, ?_, r1.1, f1⟩
  have ht := r1.2.2.2.2
  generalize (zTf (sN S) (sW S) (sC S 0)).2.2 = f at *
  have key : ∀ n i, i + n = 32 → zEv zTT (zco mM_isSkipping) kM_isSkipping_8 [.ref 122, .int (if zsk f i = true then 1 else 0), .int (nI i)] [] (zhp G1) (.inl (some (.int (if zsk f 32 = true then 1 else 0))), zhp G1) := by
    intro n
    induction n with
    | zero =>
      intro i hi
      have hi : i = 32 := by omega
      subst hi
      rw [kM_isSkipping_8]
      cases hz : zsk f 32 <;> simp only [kM_isSkipping_0, kM_isSkipping_28, kM_isSkipping_29, kM_isSkipping_37, zjM_isSkipping_8, zjM_isSkipping_28, zjM_isSkipping_29, zjM_isSkipping_37, ev_iload, ev_aload, ev_istore, ev_astore, ev_iconst, ev_null, ev_iinc, ev_iadd, ev_isub, ev_imul, ev_iand, ev_ior, ev_ixor, ev_ishl, ev_ishr, ev_iushr, ev_idiv, ev_irem, ev_icmp, ev_if, ev_ifnull, ev_ifnullN, ev_goto, ev_dupi, ev_dupr, ev_dup2, ev_pop, ev_getf, ev_puti, ev_putr, ev_iald, ev_cald, ev_aald, ev_iast, ev_cast, ev_alen, ev_tsw, ev_lsw, ev_max, ev_min, ev_obj, ev_cp, ev_throw, ev_iret, ev_aret, ev_aretN, ev_ret, ev_new, ev_newa, ev_anew, ev_is0, ev_is1, ev_is2, ev_is3, ev_is4, ev_iv1, ev_iv2, ev_iv3, ev_iv4, ev_iv5, ev_ip1, ev_ip2, zlg_0, zls_0, zlg_1, zls_1, zlg_2, zls_2, zlg_3, zls_3, zlg_4, zls_4, zlg_5, zls_5, zlg_6, zls_6, zlg_7, zls_7, zlg_8, zls_8, zlg_9, zls_9, zlg_10, zls_10, zlg_11, zls_11, ev_jif, zLI_i, zLR_r, zOV_s, List.length_cons, List.length_nil, zcd, decide_eq_true_eq, true_and, and_true, Option.toList_some, Option.toList_none, List.cons_append, List.nil_append, zrf, if_true, if_false, true_or, or_true, false_or, or_false, and_self, zwr_w, zG_hp, Nat.reduceAdd, Nat.reduceLT, Nat.reduceLeDiff, Nat.zero_le, reduceIte, not_true_eq_false, not_false_eq_true, Prod.mk.injEq, Sum.inl.injEq, Option.some.injEq, Value.int.injEq, Value.ref.injEq, zsw, ev_jif, zB01, Bool.false_eq_true, one_ne, zero_eqone, nI_1, gT0_0, gT0_1, gT0_2, gT0_3, gT0_4, gT0_5, gT0_6, gT0_7, oT0, aT1, aT2, aT3, aT4, aT5, aT6, gT7_0, pgT7_0, gT7_1, gT7_2, pgT7_2, oT7, aT8, gT9_0, pgT9_0, gT9_1, gT9_2, pgT9_2, oT9, aT10, gP0_0, gP0_1, gP0_2, gP0_3, gP0_4, gP0_5, gP0_6, gP0_7, pgP0_7, gP0_8, pgP0_8, oP0, aP1, aP2, aP3, aP4, aP5, aP6, gR0_0, pgR0_0, gR0_1, gR0_2, pgR0_2, oR0, aR1, g0_0, g0_1, g0_2, g0_3, g0_4, g0_5, g0_6, g0_7, pg0_7, g0_8, pg0_8, o0, g34_0, g34_1, pg34_1, g34_2, pg34_2, o34, g102_0, g102_1, pg102_1, g102_2, pg102_2, g102_3, g102_4, g102_5, g102_6, pg102_6, o102, g122_0, g122_1, g122_2, g122_3, pg122_3, g122_4, g122_5, pg122_5, g122_6, pg122_6, g122_7, g122_8, g122_9, pg122_9, g122_10, g122_11, g122_12, g122_13, g122_14, g122_15, g122_16, g122_17, g122_18, pg122_18, g122_19, g122_20, pg122_20, g122_21, pg122_21, g122_22, pg122_22, g122_23, o122, a103, a104, a105, a106, a107, a123, a124, a125, a126, a127, a128, a129, a130, a131, a132, a133, a134, a135, a136, a137, a138, q35, zisT_1, zisT_12, zisT_23, zisT_36, zisT_47, zisT_58, zisT_69, zisT_80, zisT_91, zisP_108, zisP_115, zisR_8, zisR_10, zisR_19, zisR_21, zisR_30, zisR_32, zisR_43, zisR_45, zisR_54, zisR_56, zisR_65, zisR_67, zisR_76, zisR_78, zisR_87, zisR_89, zisR_98, zisR_100, id zisT_1, id zisT_12, id zisT_23, id zisP_108, id zisP_115, id (zisR_T7 zisT_1), id (zisR_T9 zisT_1), zle_t (s := 32) (n := 32) (by omega) (by omega), zlt_f (s := 32) (n := 32) (by omega) (by omega)]
    | succ n ih =>
      intro i hi
      have hi32 : i < 32 := by omega
      have hx := ih (i + 1) (by omega)
      have e := ht i hi32
      rw [zsk] at hx
      have o1 : (1 : Int32) ||| 1 = 1 := by decide
      have o2 : (0 : Int32) ||| 1 = 1 := by decide
      generalize zsk f 32 = r at *
      rw [kM_isSkipping_8]
      by_cases h : f i = 0
      · rw [decide_eq_false (fun hh => hh h), Bool.or_false] at hx
        have h := eq_true h
        simp only [kM_isSkipping_0, kM_isSkipping_28, kM_isSkipping_29, kM_isSkipping_37, zjM_isSkipping_8, zjM_isSkipping_28, zjM_isSkipping_29, zjM_isSkipping_37, ev_iload, ev_aload, ev_istore, ev_astore, ev_iconst, ev_null, ev_iinc, ev_iadd, ev_isub, ev_imul, ev_iand, ev_ior, ev_ixor, ev_ishl, ev_ishr, ev_iushr, ev_idiv, ev_irem, ev_icmp, ev_if, ev_ifnull, ev_ifnullN, ev_goto, ev_dupi, ev_dupr, ev_dup2, ev_pop, ev_getf, ev_puti, ev_putr, ev_iald, ev_cald, ev_aald, ev_iast, ev_cast, ev_alen, ev_tsw, ev_lsw, ev_max, ev_min, ev_obj, ev_cp, ev_throw, ev_iret, ev_aret, ev_aretN, ev_ret, ev_new, ev_newa, ev_anew, ev_is0, ev_is1, ev_is2, ev_is3, ev_is4, ev_iv1, ev_iv2, ev_iv3, ev_iv4, ev_iv5, ev_ip1, ev_ip2, zlg_0, zls_0, zlg_1, zls_1, zlg_2, zls_2, zlg_3, zls_3, zlg_4, zls_4, zlg_5, zls_5, zlg_6, zls_6, zlg_7, zls_7, zlg_8, zls_8, zlg_9, zls_9, zlg_10, zls_10, zlg_11, zls_11, ev_jif, zLI_i, zLR_r, zOV_s, List.length_cons, List.length_nil, zcd, decide_eq_true_eq, true_and, and_true, Option.toList_some, Option.toList_none, List.cons_append, List.nil_append, zrf, if_true, if_false, true_or, or_true, false_or, or_false, and_self, zwr_w, zG_hp, Nat.reduceAdd, Nat.reduceLT, Nat.reduceLeDiff, Nat.zero_le, reduceIte, not_true_eq_false, not_false_eq_true, Prod.mk.injEq, Sum.inl.injEq, Option.some.injEq, Value.int.injEq, Value.ref.injEq, zsw, ev_jif, zB01, Bool.false_eq_true, one_ne, zero_eqone, nI_1, gT0_0, gT0_1, gT0_2, gT0_3, gT0_4, gT0_5, gT0_6, gT0_7, oT0, aT1, aT2, aT3, aT4, aT5, aT6, gT7_0, pgT7_0, gT7_1, gT7_2, pgT7_2, oT7, aT8, gT9_0, pgT9_0, gT9_1, gT9_2, pgT9_2, oT9, aT10, gP0_0, gP0_1, gP0_2, gP0_3, gP0_4, gP0_5, gP0_6, gP0_7, pgP0_7, gP0_8, pgP0_8, oP0, aP1, aP2, aP3, aP4, aP5, aP6, gR0_0, pgR0_0, gR0_1, gR0_2, pgR0_2, oR0, aR1, g0_0, g0_1, g0_2, g0_3, g0_4, g0_5, g0_6, g0_7, pg0_7, g0_8, pg0_8, o0, g34_0, g34_1, pg34_1, g34_2, pg34_2, o34, g102_0, g102_1, pg102_1, g102_2, pg102_2, g102_3, g102_4, g102_5, g102_6, pg102_6, o102, g122_0, g122_1, g122_2, g122_3, pg122_3, g122_4, g122_5, pg122_5, g122_6, pg122_6, g122_7, g122_8, g122_9, pg122_9, g122_10, g122_11, g122_12, g122_13, g122_14, g122_15, g122_16, g122_17, g122_18, pg122_18, g122_19, g122_20, pg122_20, g122_21, pg122_21, g122_22, pg122_22, g122_23, o122, a103, a104, a105, a106, a107, a123, a124, a125, a126, a127, a128, a129, a130, a131, a132, a133, a134, a135, a136, a137, a138, q35, zisT_1, zisT_12, zisT_23, zisT_36, zisT_47, zisT_58, zisT_69, zisT_80, zisT_91, zisP_108, zisP_115, zisR_8, zisR_10, zisR_19, zisR_21, zisR_30, zisR_32, zisR_43, zisR_45, zisR_54, zisR_56, zisR_65, zisR_67, zisR_76, zisR_78, zisR_87, zisR_89, zisR_98, zisR_100, id zisT_1, id zisT_12, id zisT_23, id zisP_108, id zisP_115, id (zisR_T7 zisT_1), id (zisR_T9 zisT_1), zle_f (s := i) (n := 32) (by omega) (by omega), zlt_t (s := i) (n := 32) (by omega) (by omega), zi_n (s := i) (n := 32) (by omega) (by omega), zcl_n (s := i) (by omega), e, h, zor0]
        exact hx
      · rw [decide_eq_true h, Bool.or_true] at hx
        have h := eq_false h
        cases hz : zsk f i with
        | true =>
          simp only [kM_isSkipping_0, kM_isSkipping_28, kM_isSkipping_29, kM_isSkipping_37, zjM_isSkipping_8, zjM_isSkipping_28, zjM_isSkipping_29, zjM_isSkipping_37, ev_iload, ev_aload, ev_istore, ev_astore, ev_iconst, ev_null, ev_iinc, ev_iadd, ev_isub, ev_imul, ev_iand, ev_ior, ev_ixor, ev_ishl, ev_ishr, ev_iushr, ev_idiv, ev_irem, ev_icmp, ev_if, ev_ifnull, ev_ifnullN, ev_goto, ev_dupi, ev_dupr, ev_dup2, ev_pop, ev_getf, ev_puti, ev_putr, ev_iald, ev_cald, ev_aald, ev_iast, ev_cast, ev_alen, ev_tsw, ev_lsw, ev_max, ev_min, ev_obj, ev_cp, ev_throw, ev_iret, ev_aret, ev_aretN, ev_ret, ev_new, ev_newa, ev_anew, ev_is0, ev_is1, ev_is2, ev_is3, ev_is4, ev_iv1, ev_iv2, ev_iv3, ev_iv4, ev_iv5, ev_ip1, ev_ip2, zlg_0, zls_0, zlg_1, zls_1, zlg_2, zls_2, zlg_3, zls_3, zlg_4, zls_4, zlg_5, zls_5, zlg_6, zls_6, zlg_7, zls_7, zlg_8, zls_8, zlg_9, zls_9, zlg_10, zls_10, zlg_11, zls_11, ev_jif, zLI_i, zLR_r, zOV_s, List.length_cons, List.length_nil, zcd, decide_eq_true_eq, true_and, and_true, Option.toList_some, Option.toList_none, List.cons_append, List.nil_append, zrf, if_true, if_false, true_or, or_true, false_or, or_false, and_self, zwr_w, zG_hp, Nat.reduceAdd, Nat.reduceLT, Nat.reduceLeDiff, Nat.zero_le, reduceIte, not_true_eq_false, not_false_eq_true, Prod.mk.injEq, Sum.inl.injEq, Option.some.injEq, Value.int.injEq, Value.ref.injEq, zsw, ev_jif, zB01, Bool.false_eq_true, one_ne, zero_eqone, nI_1, gT0_0, gT0_1, gT0_2, gT0_3, gT0_4, gT0_5, gT0_6, gT0_7, oT0, aT1, aT2, aT3, aT4, aT5, aT6, gT7_0, pgT7_0, gT7_1, gT7_2, pgT7_2, oT7, aT8, gT9_0, pgT9_0, gT9_1, gT9_2, pgT9_2, oT9, aT10, gP0_0, gP0_1, gP0_2, gP0_3, gP0_4, gP0_5, gP0_6, gP0_7, pgP0_7, gP0_8, pgP0_8, oP0, aP1, aP2, aP3, aP4, aP5, aP6, gR0_0, pgR0_0, gR0_1, gR0_2, pgR0_2, oR0, aR1, g0_0, g0_1, g0_2, g0_3, g0_4, g0_5, g0_6, g0_7, pg0_7, g0_8, pg0_8, o0, g34_0, g34_1, pg34_1, g34_2, pg34_2, o34, g102_0, g102_1, pg102_1, g102_2, pg102_2, g102_3, g102_4, g102_5, g102_6, pg102_6, o102, g122_0, g122_1, g122_2, g122_3, pg122_3, g122_4, g122_5, pg122_5, g122_6, pg122_6, g122_7, g122_8, g122_9, pg122_9, g122_10, g122_11, g122_12, g122_13, g122_14, g122_15, g122_16, g122_17, g122_18, pg122_18, g122_19, g122_20, pg122_20, g122_21, pg122_21, g122_22, pg122_22, g122_23, o122, a103, a104, a105, a106, a107, a123, a124, a125, a126, a127, a128, a129, a130, a131, a132, a133, a134, a135, a136, a137, a138, q35, zisT_1, zisT_12, zisT_23, zisT_36, zisT_47, zisT_58, zisT_69, zisT_80, zisT_91, zisP_108, zisP_115, zisR_8, zisR_10, zisR_19, zisR_21, zisR_30, zisR_32, zisR_43, zisR_45, zisR_54, zisR_56, zisR_65, zisR_67, zisR_76, zisR_78, zisR_87, zisR_89, zisR_98, zisR_100, id zisT_1, id zisT_12, id zisT_23, id zisP_108, id zisP_115, id (zisR_T7 zisT_1), id (zisR_T9 zisT_1), zle_f (s := i) (n := 32) (by omega) (by omega), zlt_t (s := i) (n := 32) (by omega) (by omega), zi_n (s := i) (n := 32) (by omega) (by omega), zcl_n (s := i) (by omega), e, h, o1]
          exact hx
        | false =>
          simp only [kM_isSkipping_0, kM_isSkipping_28, kM_isSkipping_29, kM_isSkipping_37, zjM_isSkipping_8, zjM_isSkipping_28, zjM_isSkipping_29, zjM_isSkipping_37, ev_iload, ev_aload, ev_istore, ev_astore, ev_iconst, ev_null, ev_iinc, ev_iadd, ev_isub, ev_imul, ev_iand, ev_ior, ev_ixor, ev_ishl, ev_ishr, ev_iushr, ev_idiv, ev_irem, ev_icmp, ev_if, ev_ifnull, ev_ifnullN, ev_goto, ev_dupi, ev_dupr, ev_dup2, ev_pop, ev_getf, ev_puti, ev_putr, ev_iald, ev_cald, ev_aald, ev_iast, ev_cast, ev_alen, ev_tsw, ev_lsw, ev_max, ev_min, ev_obj, ev_cp, ev_throw, ev_iret, ev_aret, ev_aretN, ev_ret, ev_new, ev_newa, ev_anew, ev_is0, ev_is1, ev_is2, ev_is3, ev_is4, ev_iv1, ev_iv2, ev_iv3, ev_iv4, ev_iv5, ev_ip1, ev_ip2, zlg_0, zls_0, zlg_1, zls_1, zlg_2, zls_2, zlg_3, zls_3, zlg_4, zls_4, zlg_5, zls_5, zlg_6, zls_6, zlg_7, zls_7, zlg_8, zls_8, zlg_9, zls_9, zlg_10, zls_10, zlg_11, zls_11, ev_jif, zLI_i, zLR_r, zOV_s, List.length_cons, List.length_nil, zcd, decide_eq_true_eq, true_and, and_true, Option.toList_some, Option.toList_none, List.cons_append, List.nil_append, zrf, if_true, if_false, true_or, or_true, false_or, or_false, and_self, zwr_w, zG_hp, Nat.reduceAdd, Nat.reduceLT, Nat.reduceLeDiff, Nat.zero_le, reduceIte, not_true_eq_false, not_false_eq_true, Prod.mk.injEq, Sum.inl.injEq, Option.some.injEq, Value.int.injEq, Value.ref.injEq, zsw, ev_jif, zB01, Bool.false_eq_true, one_ne, zero_eqone, nI_1, gT0_0, gT0_1, gT0_2, gT0_3, gT0_4, gT0_5, gT0_6, gT0_7, oT0, aT1, aT2, aT3, aT4, aT5, aT6, gT7_0, pgT7_0, gT7_1, gT7_2, pgT7_2, oT7, aT8, gT9_0, pgT9_0, gT9_1, gT9_2, pgT9_2, oT9, aT10, gP0_0, gP0_1, gP0_2, gP0_3, gP0_4, gP0_5, gP0_6, gP0_7, pgP0_7, gP0_8, pgP0_8, oP0, aP1, aP2, aP3, aP4, aP5, aP6, gR0_0, pgR0_0, gR0_1, gR0_2, pgR0_2, oR0, aR1, g0_0, g0_1, g0_2, g0_3, g0_4, g0_5, g0_6, g0_7, pg0_7, g0_8, pg0_8, o0, g34_0, g34_1, pg34_1, g34_2, pg34_2, o34, g102_0, g102_1, pg102_1, g102_2, pg102_2, g102_3, g102_4, g102_5, g102_6, pg102_6, o102, g122_0, g122_1, g122_2, g122_3, pg122_3, g122_4, g122_5, pg122_5, g122_6, pg122_6, g122_7, g122_8, g122_9, pg122_9, g122_10, g122_11, g122_12, g122_13, g122_14, g122_15, g122_16, g122_17, g122_18, pg122_18, g122_19, g122_20, pg122_20, g122_21, pg122_21, g122_22, pg122_22, g122_23, o122, a103, a104, a105, a106, a107, a123, a124, a125, a126, a127, a128, a129, a130, a131, a132, a133, a134, a135, a136, a137, a138, q35, zisT_1, zisT_12, zisT_23, zisT_36, zisT_47, zisT_58, zisT_69, zisT_80, zisT_91, zisP_108, zisP_115, zisR_8, zisR_10, zisR_19, zisR_21, zisR_30, zisR_32, zisR_43, zisR_45, zisR_54, zisR_56, zisR_65, zisR_67, zisR_76, zisR_78, zisR_87, zisR_89, zisR_98, zisR_100, id zisT_1, id zisT_12, id zisT_23, id zisP_108, id zisP_115, id (zisR_T7 zisT_1), id (zisR_T9 zisT_1), zle_f (s := i) (n := 32) (by omega) (by omega), zlt_t (s := i) (n := 32) (by omega) (by omega), zi_n (s := i) (n := 32) (by omega) (by omega), zcl_n (s := i) (by omega), e, h, o2]
          exact hx
  have k0 := key 32 0 rfl
  have e0 : (if zsk f 0 = true then (1 : Int32) else 0) = 0 := rfl
  rw [e0] at k0
  cases hz : zsk f 32 with
  | true =>
    rw [hz] at k0
    refine zgo zMt_M_isSkipping (show zEv zTT (zco mM_isSkipping) kM_isSkipping_0 [.ref 122, zU, zU] [] _ _ from ?_)
    simp only [kM_isSkipping_0, kM_isSkipping_28, kM_isSkipping_29, kM_isSkipping_37, zjM_isSkipping_8, zjM_isSkipping_28, zjM_isSkipping_29, zjM_isSkipping_37, ev_iload, ev_aload, ev_istore, ev_astore, ev_iconst, ev_null, ev_iinc, ev_iadd, ev_isub, ev_imul, ev_iand, ev_ior, ev_ixor, ev_ishl, ev_ishr, ev_iushr, ev_idiv, ev_irem, ev_icmp, ev_if, ev_ifnull, ev_ifnullN, ev_goto, ev_dupi, ev_dupr, ev_dup2, ev_pop, ev_getf, ev_puti, ev_putr, ev_iald, ev_cald, ev_aald, ev_iast, ev_cast, ev_alen, ev_tsw, ev_lsw, ev_max, ev_min, ev_obj, ev_cp, ev_throw, ev_iret, ev_aret, ev_aretN, ev_ret, ev_new, ev_newa, ev_anew, ev_is0, ev_is1, ev_is2, ev_is3, ev_is4, ev_iv1, ev_iv2, ev_iv3, ev_iv4, ev_iv5, ev_ip1, ev_ip2, zlg_0, zls_0, zlg_1, zls_1, zlg_2, zls_2, zlg_3, zls_3, zlg_4, zls_4, zlg_5, zls_5, zlg_6, zls_6, zlg_7, zls_7, zlg_8, zls_8, zlg_9, zls_9, zlg_10, zls_10, zlg_11, zls_11, ev_jif, zLI_i, zLR_r, zOV_s, List.length_cons, List.length_nil, zcd, decide_eq_true_eq, true_and, and_true, Option.toList_some, Option.toList_none, List.cons_append, List.nil_append, zrf, if_true, if_false, true_or, or_true, false_or, or_false, and_self, zwr_w, zG_hp, Nat.reduceAdd, Nat.reduceLT, Nat.reduceLeDiff, Nat.zero_le, reduceIte, not_true_eq_false, not_false_eq_true, Prod.mk.injEq, Sum.inl.injEq, Option.some.injEq, Value.int.injEq, Value.ref.injEq, zsw, ev_jif, zB01, Bool.false_eq_true, one_ne, zero_eqone, nI_1, gT0_0, gT0_1, gT0_2, gT0_3, gT0_4, gT0_5, gT0_6, gT0_7, oT0, aT1, aT2, aT3, aT4, aT5, aT6, gT7_0, pgT7_0, gT7_1, gT7_2, pgT7_2, oT7, aT8, gT9_0, pgT9_0, gT9_1, gT9_2, pgT9_2, oT9, aT10, gP0_0, gP0_1, gP0_2, gP0_3, gP0_4, gP0_5, gP0_6, gP0_7, pgP0_7, gP0_8, pgP0_8, oP0, aP1, aP2, aP3, aP4, aP5, aP6, gR0_0, pgR0_0, gR0_1, gR0_2, pgR0_2, oR0, aR1, g0_0, g0_1, g0_2, g0_3, g0_4, g0_5, g0_6, g0_7, pg0_7, g0_8, pg0_8, o0, g34_0, g34_1, pg34_1, g34_2, pg34_2, o34, g102_0, g102_1, pg102_1, g102_2, pg102_2, g102_3, g102_4, g102_5, g102_6, pg102_6, o102, g122_0, g122_1, g122_2, g122_3, pg122_3, g122_4, g122_5, pg122_5, g122_6, pg122_6, g122_7, g122_8, g122_9, pg122_9, g122_10, g122_11, g122_12, g122_13, g122_14, g122_15, g122_16, g122_17, g122_18, pg122_18, g122_19, g122_20, pg122_20, g122_21, pg122_21, g122_22, pg122_22, g122_23, o122, a103, a104, a105, a106, a107, a123, a124, a125, a126, a127, a128, a129, a130, a131, a132, a133, a134, a135, a136, a137, a138, q35, zisT_1, zisT_12, zisT_23, zisT_36, zisT_47, zisT_58, zisT_69, zisT_80, zisT_91, zisP_108, zisP_115, zisR_8, zisR_10, zisR_19, zisR_21, zisR_30, zisR_32, zisR_43, zisR_45, zisR_54, zisR_56, zisR_65, zisR_67, zisR_76, zisR_78, zisR_87, zisR_89, zisR_98, zisR_100, id zisT_1, id zisT_12, id zisT_23, id zisP_108, id zisP_115, id (zisR_T7 zisT_1), id (zisR_T9 zisT_1), c1]
    exact k0
  | false =>
    rw [hz] at k0
    refine zgo zMt_M_isSkipping (show zEv zTT (zco mM_isSkipping) kM_isSkipping_0 [.ref 122, zU, zU] [] _ _ from ?_)
    simp only [kM_isSkipping_0, kM_isSkipping_28, kM_isSkipping_29, kM_isSkipping_37, zjM_isSkipping_8, zjM_isSkipping_28, zjM_isSkipping_29, zjM_isSkipping_37, ev_iload, ev_aload, ev_istore, ev_astore, ev_iconst, ev_null, ev_iinc, ev_iadd, ev_isub, ev_imul, ev_iand, ev_ior, ev_ixor, ev_ishl, ev_ishr, ev_iushr, ev_idiv, ev_irem, ev_icmp, ev_if, ev_ifnull, ev_ifnullN, ev_goto, ev_dupi, ev_dupr, ev_dup2, ev_pop, ev_getf, ev_puti, ev_putr, ev_iald, ev_cald, ev_aald, ev_iast, ev_cast, ev_alen, ev_tsw, ev_lsw, ev_max, ev_min, ev_obj, ev_cp, ev_throw, ev_iret, ev_aret, ev_aretN, ev_ret, ev_new, ev_newa, ev_anew, ev_is0, ev_is1, ev_is2, ev_is3, ev_is4, ev_iv1, ev_iv2, ev_iv3, ev_iv4, ev_iv5, ev_ip1, ev_ip2, zlg_0, zls_0, zlg_1, zls_1, zlg_2, zls_2, zlg_3, zls_3, zlg_4, zls_4, zlg_5, zls_5, zlg_6, zls_6, zlg_7, zls_7, zlg_8, zls_8, zlg_9, zls_9, zlg_10, zls_10, zlg_11, zls_11, ev_jif, zLI_i, zLR_r, zOV_s, List.length_cons, List.length_nil, zcd, decide_eq_true_eq, true_and, and_true, Option.toList_some, Option.toList_none, List.cons_append, List.nil_append, zrf, if_true, if_false, true_or, or_true, false_or, or_false, and_self, zwr_w, zG_hp, Nat.reduceAdd, Nat.reduceLT, Nat.reduceLeDiff, Nat.zero_le, reduceIte, not_true_eq_false, not_false_eq_true, Prod.mk.injEq, Sum.inl.injEq, Option.some.injEq, Value.int.injEq, Value.ref.injEq, zsw, ev_jif, zB01, Bool.false_eq_true, one_ne, zero_eqone, nI_1, gT0_0, gT0_1, gT0_2, gT0_3, gT0_4, gT0_5, gT0_6, gT0_7, oT0, aT1, aT2, aT3, aT4, aT5, aT6, gT7_0, pgT7_0, gT7_1, gT7_2, pgT7_2, oT7, aT8, gT9_0, pgT9_0, gT9_1, gT9_2, pgT9_2, oT9, aT10, gP0_0, gP0_1, gP0_2, gP0_3, gP0_4, gP0_5, gP0_6, gP0_7, pgP0_7, gP0_8, pgP0_8, oP0, aP1, aP2, aP3, aP4, aP5, aP6, gR0_0, pgR0_0, gR0_1, gR0_2, pgR0_2, oR0, aR1, g0_0, g0_1, g0_2, g0_3, g0_4, g0_5, g0_6, g0_7, pg0_7, g0_8, pg0_8, o0, g34_0, g34_1, pg34_1, g34_2, pg34_2, o34, g102_0, g102_1, pg102_1, g102_2, pg102_2, g102_3, g102_4, g102_5, g102_6, pg102_6, o102, g122_0, g122_1, g122_2, g122_3, pg122_3, g122_4, g122_5, pg122_5, g122_6, pg122_6, g122_7, g122_8, g122_9, pg122_9, g122_10, g122_11, g122_12, g122_13, g122_14, g122_15, g122_16, g122_17, g122_18, pg122_18, g122_19, g122_20, pg122_20, g122_21, pg122_21, g122_22, pg122_22, g122_23, o122, a103, a104, a105, a106, a107, a123, a124, a125, a126, a127, a128, a129, a130, a131, a132, a133, a134, a135, a136, a137, a138, q35, zisT_1, zisT_12, zisT_23, zisT_36, zisT_47, zisT_58, zisT_69, zisT_80, zisT_91, zisP_108, zisP_115, zisR_8, zisR_10, zisR_19, zisR_21, zisR_30, zisR_32, zisR_43, zisR_45, zisR_54, zisR_56, zisR_65, zisR_67, zisR_76, zisR_78, zisR_87, zisR_89, zisR_98, zisR_100, id zisT_1, id zisT_12, id zisT_23, id zisP_108, id zisP_115, id (zisR_T7 zisT_1), id (zisR_T9 zisT_1), c1]
    exact k0
end ZMSLACK
