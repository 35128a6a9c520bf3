section ZPLACE
variable {G : Nat → Nat → Int32} {p q : Nat}
theorem zSta_n {n : Nat} (h : n < 8) : zSta G p (nI n) = G (p + 1) n := by rw [zSta, zrg_n (by omega) h, zcl_n (by omega)]; rfl
theorem zWei_n {n : Nat} (h : n < 8) : zWei G p (nI n) = G (p + 2) n := by rw [zWei, zrg_n (by omega) h, zcl_n (by omega)]; rfl
theorem zOwn_n {s : Nat} (h : s < 32) : zOwn G p (nI s) = G (p + 3) s := by rw [zOwn, zrg_n (by omega) h, zcl_n (by omega)]; rfl
theorem zLea_n {s : Nat} (h : s < 32) : zLea G p (nI s) = G (p + 4) s := by rw [zLea, zrg_n (by omega) h, zcl_n (by omega)]; rfl
theorem zT_le (hp : zisT p = true) : p + 10 ≤ 101 ∧ 1 ≤ p := by rcases zisT_c hp with rfl | rfl | rfl | rfl | rfl | rfl | rfl | rfl | rfl <;> omega
theorem zP_le (hq : zisP q = true) : 108 ≤ q ∧ q ≤ 115 := by rcases zisP_c hq with rfl | rfl <;> omega
theorem ln107 : zln (zhp G) 107 = some 160 := rfl
theorem lnP {d : Nat} (hq : zisP q = true) (hd : d = 3 ∨ d = 4) : zln (zhp G) (q + d) = some 8 := by
  rcases zisP_c hq with rfl | rfl <;> rcases hd with rfl | rfl <;> rfl
theorem J_fill {a n : Nat} (ha : ∀ G, zar (zhp G) a 0 = some n) (hl : ∀ G, zln (zhp G) a = some n) (hn : n ≤ 4096) (v : Int32) : zcal zTT jJ_fill [.ref a, .int v] (zhp G) = some (none, zhp (va_up G a (fun j => if j < n then v else G a j))) := by
  have key : ∀ k i, i + k = n → zEv zTT (zco mJ_fill) kJ_fill_5 [.ref a, .int v, .int (nI i), .int (nI n)] [] (zhp (va_up G a (fun j => if j < i then v else G a j))) (.inl none, zhp (va_up G a (fun j => if j < n then v else G a j))) := by
    intro k
    induction k with
    | zero =>
      intro i hi
      have hi : i = n := by omega
      subst hi
      rw [kJ_fill_5]
      simp only [kJ_fill_0, kJ_fill_20, zjJ_fill_5, zjJ_fill_20, ev_iload, ev_aload, ev_istore, ev_astore, ev_iconst, ev_null, ev_iinc, ev_iadd, ev_isub, ev_imul, ev_iand, ev_ior, ev_ixor, ev_ishl, ev_ishr, ev_iushr, ev_idiv, ev_irem, ev_icmp, ev_if, ev_ifnull, ev_ifnullN, ev_goto, ev_dupi, ev_dupr, ev_dup2, ev_pop, ev_getf, ev_puti, ev_putr, ev_iald, ev_cald, ev_aald, ev_iast, ev_cast, ev_alen, ev_tsw, ev_lsw, ev_max, ev_min, ev_obj, ev_cp, ev_throw, ev_iret, ev_aret, ev_aretN, ev_ret, ev_new, ev_newa, ev_anew, ev_is0, ev_is1, ev_is2, ev_is3, ev_is4, ev_iv1, ev_iv2, ev_iv3, ev_iv4, ev_iv5, ev_ip1, ev_ip2, zlg_0, zls_0, zlg_1, zls_1, zlg_2, zls_2, zlg_3, zls_3, zlg_4, zls_4, zlg_5, zls_5, zlg_6, zls_6, zlg_7, zls_7, zlg_8, zls_8, zlg_9, zls_9, zlg_10, zls_10, zlg_11, zls_11, ev_jif, zLI_i, zLR_r, zOV_s, List.length_cons, List.length_nil, zcd, decide_eq_true_eq, true_and, and_true, Option.toList_some, Option.toList_none, List.cons_append, List.nil_append, zrf, if_true, if_false, true_or, or_true, false_or, or_false, and_self, zwr_w, zG_hp, Nat.reduceAdd, Nat.reduceLT, Nat.reduceLeDiff, Nat.zero_le, reduceIte, not_true_eq_false, not_false_eq_true, Prod.mk.injEq, Sum.inl.injEq, Option.some.injEq, Value.int.injEq, Value.ref.injEq, zsw, ev_jif, zB01, Bool.false_eq_true, one_ne, zero_eqone, nI_1, zle_t (s := i) (n := i) (by omega) (by omega), zlt_f (s := i) (n := i) (by omega) (by omega)]
    | succ k ih =>
      intro i hi
      have h8 : i < n := by omega
      have h := ih (i + 1) (by omega)
      have e : zw (va_up G a (fun j => if j < i then v else G a j)) a i v = va_up G a (fun j => if j < i + 1 then v else G a j) := by
        funext x j
        by_cases hx : x = a
        · subst hx
          rw [zw_app, va_upe, va_upe, if_pos rfl, if_pos rfl]
          by_cases hj : j = i
          · subst hj; simp
          · rw [if_neg (by simp [hj])]
            by_cases h2 : j < i
            · rw [if_pos h2, if_pos (by omega)]
            · rw [if_neg h2, if_neg (by omega)]
        · rw [zw_app, va_upe, va_upe, if_neg hx, if_neg hx, if_neg (by simp [hx])]
      rw [kJ_fill_5]
      simp only [kJ_fill_0, kJ_fill_20, zjJ_fill_5, zjJ_fill_20, ev_iload, ev_aload, ev_istore, ev_astore, ev_iconst, ev_null, ev_iinc, ev_iadd, ev_isub, ev_imul, ev_iand, ev_ior, ev_ixor, ev_ishl, ev_ishr, ev_iushr, ev_idiv, ev_irem, ev_icmp, ev_if, ev_ifnull, ev_ifnullN, ev_goto, ev_dupi, ev_dupr, ev_dup2, ev_pop, ev_getf, ev_puti, ev_putr, ev_iald, ev_cald, ev_aald, ev_iast, ev_cast, ev_alen, ev_tsw, ev_lsw, ev_max, ev_min, ev_obj, ev_cp, ev_throw, ev_iret, ev_aret, ev_aretN, ev_ret, ev_new, ev_newa, ev_anew, ev_is0, ev_is1, ev_is2, ev_is3, ev_is4, ev_iv1, ev_iv2, ev_iv3, ev_iv4, ev_iv5, ev_ip1, ev_ip2, zlg_0, zls_0, zlg_1, zls_1, zlg_2, zls_2, zlg_3, zls_3, zlg_4, zls_4, zlg_5, zls_5, zlg_6, zls_6, zlg_7, zls_7, zlg_8, zls_8, zlg_9, zls_9, zlg_10, zls_10, zlg_11, zls_11, ev_jif, zLI_i, zLR_r, zOV_s, List.length_cons, List.length_nil, zcd, decide_eq_true_eq, true_and, and_true, Option.toList_some, Option.toList_none, List.cons_append, List.nil_append, zrf, if_true, if_false, true_or, or_true, false_or, or_false, and_self, zwr_w, zG_hp, Nat.reduceAdd, Nat.reduceLT, Nat.reduceLeDiff, Nat.zero_le, reduceIte, not_true_eq_false, not_false_eq_true, Prod.mk.injEq, Sum.inl.injEq, Option.some.injEq, Value.int.injEq, Value.ref.injEq, zsw, ev_jif, zB01, Bool.false_eq_true, one_ne, zero_eqone, nI_1, zle_f (s := i) (n := n) (by omega) (by omega), zlt_t (s := i) (n := n) (by omega) (by omega), ha, zi_n (s := i) (n := n) (by omega) (by omega), zcl_n (s := i) (by omega), e]
      exact h
  have e0 : va_up G a (fun j => if j < 0 then v else G a j) = G := by
    have : (fun j => if j < 0 then v else G a j) = G a := by funext j; simp
    rw [this, zup_self]
  have h := key n 0 (by omega)
  rw [e0] at h
  refine zgo zMt_J_fill (show zEv zTT (zco mJ_fill) kJ_fill_0 [.ref a, .int v, zU, zU] [] _ _ from ?_)
  simp only [kJ_fill_0, kJ_fill_20, zjJ_fill_5, zjJ_fill_20, ev_iload, ev_aload, ev_istore, ev_astore, ev_iconst, ev_null, ev_iinc, ev_iadd, ev_isub, ev_imul, ev_iand, ev_ior, ev_ixor, ev_ishl, ev_ishr, ev_iushr, ev_idiv, ev_irem, ev_icmp, ev_if, ev_ifnull, ev_ifnullN, ev_goto, ev_dupi, ev_dupr, ev_dup2, ev_pop, ev_getf, ev_puti, ev_putr, ev_iald, ev_cald, ev_aald, ev_iast, ev_cast, ev_alen, ev_tsw, ev_lsw, ev_max, ev_min, ev_obj, ev_cp, ev_throw, ev_iret, ev_aret, ev_aretN, ev_ret, ev_new, ev_newa, ev_anew, ev_is0, ev_is1, ev_is2, ev_is3, ev_is4, ev_iv1, ev_iv2, ev_iv3, ev_iv4, ev_iv5, ev_ip1, ev_ip2, zlg_0, zls_0, zlg_1, zls_1, zlg_2, zls_2, zlg_3, zls_3, zlg_4, zls_4, zlg_5, zls_5, zlg_6, zls_6, zlg_7, zls_7, zlg_8, zls_8, zlg_9, zls_9, zlg_10, zls_10, zlg_11, zls_11, ev_jif, zLI_i, zLR_r, zOV_s, List.length_cons, List.length_nil, zcd, decide_eq_true_eq, true_and, and_true, Option.toList_some, Option.toList_none, List.cons_append, List.nil_append, zrf, if_true, if_false, true_or, or_true, false_or, or_false, and_self, zwr_w, zG_hp, Nat.reduceAdd, Nat.reduceLT, Nat.reduceLeDiff, Nat.zero_le, reduceIte, not_true_eq_false, not_false_eq_true, Prod.mk.injEq, Sum.inl.injEq, Option.some.injEq, Value.int.injEq, Value.ref.injEq, zsw, ev_jif, zB01, Bool.false_eq_true, one_ne, zero_eqone, nI_1, hl]
  exact h
/-- the sorted points of all nodes lie where the constructor put them -/
def zOrd (G : Nat → Nat → Int32) : Prop := ∀ i, i < 160 → G 107 i = nI (zOl.getD i 0)
/-- a placement's ring -/
def zPR (G : Nat → Nat → Int32) (q : Nat) (R : List Nat) : Prop := G q 8 = nI R.length ∧ R.length ≤ 160 ∧ (∀ i, i < R.length → G (q + 1) i = nI (R.getD i 0)) ∧ ∀ c, c ∈ R → c ∈ zOl
theorem zgdN (l : List Nat) (x : Nat) (i : Nat) : (l ++ [x]).getD i 0 = if i < l.length then l.getD i 0 else if i = l.length then x else 0 := by
  simp only [List.getD_eq_getElem?_getD]
  by_cases h : i < l.length
  · rw [List.getElem?_append_left h, if_pos h]
  · rw [List.getElem?_append_right (by omega), if_neg h]
    by_cases h2 : i = l.length
    · subst h2; simp
    · rw [if_neg h2, List.getElem?_eq_none (by simp; omega)]; rfl
theorem zgd_in {l : List Nat} {i : Nat} (h : i < l.length) : l.getD i 0 ∈ l := by
  rw [List.getD_eq_getElem?_getD, List.getElem?_eq_getElem h]
  exact List.getElem_mem h
theorem P_layRing (hq : zisP q = true) (hp : zisT p = true) (hO : zOrd G) : ∃ G', zcal zTT jP_layRing [.ref q, .ref p] (zhp G) = some (none, zhp G') ∧ zPR G' q (zRi (G (p + 1)) (G (p + 2))) ∧ ∀ a, a ≠ q → a ≠ q + 1 → G' a = G a := by
  have hpl := zT_le hp
  have hql := zP_le hq
  have hA : q ≠ q + 1 := by omega
  have hB : q + 1 ≠ q := by omega
  have key : ∀ n i (G1 : Nat → Nat → Int32), i + n = 160 → zPR G1 q ((zOl.take i).filter (zKe (G (p + 1)) (G (p + 2)))) → (∀ a, a ≠ q → a ≠ q + 1 → G1 a = G a) → ∀ v3 v4, ∃ G', zEv zTT (zco mP_layRing) kP_layRing_7 [.ref q, .ref p, .int (nI i), v3, v4] [] (zhp G1) (.inl none, zhp G') ∧ zPR G' q (zRi (G (p + 1)) (G (p + 2))) ∧ ∀ a, a ≠ q → a ≠ q + 1 → G' a = G a := by
    intro n
    induction n with
    | zero =>
      intro i G1 hi hR hF v3 v4
      have hi : i = 160 := by omega
      subst hi
      refine ⟨G1, ?_, ?_, hF⟩
      · rw [kP_layRing_7]
        simp only [kP_layRing_0, kP_layRing_91, kP_layRing_97, zjP_layRing_7, zjP_layRing_91, zjP_layRing_97, ev_iload, ev_aload, ev_istore, ev_astore, ev_iconst, ev_null, ev_iinc, ev_iadd, ev_isub, ev_imul, ev_iand, ev_ior, ev_ixor, ev_ishl, ev_ishr, ev_iushr, ev_idiv, ev_irem, ev_icmp, ev_if, ev_ifnull, ev_ifnullN, ev_goto, ev_dupi, ev_dupr, ev_dup2, ev_pop, ev_getf, ev_puti, ev_putr, ev_iald, ev_cald, ev_aald, ev_iast, ev_cast, ev_alen, ev_tsw, ev_lsw, ev_max, ev_min, ev_obj, ev_cp, ev_throw, ev_iret, ev_aret, ev_aretN, ev_ret, ev_new, ev_newa, ev_anew, ev_is0, ev_is1, ev_is2, ev_is3, ev_is4, ev_iv1, ev_iv2, ev_iv3, ev_iv4, ev_iv5, ev_ip1, ev_ip2, zlg_0, zls_0, zlg_1, zls_1, zlg_2, zls_2, zlg_3, zls_3, zlg_4, zls_4, zlg_5, zls_5, zlg_6, zls_6, zlg_7, zls_7, zlg_8, zls_8, zlg_9, zls_9, zlg_10, zls_10, zlg_11, zls_11, ev_jif, zLI_i, zLR_r, zOV_s, List.length_cons, List.length_nil, zcd, decide_eq_true_eq, true_and, and_true, Option.toList_some, Option.toList_none, List.cons_append, List.nil_append, zrf, if_true, if_false, true_or, or_true, false_or, or_false, and_self, zwr_w, zG_hp, Nat.reduceAdd, Nat.reduceLT, Nat.reduceLeDiff, Nat.zero_le, reduceIte, not_true_eq_false, not_false_eq_true, Prod.mk.injEq, Sum.inl.injEq, Option.some.injEq, Value.int.injEq, Value.ref.injEq, zsw, ev_jif, zB01, Bool.false_eq_true, one_ne, zero_eqone, nI_1, zle_t (s := 160) (n := 160) (by omega) (by omega), zlt_f (s := 160) (n := 160) (by omega) (by omega)]
      · rw [List.take_of_length_le (by rw [zOl_len]; omega)] at hR
        exact hR
    | succ n ih =>
      intro i G1 hi hR hF v3 v4
      have hi1 : i < 160 := by omega
      have hc : zOl.getD i 0 ∈ zOl := zgd_in (by rw [zOl_len]; exact hi1)
      have hz := zOl_at hc
      have hz2 := hz.2.1
      have e107 : G1 107 i = nI (zOl.getD i 0) := by rw [hF 107 (by omega) (by omega)]; exact hO i hi1
      have etk : zOl.take (i + 1) = zOl.take i ++ [zOl.getD i 0] := by
        rw [List.take_add_one, List.getD_eq_getElem?_getD, List.getElem?_eq_getElem (by rw [zOl_len]; exact hi1)]; rfl
      generalize hcg : zOl.getD i 0 = c at *
      generalize hRg : (zOl.take i).filter (zKe (G (p + 1)) (G (p + 2))) = R at *
      have hRl : R.length ≤ i := by
        rw [← hRg]
        exact Nat.le_trans (List.length_filter_le _ _) (by rw [List.length_take]; omega)
      have e1 : G1 (p + 1) = G (p + 1) := hF _ (by omega) (by omega)
      have e2 : G1 (p + 2) = G (p + 2) := hF _ (by omega) (by omega)
      have hn8 : c / 32 % 8 < 8 := Nat.mod_lt _ (by omega)
      by_cases hk : zKe (G (p + 1)) (G (p + 2)) c = true
      · have hk2 := hk
        simp only [zKe, Bool.and_eq_true, decide_eq_true_eq] at hk2
        have hR' : zPR (zw (zw G1 (q + 1) R.length (nI c)) q 8 (nI (R.length + 1))) q ((zOl.take (i + 1)).filter (zKe (G (p + 1)) (G (p + 2)))) := by
          rw [etk, List.filter_append, hRg, List.filter_cons, if_pos hk, List.filter_nil]
          refine ⟨by rw [zw_eq, List.length_append]; rfl, by rw [List.length_append, List.length_singleton]; omega, fun j hj => ?_, fun c' hc' => ?_⟩
          · rw [List.length_append, List.length_singleton] at hj
            rw [zgdN, zw_ne _ (Or.inl hB)]
            by_cases hj2 : j < R.length
            · rw [if_pos hj2, zw_ne _ (Or.inr (by omega))]
              exact hR.2.2.1 j hj2
            · have : j = R.length := by omega
              subst this
              rw [if_neg hj2, if_pos rfl, zw_eq]
          · rcases List.mem_append.mp hc' with h | h
            · exact hR.2.2.2 c' h
            · rw [List.mem_singleton.mp h]; exact hc
        obtain ⟨G', h1, h2, h3⟩ := ih (i + 1) _ (by omega) hR' (fun a ha hb => by rw [zw_oth _ ha, zw_oth _ hb]; exact hF a ha hb) (.int (nI c)) (.int (nI (c / 32 % 8)))
        refine ⟨G', ?_, h2, h3⟩
        rw [kP_layRing_7]
        have e3 : ¬ nI 4 * G (p + 2) (c / 32 % 8) ≤ nI (c % 32) := Int32.not_le.mpr hk2.2
        simp only [kP_layRing_0, kP_layRing_91, kP_layRing_97, zjP_layRing_7, zjP_layRing_91, zjP_layRing_97, ev_iload, ev_aload, ev_istore, ev_astore, ev_iconst, ev_null, ev_iinc, ev_iadd, ev_isub, ev_imul, ev_iand, ev_ior, ev_ixor, ev_ishl, ev_ishr, ev_iushr, ev_idiv, ev_irem, ev_icmp, ev_if, ev_ifnull, ev_ifnullN, ev_goto, ev_dupi, ev_dupr, ev_dup2, ev_pop, ev_getf, ev_puti, ev_putr, ev_iald, ev_cald, ev_aald, ev_iast, ev_cast, ev_alen, ev_tsw, ev_lsw, ev_max, ev_min, ev_obj, ev_cp, ev_throw, ev_iret, ev_aret, ev_aretN, ev_ret, ev_new, ev_newa, ev_anew, ev_is0, ev_is1, ev_is2, ev_is3, ev_is4, ev_iv1, ev_iv2, ev_iv3, ev_iv4, ev_iv5, ev_ip1, ev_ip2, zlg_0, zls_0, zlg_1, zls_1, zlg_2, zls_2, zlg_3, zls_3, zlg_4, zls_4, zlg_5, zls_5, zlg_6, zls_6, zlg_7, zls_7, zlg_8, zls_8, zlg_9, zls_9, zlg_10, zls_10, zlg_11, zls_11, ev_jif, zLI_i, zLR_r, zOV_s, List.length_cons, List.length_nil, zcd, decide_eq_true_eq, true_and, and_true, Option.toList_some, Option.toList_none, List.cons_append, List.nil_append, zrf, if_true, if_false, true_or, or_true, false_or, or_false, and_self, zwr_w, zG_hp, Nat.reduceAdd, Nat.reduceLT, Nat.reduceLeDiff, Nat.zero_le, reduceIte, not_true_eq_false, not_false_eq_true, Prod.mk.injEq, Sum.inl.injEq, Option.some.injEq, Value.int.injEq, Value.ref.injEq, zsw, ev_jif, zB01, Bool.false_eq_true, one_ne, zero_eqone, nI_1, gT0_0, gT0_1, gT0_2, gT0_3, gT0_4, gT0_5, gT0_6, gT0_7, oT0, aT1, aT2, aT3, aT4, aT5, aT6, gT7_0, pgT7_0, gT7_1, gT7_2, pgT7_2, oT7, aT8, gT9_0, pgT9_0, gT9_1, gT9_2, pgT9_2, oT9, aT10, gP0_0, gP0_1, gP0_2, gP0_3, gP0_4, gP0_5, gP0_6, gP0_7, pgP0_7, gP0_8, pgP0_8, oP0, aP1, aP2, aP3, aP4, aP5, aP6, gR0_0, pgR0_0, gR0_1, gR0_2, pgR0_2, oR0, aR1, g0_0, g0_1, g0_2, g0_3, g0_4, g0_5, g0_6, g0_7, pg0_7, g0_8, pg0_8, o0, g34_0, g34_1, pg34_1, g34_2, pg34_2, o34, g102_0, g102_1, pg102_1, g102_2, pg102_2, g102_3, g102_4, g102_5, g102_6, pg102_6, o102, g122_0, g122_1, g122_2, g122_3, pg122_3, g122_4, g122_5, pg122_5, g122_6, pg122_6, g122_7, g122_8, g122_9, pg122_9, g122_10, g122_11, g122_12, g122_13, g122_14, g122_15, g122_16, g122_17, g122_18, pg122_18, g122_19, g122_20, pg122_20, g122_21, pg122_21, g122_22, pg122_22, g122_23, o122, a103, a104, a105, a106, a107, a123, a124, a125, a126, a127, a128, a129, a130, a131, a132, a133, a134, a135, a136, a137, a138, q35, zisT_1, zisT_12, zisT_23, zisT_36, zisT_47, zisT_58, zisT_69, zisT_80, zisT_91, zisP_108, zisP_115, zisR_8, zisR_10, zisR_19, zisR_21, zisR_30, zisR_32, zisR_43, zisR_45, zisR_54, zisR_56, zisR_65, zisR_67, zisR_76, zisR_78, zisR_87, zisR_89, zisR_98, zisR_100, hq, hp, zle_f (s := i) (n := 160) (by omega) (by omega), zlt_t (s := i) (n := 160) (by omega) (by omega), ln107, zi_n (s := i) (n := 160) (by omega) (by omega), zcl_n (s := i) (by omega), e107, C_nodeOfPoint, C_numberOfPoint, hz.2.2.2.1, hz.2.2.2.2.1, hR.1, zle_f (s := R.length) (n := 160) (by omega) (by omega), zlt_t (s := R.length) (n := 160) (by omega) (by omega), T_stateOf, T_weightOf, zSta_n hn8, zWei_n hn8, e1, e2, hk2.1, e3, zi_n (s := R.length) (n := 160) (by omega) (by omega), zcl_n (s := R.length) (by omega), zw_ne _ (Or.inl hA)]
        exact h1
      · have hR' : zPR G1 q ((zOl.take (i + 1)).filter (zKe (G (p + 1)) (G (p + 2)))) := by
          rw [etk, List.filter_append, hRg, List.filter_cons, if_neg hk, List.filter_nil, List.append_nil]
          exact hR
        obtain ⟨G', h1, h2, h3⟩ := ih (i + 1) G1 (by omega) hR' hF (.int (nI c)) (.int (nI (c / 32 % 8)))
        refine ⟨G', ?_, h2, h3⟩
        rw [kP_layRing_7]
        simp only [kP_layRing_0, kP_layRing_91, kP_layRing_97, zjP_layRing_7, zjP_layRing_91, zjP_layRing_97, ev_iload, ev_aload, ev_istore, ev_astore, ev_iconst, ev_null, ev_iinc, ev_iadd, ev_isub, ev_imul, ev_iand, ev_ior, ev_ixor, ev_ishl, ev_ishr, ev_iushr, ev_idiv, ev_irem, ev_icmp, ev_if, ev_ifnull, ev_ifnullN, ev_goto, ev_dupi, ev_dupr, ev_dup2, ev_pop, ev_getf, ev_puti, ev_putr, ev_iald, ev_cald, ev_aald, ev_iast, ev_cast, ev_alen, ev_tsw, ev_lsw, ev_max, ev_min, ev_obj, ev_cp, ev_throw, ev_iret, ev_aret, ev_aretN, ev_ret, ev_new, ev_newa, ev_anew, ev_is0, ev_is1, ev_is2, ev_is3, ev_is4, ev_iv1, ev_iv2, ev_iv3, ev_iv4, ev_iv5, ev_ip1, ev_ip2, zlg_0, zls_0, zlg_1, zls_1, zlg_2, zls_2, zlg_3, zls_3, zlg_4, zls_4, zlg_5, zls_5, zlg_6, zls_6, zlg_7, zls_7, zlg_8, zls_8, zlg_9, zls_9, zlg_10, zls_10, zlg_11, zls_11, ev_jif, zLI_i, zLR_r, zOV_s, List.length_cons, List.length_nil, zcd, decide_eq_true_eq, true_and, and_true, Option.toList_some, Option.toList_none, List.cons_append, List.nil_append, zrf, if_true, if_false, true_or, or_true, false_or, or_false, and_self, zwr_w, zG_hp, Nat.reduceAdd, Nat.reduceLT, Nat.reduceLeDiff, Nat.zero_le, reduceIte, not_true_eq_false, not_false_eq_true, Prod.mk.injEq, Sum.inl.injEq, Option.some.injEq, Value.int.injEq, Value.ref.injEq, zsw, ev_jif, zB01, Bool.false_eq_true, one_ne, zero_eqone, nI_1, gT0_0, gT0_1, gT0_2, gT0_3, gT0_4, gT0_5, gT0_6, gT0_7, oT0, aT1, aT2, aT3, aT4, aT5, aT6, gT7_0, pgT7_0, gT7_1, gT7_2, pgT7_2, oT7, aT8, gT9_0, pgT9_0, gT9_1, gT9_2, pgT9_2, oT9, aT10, gP0_0, gP0_1, gP0_2, gP0_3, gP0_4, gP0_5, gP0_6, gP0_7, pgP0_7, gP0_8, pgP0_8, oP0, aP1, aP2, aP3, aP4, aP5, aP6, gR0_0, pgR0_0, gR0_1, gR0_2, pgR0_2, oR0, aR1, g0_0, g0_1, g0_2, g0_3, g0_4, g0_5, g0_6, g0_7, pg0_7, g0_8, pg0_8, o0, g34_0, g34_1, pg34_1, g34_2, pg34_2, o34, g102_0, g102_1, pg102_1, g102_2, pg102_2, g102_3, g102_4, g102_5, g102_6, pg102_6, o102, g122_0, g122_1, g122_2, g122_3, pg122_3, g122_4, g122_5, pg122_5, g122_6, pg122_6, g122_7, g122_8, g122_9, pg122_9, g122_10, g122_11, g122_12, g122_13, g122_14, g122_15, g122_16, g122_17, g122_18, pg122_18, g122_19, g122_20, pg122_20, g122_21, pg122_21, g122_22, pg122_22, g122_23, o122, a103, a104, a105, a106, a107, a123, a124, a125, a126, a127, a128, a129, a130, a131, a132, a133, a134, a135, a136, a137, a138, q35, zisT_1, zisT_12, zisT_23, zisT_36, zisT_47, zisT_58, zisT_69, zisT_80, zisT_91, zisP_108, zisP_115, zisR_8, zisR_10, zisR_19, zisR_21, zisR_30, zisR_32, zisR_43, zisR_45, zisR_54, zisR_56, zisR_65, zisR_67, zisR_76, zisR_78, zisR_87, zisR_89, zisR_98, zisR_100, hq, hp, zle_f (s := i) (n := 160) (by omega) (by omega), zlt_t (s := i) (n := 160) (by omega) (by omega), ln107, zi_n (s := i) (n := 160) (by omega) (by omega), zcl_n (s := i) (by omega), e107, C_nodeOfPoint, C_numberOfPoint, hz.2.2.2.1, hz.2.2.2.2.1, hR.1, zle_f (s := R.length) (n := 160) (by omega) (by omega), zlt_t (s := R.length) (n := 160) (by omega) (by omega), T_stateOf, T_weightOf, zSta_n hn8, zWei_n hn8, e1, e2]
        by_cases h5 : G (p + 1) (c / 32 % 8) = 1
        · have h6 : nI 4 * G (p + 2) (c / 32 % 8) ≤ nI (c % 32) := by
            apply Int32.not_lt.mp
            intro q
            exact hk (by simp [zKe, h5, q])
          simp only [h5, h6, not_true_eq_false, if_false, if_true]
          exact h1
        · simp only [h5, not_false_eq_true, if_true]
          exact h1
  have h0 : zPR (zw G q 8 0) q ((zOl.take 0).filter (zKe (G (p + 1)) (G (p + 2)))) := by
    refine ⟨by rw [zw_eq]; rfl, by simp, fun i hi => absurd hi (by simp), fun c hc => absurd hc (by simp)⟩
  obtain ⟨G', h1, h2, h3⟩ := key 160 0 (zw G q 8 0) rfl h0 (fun a ha _ => zw_oth _ ha) zU zU
  refine ⟨G', ?_, h2, h3⟩
  refine zgo zMt_P_layRing (show zEv zTT (zco mP_layRing) kP_layRing_0 [.ref q, .ref p, zU, zU, zU] [] _ _ from ?_)
  simp only [kP_layRing_0, kP_layRing_91, kP_layRing_97, zjP_layRing_7, zjP_layRing_91, zjP_layRing_97, ev_iload, ev_aload, ev_istore, ev_astore, ev_iconst, ev_null, ev_iinc, ev_iadd, ev_isub, ev_imul, ev_iand, ev_ior, ev_ixor, ev_ishl, ev_ishr, ev_iushr, ev_idiv, ev_irem, ev_icmp, ev_if, ev_ifnull, ev_ifnullN, ev_goto, ev_dupi, ev_dupr, ev_dup2, ev_pop, ev_getf, ev_puti, ev_putr, ev_iald, ev_cald, ev_aald, ev_iast, ev_cast, ev_alen, ev_tsw, ev_lsw, ev_max, ev_min, ev_obj, ev_cp, ev_throw, ev_iret, ev_aret, ev_aretN, ev_ret, ev_new, ev_newa, ev_anew, ev_is0, ev_is1, ev_is2, ev_is3, ev_is4, ev_iv1, ev_iv2, ev_iv3, ev_iv4, ev_iv5, ev_ip1, ev_ip2, zlg_0, zls_0, zlg_1, zls_1, zlg_2, zls_2, zlg_3, zls_3, zlg_4, zls_4, zlg_5, zls_5, zlg_6, zls_6, zlg_7, zls_7, zlg_8, zls_8, zlg_9, zls_9, zlg_10, zls_10, zlg_11, zls_11, ev_jif, zLI_i, zLR_r, zOV_s, List.length_cons, List.length_nil, zcd, decide_eq_true_eq, true_and, and_true, Option.toList_some, Option.toList_none, List.cons_append, List.nil_append, zrf, if_true, if_false, true_or, or_true, false_or, or_false, and_self, zwr_w, zG_hp, Nat.reduceAdd, Nat.reduceLT, Nat.reduceLeDiff, Nat.zero_le, reduceIte, not_true_eq_false, not_false_eq_true, Prod.mk.injEq, Sum.inl.injEq, Option.some.injEq, Value.int.injEq, Value.ref.injEq, zsw, ev_jif, zB01, Bool.false_eq_true, one_ne, zero_eqone, nI_1, gT0_0, gT0_1, gT0_2, gT0_3, gT0_4, gT0_5, gT0_6, gT0_7, oT0, aT1, aT2, aT3, aT4, aT5, aT6, gT7_0, pgT7_0, gT7_1, gT7_2, pgT7_2, oT7, aT8, gT9_0, pgT9_0, gT9_1, gT9_2, pgT9_2, oT9, aT10, gP0_0, gP0_1, gP0_2, gP0_3, gP0_4, gP0_5, gP0_6, gP0_7, pgP0_7, gP0_8, pgP0_8, oP0, aP1, aP2, aP3, aP4, aP5, aP6, gR0_0, pgR0_0, gR0_1, gR0_2, pgR0_2, oR0, aR1, g0_0, g0_1, g0_2, g0_3, g0_4, g0_5, g0_6, g0_7, pg0_7, g0_8, pg0_8, o0, g34_0, g34_1, pg34_1, g34_2, pg34_2, o34, g102_0, g102_1, pg102_1, g102_2, pg102_2, g102_3, g102_4, g102_5, g102_6, pg102_6, o102, g122_0, g122_1, g122_2, g122_3, pg122_3, g122_4, g122_5, pg122_5, g122_6, pg122_6, g122_7, g122_8, g122_9, pg122_9, g122_10, g122_11, g122_12, g122_13, g122_14, g122_15, g122_16, g122_17, g122_18, pg122_18, g122_19, g122_20, pg122_20, g122_21, pg122_21, g122_22, pg122_22, g122_23, o122, a103, a104, a105, a106, a107, a123, a124, a125, a126, a127, a128, a129, a130, a131, a132, a133, a134, a135, a136, a137, a138, q35, zisT_1, zisT_12, zisT_23, zisT_36, zisT_47, zisT_58, zisT_69, zisT_80, zisT_91, zisP_108, zisP_115, zisR_8, zisR_10, zisR_19, zisR_21, zisR_30, zisR_32, zisR_43, zisR_45, zisR_54, zisR_56, zisR_65, zisR_67, zisR_76, zisR_78, zisR_87, zisR_89, zisR_98, zisR_100, hq]
  exact h1
theorem P_pointCode (hq : zisP q = true) {R : List Nat} (hR : zPR G q R) {i : Nat} (hi : i < R.length) : zcal zTT jP_pointCode [.ref q, .int (nI i)] (zhp G) = some (some (.int (nI (R.getD i 0))), zhp G) := by
  have hl := hR.2.1
  refine zgo zMt_P_pointCode (show zEv zTT (zco mP_pointCode) kP_pointCode_0 [.ref q, .int (nI i)] [] _ _ from ?_)
  simp only [kP_pointCode_0, kP_pointCode_21, kP_pointCode_22, zjP_pointCode_21, zjP_pointCode_22, ev_iload, ev_aload, ev_istore, ev_astore, ev_iconst, ev_null, ev_iinc, ev_iadd, ev_isub, ev_imul, ev_iand, ev_ior, ev_ixor, ev_ishl, ev_ishr, ev_iushr, ev_idiv, ev_irem, ev_icmp, ev_if, ev_ifnull, ev_ifnullN, ev_goto, ev_dupi, ev_dupr, ev_dup2, ev_pop, ev_getf, ev_puti, ev_putr, ev_iald, ev_cald, ev_aald, ev_iast, ev_cast, ev_alen, ev_tsw, ev_lsw, ev_max, ev_min, ev_obj, ev_cp, ev_throw, ev_iret, ev_aret, ev_aretN, ev_ret, ev_new, ev_newa, ev_anew, ev_is0, ev_is1, ev_is2, ev_is3, ev_is4, ev_iv1, ev_iv2, ev_iv3, ev_iv4, ev_iv5, ev_ip1, ev_ip2, zlg_0, zls_0, zlg_1, zls_1, zlg_2, zls_2, zlg_3, zls_3, zlg_4, zls_4, zlg_5, zls_5, zlg_6, zls_6, zlg_7, zls_7, zlg_8, zls_8, zlg_9, zls_9, zlg_10, zls_10, zlg_11, zls_11, ev_jif, zLI_i, zLR_r, zOV_s, List.length_cons, List.length_nil, zcd, decide_eq_true_eq, true_and, and_true, Option.toList_some, Option.toList_none, List.cons_append, List.nil_append, zrf, if_true, if_false, true_or, or_true, false_or, or_false, and_self, zwr_w, zG_hp, Nat.reduceAdd, Nat.reduceLT, Nat.reduceLeDiff, Nat.zero_le, reduceIte, not_true_eq_false, not_false_eq_true, Prod.mk.injEq, Sum.inl.injEq, Option.some.injEq, Value.int.injEq, Value.ref.injEq, zsw, ev_jif, zB01, Bool.false_eq_true, one_ne, zero_eqone, nI_1, gT0_0, gT0_1, gT0_2, gT0_3, gT0_4, gT0_5, gT0_6, gT0_7, oT0, aT1, aT2, aT3, aT4, aT5, aT6, gT7_0, pgT7_0, gT7_1, gT7_2, pgT7_2, oT7, aT8, gT9_0, pgT9_0, gT9_1, gT9_2, pgT9_2, oT9, aT10, gP0_0, gP0_1, gP0_2, gP0_3, gP0_4, gP0_5, gP0_6, gP0_7, pgP0_7, gP0_8, pgP0_8, oP0, aP1, aP2, aP3, aP4, aP5, aP6, gR0_0, pgR0_0, gR0_1, gR0_2, pgR0_2, oR0, aR1, g0_0, g0_1, g0_2, g0_3, g0_4, g0_5, g0_6, g0_7, pg0_7, g0_8, pg0_8, o0, g34_0, g34_1, pg34_1, g34_2, pg34_2, o34, g102_0, g102_1, pg102_1, g102_2, pg102_2, g102_3, g102_4, g102_5, g102_6, pg102_6, o102, g122_0, g122_1, g122_2, g122_3, pg122_3, g122_4, g122_5, pg122_5, g122_6, pg122_6, g122_7, g122_8, g122_9, pg122_9, g122_10, g122_11, g122_12, g122_13, g122_14, g122_15, g122_16, g122_17, g122_18, pg122_18, g122_19, g122_20, pg122_20, g122_21, pg122_21, g122_22, pg122_22, g122_23, o122, a103, a104, a105, a106, a107, a123, a124, a125, a126, a127, a128, a129, a130, a131, a132, a133, a134, a135, a136, a137, a138, q35, zisT_1, zisT_12, zisT_23, zisT_36, zisT_47, zisT_58, zisT_69, zisT_80, zisT_91, zisP_108, zisP_115, zisR_8, zisR_10, zisR_19, zisR_21, zisR_30, zisR_32, zisR_43, zisR_45, zisR_54, zisR_56, zisR_65, zisR_67, zisR_76, zisR_78, zisR_87, zisR_89, zisR_98, zisR_100, hq, hR.1, zlt_0 (s := i) (by omega), znn (s := i) (by omega), zle_f (s := i) (n := R.length) (by omega) (by omega), zlt_t (s := i) (n := R.length) (by omega) (by omega), zi_n (s := i) (n := 160) (by omega) (by omega), zcl_n (s := i) (by omega), hR.2.2.1 i hi]
theorem zdiv {a b : Nat} (ha : a < 2 ^ 31) (h0 : 0 < b) (hb : b < 2 ^ 31) : nI a / nI b = nI (a / b) := pk_div ha h0 hb
theorem n2 : (nI 2 = 0) = False := by decide
theorem n4 : (nI 4 = 0) = False := by decide
theorem P_pointAfter (hq : zisP q = true) {R : List Nat} (hR : zPR G q R) (hs : R.Pairwise (fun a b => a < b)) {t : Nat} (ht : t < 2000) : zcal zTT jP_pointAfter [.ref q, .int (nI t)] (zhp G) = some (some (.int (nI (zSu R t))), zhp G) := by
  have hl := hR.2.1
  have hbl := zBe_le t R
  have key : ∀ k b, b ≤ zBe R t → zBe R t < b + 2 ^ k → k ≤ 8 → ∀ v4, zEv zTT (zco mP_pointAfter) kP_pointAfter_6 [.ref q, .int (nI t), .int (nI b), .int (nI (2 ^ k / 2)), v4] [] (zhp G) (.inl (some (.int (nI (zSu R t)))), zhp G) := by
    intro k
    induction k with
    | zero =>
      intro b h1 h2 _ v4
      have hb : b = zBe R t := by omega
      rw [kP_pointAfter_6]
      have e : (nI (2 ^ 0 / 2) ≤ 0) = True := by decide
      simp only [kP_pointAfter_0, kP_pointAfter_42, kP_pointAfter_49, kP_pointAfter_61, kP_pointAfter_62, zjP_pointAfter_6, zjP_pointAfter_42, zjP_pointAfter_49, zjP_pointAfter_61, zjP_pointAfter_62, ev_iload, ev_aload, ev_istore, ev_astore, ev_iconst, ev_null, ev_iinc, ev_iadd, ev_isub, ev_imul, ev_iand, ev_ior, ev_ixor, ev_ishl, ev_ishr, ev_iushr, ev_idiv, ev_irem, ev_icmp, ev_if, ev_ifnull, ev_ifnullN, ev_goto, ev_dupi, ev_dupr, ev_dup2, ev_pop, ev_getf, ev_puti, ev_putr, ev_iald, ev_cald, ev_aald, ev_iast, ev_cast, ev_alen, ev_tsw, ev_lsw, ev_max, ev_min, ev_obj, ev_cp, ev_throw, ev_iret, ev_aret, ev_aretN, ev_ret, ev_new, ev_newa, ev_anew, ev_is0, ev_is1, ev_is2, ev_is3, ev_is4, ev_iv1, ev_iv2, ev_iv3, ev_iv4, ev_iv5, ev_ip1, ev_ip2, zlg_0, zls_0, zlg_1, zls_1, zlg_2, zls_2, zlg_3, zls_3, zlg_4, zls_4, zlg_5, zls_5, zlg_6, zls_6, zlg_7, zls_7, zlg_8, zls_8, zlg_9, zls_9, zlg_10, zls_10, zlg_11, zls_11, ev_jif, zLI_i, zLR_r, zOV_s, List.length_cons, List.length_nil, zcd, decide_eq_true_eq, true_and, and_true, Option.toList_some, Option.toList_none, List.cons_append, List.nil_append, zrf, if_true, if_false, true_or, or_true, false_or, or_false, and_self, zwr_w, zG_hp, Nat.reduceAdd, Nat.reduceLT, Nat.reduceLeDiff, Nat.zero_le, reduceIte, not_true_eq_false, not_false_eq_true, Prod.mk.injEq, Sum.inl.injEq, Option.some.injEq, Value.int.injEq, Value.ref.injEq, zsw, ev_jif, zB01, Bool.false_eq_true, one_ne, zero_eqone, nI_1, gT0_0, gT0_1, gT0_2, gT0_3, gT0_4, gT0_5, gT0_6, gT0_7, oT0, aT1, aT2, aT3, aT4, aT5, aT6, gT7_0, pgT7_0, gT7_1, gT7_2, pgT7_2, oT7, aT8, gT9_0, pgT9_0, gT9_1, gT9_2, pgT9_2, oT9, aT10, gP0_0, gP0_1, gP0_2, gP0_3, gP0_4, gP0_5, gP0_6, gP0_7, pgP0_7, gP0_8, pgP0_8, oP0, aP1, aP2, aP3, aP4, aP5, aP6, gR0_0, pgR0_0, gR0_1, gR0_2, pgR0_2, oR0, aR1, g0_0, g0_1, g0_2, g0_3, g0_4, g0_5, g0_6, g0_7, pg0_7, g0_8, pg0_8, o0, g34_0, g34_1, pg34_1, g34_2, pg34_2, o34, g102_0, g102_1, pg102_1, g102_2, pg102_2, g102_3, g102_4, g102_5, g102_6, pg102_6, o102, g122_0, g122_1, g122_2, g122_3, pg122_3, g122_4, g122_5, pg122_5, g122_6, pg122_6, g122_7, g122_8, g122_9, pg122_9, g122_10, g122_11, g122_12, g122_13, g122_14, g122_15, g122_16, g122_17, g122_18, pg122_18, g122_19, g122_20, pg122_20, g122_21, pg122_21, g122_22, pg122_22, g122_23, o122, a103, a104, a105, a106, a107, a123, a124, a125, a126, a127, a128, a129, a130, a131, a132, a133, a134, a135, a136, a137, a138, q35, zisT_1, zisT_12, zisT_23, zisT_36, zisT_47, zisT_58, zisT_69, zisT_80, zisT_91, zisP_108, zisP_115, zisR_8, zisR_10, zisR_19, zisR_21, zisR_30, zisR_32, zisR_43, zisR_45, zisR_54, zisR_56, zisR_65, zisR_67, zisR_76, zisR_78, zisR_87, zisR_89, zisR_98, zisR_100, hq, e, hR.1]
      rw [zSu, ← hb]
      by_cases hc : b < R.length
      · simp [zle_f (s := b) (n := R.length) (by omega) (by omega), zlt_t (s := b) (n := R.length) (by omega) (by omega), hc]
      · simp [zle_t (s := b) (n := R.length) (by omega) (by omega), zlt_f (s := b) (n := R.length) (by omega) (by omega), hc, nI_0]
    | succ k ih =>
      intro b h1 h2 hk v4
      have hp2 : 2 ^ (k + 1) / 2 = 2 ^ k := by rw [Nat.pow_succ]; omega
      have hp3 : 2 ^ k ≤ 128 := by
        have := Nat.pow_le_pow_right (n := 2) (by omega) (show k ≤ 7 by omega)
        omega
      have hp4 : 0 < 2 ^ k := Nat.two_pow_pos k
      have e : (nI (2 ^ k) ≤ 0) = False := eq_false (nI_nle hp4 (by omega))
      have ed : nI (2 ^ k) / nI 2 = nI (2 ^ k / 2) := zdiv (by omega) (by omega) (by omega)
      rw [hp2, kP_pointAfter_6]
      by_cases hc : b + 2 ^ k ≤ R.length
      · have hi : b + 2 ^ k - 1 < R.length := by omega
        have hz := zOl_at (hR.2.2.2 _ (zgd_in hi))
        have hb1 := zBe_iff t hs _ hi
        simp only [kP_pointAfter_0, kP_pointAfter_42, kP_pointAfter_49, kP_pointAfter_61, kP_pointAfter_62, zjP_pointAfter_6, zjP_pointAfter_42, zjP_pointAfter_49, zjP_pointAfter_61, zjP_pointAfter_62, ev_iload, ev_aload, ev_istore, ev_astore, ev_iconst, ev_null, ev_iinc, ev_iadd, ev_isub, ev_imul, ev_iand, ev_ior, ev_ixor, ev_ishl, ev_ishr, ev_iushr, ev_idiv, ev_irem, ev_icmp, ev_if, ev_ifnull, ev_ifnullN, ev_goto, ev_dupi, ev_dupr, ev_dup2, ev_pop, ev_getf, ev_puti, ev_putr, ev_iald, ev_cald, ev_aald, ev_iast, ev_cast, ev_alen, ev_tsw, ev_lsw, ev_max, ev_min, ev_obj, ev_cp, ev_throw, ev_iret, ev_aret, ev_aretN, ev_ret, ev_new, ev_newa, ev_anew, ev_is0, ev_is1, ev_is2, ev_is3, ev_is4, ev_iv1, ev_iv2, ev_iv3, ev_iv4, ev_iv5, ev_ip1, ev_ip2, zlg_0, zls_0, zlg_1, zls_1, zlg_2, zls_2, zlg_3, zls_3, zlg_4, zls_4, zlg_5, zls_5, zlg_6, zls_6, zlg_7, zls_7, zlg_8, zls_8, zlg_9, zls_9, zlg_10, zls_10, zlg_11, zls_11, ev_jif, zLI_i, zLR_r, zOV_s, List.length_cons, List.length_nil, zcd, decide_eq_true_eq, true_and, and_true, Option.toList_some, Option.toList_none, List.cons_append, List.nil_append, zrf, if_true, if_false, true_or, or_true, false_or, or_false, and_self, zwr_w, zG_hp, Nat.reduceAdd, Nat.reduceLT, Nat.reduceLeDiff, Nat.zero_le, reduceIte, not_true_eq_false, not_false_eq_true, Prod.mk.injEq, Sum.inl.injEq, Option.some.injEq, Value.int.injEq, Value.ref.injEq, zsw, ev_jif, zB01, Bool.false_eq_true, one_ne, zero_eqone, nI_1, gT0_0, gT0_1, gT0_2, gT0_3, gT0_4, gT0_5, gT0_6, gT0_7, oT0, aT1, aT2, aT3, aT4, aT5, aT6, gT7_0, pgT7_0, gT7_1, gT7_2, pgT7_2, oT7, aT8, gT9_0, pgT9_0, gT9_1, gT9_2, pgT9_2, oT9, aT10, gP0_0, gP0_1, gP0_2, gP0_3, gP0_4, gP0_5, gP0_6, gP0_7, pgP0_7, gP0_8, pgP0_8, oP0, aP1, aP2, aP3, aP4, aP5, aP6, gR0_0, pgR0_0, gR0_1, gR0_2, pgR0_2, oR0, aR1, g0_0, g0_1, g0_2, g0_3, g0_4, g0_5, g0_6, g0_7, pg0_7, g0_8, pg0_8, o0, g34_0, g34_1, pg34_1, g34_2, pg34_2, o34, g102_0, g102_1, pg102_1, g102_2, pg102_2, g102_3, g102_4, g102_5, g102_6, pg102_6, o102, g122_0, g122_1, g122_2, g122_3, pg122_3, g122_4, g122_5, pg122_5, g122_6, pg122_6, g122_7, g122_8, g122_9, pg122_9, g122_10, g122_11, g122_12, g122_13, g122_14, g122_15, g122_16, g122_17, g122_18, pg122_18, g122_19, g122_20, pg122_20, g122_21, pg122_21, g122_22, pg122_22, g122_23, o122, a103, a104, a105, a106, a107, a123, a124, a125, a126, a127, a128, a129, a130, a131, a132, a133, a134, a135, a136, a137, a138, q35, zisT_1, zisT_12, zisT_23, zisT_36, zisT_47, zisT_58, zisT_69, zisT_80, zisT_91, zisP_108, zisP_115, zisR_8, zisR_10, zisR_19, zisR_21, zisR_30, zisR_32, zisR_43, zisR_45, zisR_54, zisR_56, zisR_65, zisR_67, zisR_76, zisR_78, zisR_87, zisR_89, zisR_98, zisR_100, hq, e, hR.1, nI_add, zlt_f (s := R.length) (n := b + 2 ^ k) (by omega) (by omega), zsub1 (a := b + 2 ^ k) (by omega), P_pointCode hq hR hi, C_placeOfPoint, hz.2.2.1, n2, ed]
        have hzc := hz.1
        by_cases hct : R.getD (b + 2 ^ k - 1) 0 / 256 < t
        · have h3 := hb1.mp hct
          rw [if_neg (nI_ge hct (by omega))]
          exact ih (b + 2 ^ k) (by omega) (by omega) (by omega) _
        · have h3 : ¬ (b + 2 ^ k - 1 < zBe R t) := fun z => hct (hb1.mpr z)
          rw [if_pos (nI_le (by omega) (by omega))]
          exact ih b h1 (by omega) (by omega) _
      · simp only [kP_pointAfter_0, kP_pointAfter_42, kP_pointAfter_49, kP_pointAfter_61, kP_pointAfter_62, zjP_pointAfter_6, zjP_pointAfter_42, zjP_pointAfter_49, zjP_pointAfter_61, zjP_pointAfter_62, ev_iload, ev_aload, ev_istore, ev_astore, ev_iconst, ev_null, ev_iinc, ev_iadd, ev_isub, ev_imul, ev_iand, ev_ior, ev_ixor, ev_ishl, ev_ishr, ev_iushr, ev_idiv, ev_irem, ev_icmp, ev_if, ev_ifnull, ev_ifnullN, ev_goto, ev_dupi, ev_dupr, ev_dup2, ev_pop, ev_getf, ev_puti, ev_putr, ev_iald, ev_cald, ev_aald, ev_iast, ev_cast, ev_alen, ev_tsw, ev_lsw, ev_max, ev_min, ev_obj, ev_cp, ev_throw, ev_iret, ev_aret, ev_aretN, ev_ret, ev_new, ev_newa, ev_anew, ev_is0, ev_is1, ev_is2, ev_is3, ev_is4, ev_iv1, ev_iv2, ev_iv3, ev_iv4, ev_iv5, ev_ip1, ev_ip2, zlg_0, zls_0, zlg_1, zls_1, zlg_2, zls_2, zlg_3, zls_3, zlg_4, zls_4, zlg_5, zls_5, zlg_6, zls_6, zlg_7, zls_7, zlg_8, zls_8, zlg_9, zls_9, zlg_10, zls_10, zlg_11, zls_11, ev_jif, zLI_i, zLR_r, zOV_s, List.length_cons, List.length_nil, zcd, decide_eq_true_eq, true_and, and_true, Option.toList_some, Option.toList_none, List.cons_append, List.nil_append, zrf, if_true, if_false, true_or, or_true, false_or, or_false, and_self, zwr_w, zG_hp, Nat.reduceAdd, Nat.reduceLT, Nat.reduceLeDiff, Nat.zero_le, reduceIte, not_true_eq_false, not_false_eq_true, Prod.mk.injEq, Sum.inl.injEq, Option.some.injEq, Value.int.injEq, Value.ref.injEq, zsw, ev_jif, zB01, Bool.false_eq_true, one_ne, zero_eqone, nI_1, gT0_0, gT0_1, gT0_2, gT0_3, gT0_4, gT0_5, gT0_6, gT0_7, oT0, aT1, aT2, aT3, aT4, aT5, aT6, gT7_0, pgT7_0, gT7_1, gT7_2, pgT7_2, oT7, aT8, gT9_0, pgT9_0, gT9_1, gT9_2, pgT9_2, oT9, aT10, gP0_0, gP0_1, gP0_2, gP0_3, gP0_4, gP0_5, gP0_6, gP0_7, pgP0_7, gP0_8, pgP0_8, oP0, aP1, aP2, aP3, aP4, aP5, aP6, gR0_0, pgR0_0, gR0_1, gR0_2, pgR0_2, oR0, aR1, g0_0, g0_1, g0_2, g0_3, g0_4, g0_5, g0_6, g0_7, pg0_7, g0_8, pg0_8, o0, g34_0, g34_1, pg34_1, g34_2, pg34_2, o34, g102_0, g102_1, pg102_1, g102_2, pg102_2, g102_3, g102_4, g102_5, g102_6, pg102_6, o102, g122_0, g122_1, g122_2, g122_3, pg122_3, g122_4, g122_5, pg122_5, g122_6, pg122_6, g122_7, g122_8, g122_9, pg122_9, g122_10, g122_11, g122_12, g122_13, g122_14, g122_15, g122_16, g122_17, g122_18, pg122_18, g122_19, g122_20, pg122_20, g122_21, pg122_21, g122_22, pg122_22, g122_23, o122, a103, a104, a105, a106, a107, a123, a124, a125, a126, a127, a128, a129, a130, a131, a132, a133, a134, a135, a136, a137, a138, q35, zisT_1, zisT_12, zisT_23, zisT_36, zisT_47, zisT_58, zisT_69, zisT_80, zisT_91, zisP_108, zisP_115, zisR_8, zisR_10, zisR_19, zisR_21, zisR_30, zisR_32, zisR_43, zisR_45, zisR_54, zisR_56, zisR_65, zisR_67, zisR_76, zisR_78, zisR_87, zisR_89, zisR_98, zisR_100, hq, e, hR.1, nI_add, zlt_t (s := R.length) (n := b + 2 ^ k) (by omega) (by omega), n2, ed]
        exact ih b h1 (by omega) (by omega) _
  refine zgo zMt_P_pointAfter (show zEv zTT (zco mP_pointAfter) kP_pointAfter_0 [.ref q, .int (nI t), zU, zU, zU] [] _ _ from ?_)
  simp only [kP_pointAfter_0, kP_pointAfter_42, kP_pointAfter_49, kP_pointAfter_61, kP_pointAfter_62, zjP_pointAfter_6, zjP_pointAfter_42, zjP_pointAfter_49, zjP_pointAfter_61, zjP_pointAfter_62, ev_iload, ev_aload, ev_istore, ev_astore, ev_iconst, ev_null, ev_iinc, ev_iadd, ev_isub, ev_imul, ev_iand, ev_ior, ev_ixor, ev_ishl, ev_ishr, ev_iushr, ev_idiv, ev_irem, ev_icmp, ev_if, ev_ifnull, ev_ifnullN, ev_goto, ev_dupi, ev_dupr, ev_dup2, ev_pop, ev_getf, ev_puti, ev_putr, ev_iald, ev_cald, ev_aald, ev_iast, ev_cast, ev_alen, ev_tsw, ev_lsw, ev_max, ev_min, ev_obj, ev_cp, ev_throw, ev_iret, ev_aret, ev_aretN, ev_ret, ev_new, ev_newa, ev_anew, ev_is0, ev_is1, ev_is2, ev_is3, ev_is4, ev_iv1, ev_iv2, ev_iv3, ev_iv4, ev_iv5, ev_ip1, ev_ip2, zlg_0, zls_0, zlg_1, zls_1, zlg_2, zls_2, zlg_3, zls_3, zlg_4, zls_4, zlg_5, zls_5, zlg_6, zls_6, zlg_7, zls_7, zlg_8, zls_8, zlg_9, zls_9, zlg_10, zls_10, zlg_11, zls_11, ev_jif, zLI_i, zLR_r, zOV_s, List.length_cons, List.length_nil, zcd, decide_eq_true_eq, true_and, and_true, Option.toList_some, Option.toList_none, List.cons_append, List.nil_append, zrf, if_true, if_false, true_or, or_true, false_or, or_false, and_self, zwr_w, zG_hp, Nat.reduceAdd, Nat.reduceLT, Nat.reduceLeDiff, Nat.zero_le, reduceIte, not_true_eq_false, not_false_eq_true, Prod.mk.injEq, Sum.inl.injEq, Option.some.injEq, Value.int.injEq, Value.ref.injEq, zsw, ev_jif, zB01, Bool.false_eq_true, one_ne, zero_eqone, nI_1]
  exact key 8 0 (by omega) (by omega) (by omega) _
end ZPLACE
