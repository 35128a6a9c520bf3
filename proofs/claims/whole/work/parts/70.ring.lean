section ZMRING
variable {G G' : Nat → Nat → Int32} {S : zSt} {N W : Nat → Int32}
theorem zOl_c : zOl.all (fun c => decide (zPl (nI 64 * nI (c / 32 % 8) + nI (c % 32)) = nI (c / 256))) = true := by decide +kernel
theorem zOl_p {c : Nat} (h : c ∈ zOl) : zPl (nI 64 * nI (c / 32 % 8) + nI (c % 32)) = nI (c / 256) := of_decide_eq_true (List.all_eq_true.mp zOl_c c h)
theorem zOl_u : zOl.Pairwise (fun a b => ¬ a % 256 = b % 256) := by decide +kernel
/-- the points put down so far: all of nodes below n, those of n below k -/
def zPk (N W : Nat → Int32) (n k : Nat) (c : Nat) : Bool := zKe N W c && (decide (c / 32 % 8 < n) || (decide (c / 32 % 8 = n) && decide (c % 32 < k)))
theorem zpw_u {L : List Nat} (h : L.Pairwise (fun a b => ¬ a % 256 = b % 256)) {a b : Nat} (ha : a ∈ L) (hb : b ∈ L) (e : a % 256 = b % 256) : a = b := by
  obtain ⟨i, hi, e1⟩ := List.getElem_of_mem ha
  obtain ⟨j, hj, e2⟩ := List.getElem_of_mem hb
  rw [List.pairwise_iff_getElem] at h
  rcases Nat.lt_trichotomy i j with h1 | h1 | h1
  · exact absurd (by rw [e1, e2]; exact e) (h i j hi hj h1)
  · subst h1; exact e1.symm.trans e2
  · exact absurd (by rw [e1, e2]; exact e.symm) (h j i hj hi h1)
/-- one point more -/
theorem zPk_s {n k : Nat} (hn : n < 8) (hk : k < 20) (hN : N n = 1) (hW : nI k < nI 4 * W n) : ∃ c X Y, c / 32 % 8 = n ∧ c % 32 = k ∧ c ∈ zOl ∧ zOl.filter (zPk N W n k) = X ++ Y ∧ zOl.filter (zPk N W n (k + 1)) = X ++ c :: Y ∧ (∀ x, x ∈ X → x / 256 ≤ c / 256) ∧ ∀ y, y ∈ Y → c / 256 < y / 256 := by
  obtain ⟨c, hc, h1, h2⟩ := zOl_in n hn k hk
  obtain ⟨A, B, hAB⟩ := List.append_of_mem hc
  have hso := zOl_so
  rw [hAB, List.pairwise_append, List.pairwise_cons] at hso
  obtain ⟨_, ⟨hcB, _⟩, hAc⟩ := hso
  have hpc : zPk N W n k c = false := by
    unfold zPk; rw [h1, h2]; simp
  have hpc1 : zPk N W n (k + 1) c = true := by
    unfold zPk zKe; rw [h1, h2]; simp [hN, hW]
  have hoth : ∀ x, x ∈ zOl → x ≠ c → zPk N W n (k + 1) x = zPk N W n k x := by
    intro x hx hne
    unfold zPk
    have : ¬ (x / 32 % 8 = n ∧ x % 32 = k) := fun hh => hne (zpw_u zOl_u hx hc (by omega))
    congr 1
    by_cases e1 : x / 32 % 8 = n
    · have e2 : ¬ x % 32 = k := fun e => this ⟨e1, e⟩
      have : (x % 32 < k + 1) = (x % 32 < k) := propext ⟨fun h => by omega, fun h => by omega⟩
      simp only [this]
    · simp [e1]
  have hA : ∀ x, x ∈ A → x ∈ zOl ∧ x ≠ c ∧ x < c := fun x hx => by
    have := hAc x hx c List.mem_cons_self
    exact ⟨by rw [hAB]; exact List.mem_append_left _ hx, by omega, this⟩
  have hB : ∀ x, x ∈ B → x ∈ zOl ∧ x ≠ c ∧ c < x := fun x hx => by
    have := hcB x hx
    exact ⟨by rw [hAB]; exact List.mem_append_right _ (List.mem_cons_of_mem _ hx), by omega, this⟩
  have lt : ∀ x, x ∈ zOl → zPk N W n k x = true → x % 256 < c % 256 := by
    intro x _ hx
    unfold zPk at hx
    simp only [Bool.and_eq_true, Bool.or_eq_true, decide_eq_true_eq] at hx
    omega
  refine ⟨c, A.filter (zPk N W n k), B.filter (zPk N W n k), h1, h2, hc, ?_, ?_, fun x hx => ?_, fun y hy => ?_⟩
  · rw [hAB, List.filter_append, List.filter_cons, if_neg (by rw [hpc]; decide)]
  · rw [hAB, List.filter_append, List.filter_cons, if_pos hpc1, List.filter_congr (fun x hx => hoth x (hA x hx).1 (hA x hx).2.1), List.filter_congr (fun x hx => hoth x (hB x hx).1 (hB x hx).2.1)]
  · have hm := (List.mem_filter.mp hx).1
    have := (hA x hm).2.2
    exact Nat.div_le_div_right (by omega)
  · obtain ⟨hm, hp⟩ := List.mem_filter.mp hy
    have h3 := (hB y hm).2.2
    have h4 := lt y (hB y hm).1 hp
    omega
theorem zPk_e {n k : Nat} (h : ¬ N n = 1 ∨ ¬ nI k < nI 4 * W n) (hW : ∃ w, w ≤ 5 ∧ W n = nI w) (hk : k ≤ 20) : zOl.filter (zPk N W n k) = zOl.filter (zPk N W (n + 1) 0) := by
  obtain ⟨w, hw, e⟩ := hW
  refine List.filter_congr (fun x hx => ?_)
  unfold zPk
  by_cases hke : zKe N W x = true
  · rw [hke]
    simp only [Bool.true_and, Nat.not_lt_zero, decide_false, Bool.and_false, Bool.or_false]
    by_cases e1 : x / 32 % 8 = n
    · have hke2 := hke
      unfold zKe at hke2
      rw [e1] at hke2
      simp only [Bool.and_eq_true, decide_eq_true_eq] at hke2
      rcases h with h | h
      · exact absurd hke2.1 h
      · rw [e, zmul] at h hke2
        have h20 := (zOl_at hx).2.1
        have g1 : x % 32 < 4 * w := by
          rcases Nat.lt_or_ge (x % 32) (4 * w) with g | g
          · exact g
          · exact absurd hke2.2 (nI_nlt g (by omega))
        have g2 : 4 * w ≤ k := by
          rcases Nat.lt_or_ge k (4 * w) with g | g
          · exact absurd (nI_lt g (by omega)) h
          · exact g
        have a1 : x / 32 % 8 < n + 1 := by omega
        have a2 : x % 32 < k := by omega
        simp [e1, a2]
    · have : (x / 32 % 8 < n + 1) = (x / 32 % 8 < n) := propext ⟨fun h => by omega, fun h => by omega⟩
      simp [e1, this]
  · have hke : zKe N W x = false := by simpa using hke
    rw [hke]; rfl
theorem zPk_0 : zOl.filter (zPk N W 0 0) = [] := by
  refine List.filter_eq_nil_iff.mpr (fun x _ => ?_)
  unfold zPk
  simp
theorem zPk_8 : zOl.filter (zPk N W 8 0) = zRi N W := by
  unfold zRi
  refine List.filter_congr (fun x _ => ?_)
  have : x / 32 % 8 < 8 := Nat.mod_lt _ (by omega)
  unfold zPk
  simp [this]
/-- the sum of the active weights -/
def zaw (N W : Nat → Int32) : Nat → Nat
  | 0 => 0
  | n + 1 => zaw N W n + if N n = 1 then (W n).toNatClampNeg else 0
theorem zaw_i {n : Nat} (hn : n < 8) (hN : N n = 1) {w : Nat} (hw : w ≤ 5) (e : W n = nI w) : ∀ k, k ≤ 4 * w → (zOl.filter (zPk N W n k)).length = (zOl.filter (zPk N W n 0)).length + k
  | 0, _ => rfl
  | k + 1, h => by
    obtain ⟨c, X, Y, _, _, _, h4, h5, _⟩ := zPk_s (N := N) (W := W) hn (k := k) (by omega) hN (by rw [e, zmul]; exact nI_lt (by omega) (by omega))
    have := zaw_i hn hN hw e k (by omega)
    rw [h4] at this
    rw [h5, List.length_append, List.length_cons]
    rw [List.length_append] at this
    omega
theorem zaw_n (hW : ∀ n, n < 8 → ∃ w, w ≤ 5 ∧ W n = nI w) : ∀ n, n ≤ 8 → (zOl.filter (zPk N W n 0)).length = 4 * zaw N W n
  | 0, _ => by rw [zPk_0]; rfl
  | n + 1, h => by
    obtain ⟨w, hw, e⟩ := hW n (by omega)
    have ih := zaw_n hW n (by omega)
    rw [zaw]
    by_cases hN : N n = 1
    · have h1 := zaw_i (W := W) (by omega : n < 8) hN hw e (4 * w) (Nat.le_refl _)
      rw [← zPk_e (k := 4 * w) (Or.inr (by rw [e, zmul]; exact nI_nlt (by omega) (by omega))) ⟨w, hw, e⟩ (by omega), h1, ih, if_pos hN, e, zcl_n (by omega)]
      omega
    · rw [← zPk_e (k := 0) (Or.inl hN) ⟨w, hw, e⟩ (by omega), ih, if_neg hN]
      omega
theorem zaw_8 (hW : ∀ n, n < 8 → ∃ w, w ≤ 5 ∧ W n = nI w) : (zRi N W).length / 4 = zaw N W 8 := by
  rw [← zPk_8, zaw_n hW 8 (Nat.le_refl _)]
  omega
theorem zaw_b (hW : ∀ n, n < 8 → ∃ w, w ≤ 5 ∧ W n = nI w) : ∀ n, n ≤ 8 → zaw N W n ≤ 5 * n
  | 0, _ => Nat.le_refl _
  | n + 1, h => by
    obtain ⟨w, hw, e⟩ := hW n (by omega)
    have := zaw_b hW n (by omega)
    rw [zaw, e, zcl_n (by omega)]
    split <;> omega
/-- the reference's ring -/
def zMP (G : Nat → Nat → Int32) (R : List Nat) : Prop := G 122 9 = nI R.length ∧ R.length ≤ 160 ∧ ∀ i, i < R.length → G 129 i = nI (R.getD i 0 / 256) ∧ G 130 i = nI (R.getD i 0 / 32 % 8) ∧ G 131 i = nI (R.getD i 0 % 32)
/-- nothing but the ring has changed -/
def zMF (G G' : Nat → Nat → Int32) : Prop := (∀ a, a ≠ 122 → a ≠ 129 → a ≠ 130 → a ≠ 131 → G' a = G a) ∧ ∀ k, k ≠ 9 → G' 122 k = G 122 k
theorem zMF.rf : zMF G G := ⟨fun _ _ _ _ _ => rfl, fun _ _ => rfl⟩
theorem zMF.tr {G1 G2 : Nat → Nat → Int32} (h : zMF G G1) (h2 : zMF G1 G2) : zMF G G2 := ⟨fun a b c d e => (h2.1 a b c d e).trans (h.1 a b c d e), fun k hk => (h2.2 k hk).trans (h.2 k hk)⟩
theorem zgd_mid (X Y : List Nat) (c i : Nat) : (X ++ c :: Y).getD i 0 = if i < X.length then X.getD i 0 else if i = X.length then c else Y.getD (i - X.length - 1) 0 := by
  simp only [List.getD_eq_getElem?_getD]
  by_cases h : i < X.length
  · rw [List.getElem?_append_left h, if_pos h]
  · rw [List.getElem?_append_right (by omega), if_neg h]
    by_cases h2 : i = X.length
    · subst h2; simp
    · rw [if_neg h2]
      obtain ⟨j, hj⟩ : ∃ j, i - X.length = j + 1 := ⟨i - X.length - 1, by omega⟩
      rw [hj, List.getElem?_cons_succ]
      rfl
theorem zgd_apN (X Y : List Nat) (i : Nat) : (X ++ Y).getD i 0 = if i < X.length then X.getD i 0 else Y.getD (i - X.length) 0 := by
  simp only [List.getD_eq_getElem?_getD]
  by_cases h : i < X.length
  · rw [List.getElem?_append_left h, if_pos h]
  · rw [List.getElem?_append_right (by omega), if_neg h]
/-- a point of the reference's ring at an index -/
def zM3 (G : Nat → Nat → Int32) (i c : Nat) : Prop := G 129 i = nI (c / 256) ∧ G 130 i = nI (c / 32 % 8) ∧ G 131 i = nI (c % 32)
def zw3 (G : Nat → Nat → Int32) (i : Nat) (a b c : Int32) : Nat → Nat → Int32 := zw (zw (zw G 129 i a) 130 i b) 131 i c
theorem zw3_at {i : Nat} {a b d : Int32} {c : Nat} (h1 : a = nI (c / 256)) (h2 : b = nI (c / 32 % 8)) (h3 : d = nI (c % 32)) : zM3 (zw3 G i a b d) i c := by
  subst h1 h2 h3
  unfold zM3 zw3
  exact ⟨by rw [zw_ne _ (Or.inl (by omega)), zw_ne _ (Or.inl (by omega)), zw_eq], by rw [zw_ne _ (Or.inl (by omega)), zw_eq], zw_eq _ _ _ _⟩
theorem zw3_ne {i j : Nat} {a b d : Int32} {c : Nat} (hj : j ≠ i) (h : zM3 G j c) : zM3 (zw3 G i a b d) j c := by
  unfold zM3 zw3 at *
  exact ⟨by rw [zw_ne _ (Or.inr hj), zw_ne _ (Or.inr hj), zw_ne _ (Or.inr hj)]; exact h.1, by rw [zw_ne _ (Or.inr hj), zw_ne _ (Or.inr hj), zw_ne _ (Or.inr hj)]; exact h.2.1, by rw [zw_ne _ (Or.inr hj), zw_ne _ (Or.inr hj), zw_ne _ (Or.inr hj)]; exact h.2.2⟩
theorem zw3_122 {i : Nat} {a b d : Int32} : zw3 G i a b d 122 = G 122 := by unfold zw3; rw [zw_oth _ (by omega), zw_oth _ (by omega), zw_oth _ (by omega)]
theorem zw3_oth {i q : Nat} {a b d : Int32} (h1 : q ≠ 129) (h2 : q ≠ 130) (h3 : q ≠ 131) : zw3 G i a b d q = G q := by unfold zw3; rw [zw_oth _ h3, zw_oth _ h2, zw_oth _ h1]
theorem M_putPoint {X Y : List Nat} {c : Nat} (h : zMP G (X ++ Y)) (hl : (X ++ Y).length < 160) (hX : ∀ x, x ∈ X → x / 256 ≤ c / 256) (hY : ∀ y, y ∈ Y → c / 256 < y / 256) (hb : ∀ x, x ∈ X ++ Y → x < 262144) (hc : c < 262144) : ∃ G', zcal zTT jM_putPoint [.ref 122, .int (nI (c / 256)), .int (nI (c / 32 % 8)), .int (nI (c % 32))] (zhp G) = some (none, zhp G') ∧ zMP G' (X ++ c :: Y) ∧ zMF G G' := by
  have hlen : (X ++ Y).length = X.length + Y.length := List.length_append
  have fin : ∀ G1 : Nat → Nat → Int32, G1 122 = G 122 → (∀ a, a ≠ 129 → a ≠ 130 → a ≠ 131 → G1 a = G a) → (∀ j, j < X.length → zM3 G1 j (X.getD j 0)) → (∀ j, X.length < j → j ≤ X.length + Y.length → zM3 G1 j (Y.getD (j - X.length - 1) 0)) → ∃ G', zEv zTT (zco mM_putPoint) kM_putPoint_78 [.ref 122, .int (nI (c / 256)), .int (nI (c / 32 % 8)), .int (nI (c % 32)), .int (nI X.length)] [] (zhp G1) (.inl none, zhp G') ∧ zMP G' (X ++ c :: Y) ∧ zMF G G' := by
    intro G1 h122 hF h1 h2
    refine ⟨zw (zw3 G1 X.length (nI (c / 256)) (nI (c / 32 % 8)) (nI (c % 32))) 122 9 (nI (X.length + Y.length + 1)), ?_, ⟨?_, ?_, fun i hi => ?_⟩, ⟨fun a a1 a2 a3 a4 => by rw [zw_oth _ a1, zw3_oth a2 a3 a4]; exact hF a a2 a3 a4, fun k hk => by rw [zw_ne _ (Or.inr hk), zw3_122, h122]⟩⟩
    · have e9 : zw3 G1 X.length (nI (c / 256)) (nI (c / 32 % 8)) (nI (c % 32)) 122 9 = nI (X.length + Y.length) := by rw [zw3_122, h122, h.1, hlen]
      unfold zw3 at e9 ⊢
      rw [kM_putPoint_78]
      simp only [kM_putPoint_0, zjM_putPoint_6, zjM_putPoint_78, ev_iload, ev_aload, ev_istore, ev_astore, ev_iconst, ev_null, ev_iinc, ev_iadd, ev_isub, ev_imul, ev_iand, ev_ior, ev_ixor, ev_ishl, ev_ishr, ev_iushr, ev_idiv, ev_irem, ev_icmp, ev_if, ev_ifnull, ev_ifnullN, ev_goto, ev_dupi, ev_dupr, ev_dup2, ev_pop, ev_getf, ev_puti, ev_putr, ev_iald, ev_cald, ev_aald, ev_iast, ev_cast, ev_alen, ev_tsw, ev_lsw, ev_max, ev_min, ev_obj, ev_cp, ev_throw, ev_iret, ev_aret, ev_aretN, ev_ret, ev_new, ev_newa, ev_anew, ev_is0, ev_is1, ev_is2, ev_is3, ev_is4, ev_iv1, ev_iv2, ev_iv3, ev_iv4, ev_iv5, ev_ip1, ev_ip2, zlg_0, zls_0, zlg_1, zls_1, zlg_2, zls_2, zlg_3, zls_3, zlg_4, zls_4, zlg_5, zls_5, zlg_6, zls_6, zlg_7, zls_7, zlg_8, zls_8, zlg_9, zls_9, zlg_10, zls_10, zlg_11, zls_11, ev_jif, zLI_i, zLR_r, zOV_s, List.length_cons, List.length_nil, zcd, decide_eq_true_eq, true_and, and_true, Option.toList_some, Option.toList_none, List.cons_append, List.nil_append, zrf, if_true, if_false, true_or, or_true, false_or, or_false, and_self, zwr_w, zG_hp, Nat.reduceAdd, Nat.reduceLT, Nat.reduceLeDiff, Nat.zero_le, reduceIte, not_true_eq_false, not_false_eq_true, Prod.mk.injEq, Sum.inl.injEq, Option.some.injEq, Value.int.injEq, Value.ref.injEq, zsw, ev_jif, zB01, Bool.false_eq_true, one_ne, zero_eqone, nI_1, gT0_0, gT0_1, gT0_2, gT0_3, gT0_4, gT0_5, gT0_6, gT0_7, oT0, aT1, aT2, aT3, aT4, aT5, aT6, gT7_0, pgT7_0, gT7_1, gT7_2, pgT7_2, oT7, aT8, gT9_0, pgT9_0, gT9_1, gT9_2, pgT9_2, oT9, aT10, gP0_0, gP0_1, gP0_2, gP0_3, gP0_4, gP0_5, gP0_6, gP0_7, pgP0_7, gP0_8, pgP0_8, oP0, aP1, aP2, aP3, aP4, aP5, aP6, gR0_0, pgR0_0, gR0_1, gR0_2, pgR0_2, oR0, aR1, g0_0, g0_1, g0_2, g0_3, g0_4, g0_5, g0_6, g0_7, pg0_7, g0_8, pg0_8, o0, g34_0, g34_1, pg34_1, g34_2, pg34_2, o34, g102_0, g102_1, pg102_1, g102_2, pg102_2, g102_3, g102_4, g102_5, g102_6, pg102_6, o102, g122_0, g122_1, g122_2, g122_3, pg122_3, g122_4, g122_5, pg122_5, g122_6, pg122_6, g122_7, g122_8, g122_9, pg122_9, g122_10, g122_11, g122_12, g122_13, g122_14, g122_15, g122_16, g122_17, g122_18, pg122_18, g122_19, g122_20, pg122_20, g122_21, pg122_21, g122_22, pg122_22, g122_23, o122, a103, a104, a105, a106, a107, a123, a124, a125, a126, a127, a128, a129, a130, a131, a132, a133, a134, a135, a136, a137, a138, q35, zisT_1, zisT_12, zisT_23, zisT_36, zisT_47, zisT_58, zisT_69, zisT_80, zisT_91, zisP_108, zisP_115, zisR_8, zisR_10, zisR_19, zisR_21, zisR_30, zisR_32, zisR_43, zisR_45, zisR_54, zisR_56, zisR_65, zisR_67, zisR_76, zisR_78, zisR_87, zisR_89, zisR_98, zisR_100, id zisT_1, id zisT_12, id zisT_23, id zisP_108, id zisP_115, id (zisR_T7 zisT_1), id (zisR_T9 zisT_1), zi_n (s := X.length) (n := 160) (by omega) (by omega), zcl_n (s := X.length) (by omega), e9, nI_add]
    · rw [zw_eq, List.length_append, List.length_cons]; rfl
    · rw [List.length_append, List.length_cons]; omega
    · rw [List.length_append, List.length_cons] at hi
      show zM3 _ i _
      rw [zgd_mid]
      have nx : ∀ d, zM3 (zw3 G1 X.length (nI (c / 256)) (nI (c / 32 % 8)) (nI (c % 32))) i d → zM3 (zw (zw3 G1 X.length (nI (c / 256)) (nI (c / 32 % 8)) (nI (c % 32))) 122 9 (nI (X.length + Y.length + 1))) i d := fun d hd => ⟨by rw [zw_ne _ (Or.inl (by omega))]; exact hd.1, by rw [zw_ne _ (Or.inl (by omega))]; exact hd.2.1, by rw [zw_ne _ (Or.inl (by omega))]; exact hd.2.2⟩
      apply nx
      by_cases i1 : i < X.length
      · rw [if_pos i1]; exact zw3_ne (by omega) (h1 i i1)
      · rw [if_neg i1]
        by_cases i2 : i = X.length
        · subst i2; rw [if_pos rfl]; exact zw3_at rfl rfl rfl
        · rw [if_neg i2]; exact zw3_ne i2 (h2 i (by omega) (by omega))
  have key : ∀ n, n ≤ Y.length → ∀ G1 : Nat → Nat → Int32, G1 122 = G 122 → (∀ a, a ≠ 129 → a ≠ 130 → a ≠ 131 → G1 a = G a) → (∀ j, j < X.length → zM3 G1 j (X.getD j 0)) → (∀ j, j < n → zM3 G1 (X.length + j) (Y.getD j 0)) → (∀ j, X.length + n < j → j ≤ X.length + Y.length → zM3 G1 j (Y.getD (j - X.length - 1) 0)) → ∃ G', zEv zTT (zco mM_putPoint) kM_putPoint_6 [.ref 122, .int (nI (c / 256)), .int (nI (c / 32 % 8)), .int (nI (c % 32)), .int (nI (X.length + n))] [] (zhp G1) (.inl none, zhp G') ∧ zMP G' (X ++ c :: Y) ∧ zMF G G' := by
    intro n
    induction n with
    | zero =>
      intro _ G1 h122 hF h1 _ h3
      obtain ⟨G', g1, g2⟩ := fin G1 h122 hF h1 h3
      refine ⟨G', ?_, g2⟩
      rw [kM_putPoint_6]
      by_cases h0 : X.length = 0
      · rw [h0] at g1 ⊢
        have e0 : (nI (0 + 0) ≤ 0) = True := eq_true (by decide)
        simp only [kM_putPoint_0, zjM_putPoint_6, zjM_putPoint_78, ev_iload, ev_aload, ev_istore, ev_astore, ev_iconst, ev_null, ev_iinc, ev_iadd, ev_isub, ev_imul, ev_iand, ev_ior, ev_ixor, ev_ishl, ev_ishr, ev_iushr, ev_idiv, ev_irem, ev_icmp, ev_if, ev_ifnull, ev_ifnullN, ev_goto, ev_dupi, ev_dupr, ev_dup2, ev_pop, ev_getf, ev_puti, ev_putr, ev_iald, ev_cald, ev_aald, ev_iast, ev_cast, ev_alen, ev_tsw, ev_lsw, ev_max, ev_min, ev_obj, ev_cp, ev_throw, ev_iret, ev_aret, ev_aretN, ev_ret, ev_new, ev_newa, ev_anew, ev_is0, ev_is1, ev_is2, ev_is3, ev_is4, ev_iv1, ev_iv2, ev_iv3, ev_iv4, ev_iv5, ev_ip1, ev_ip2, zlg_0, zls_0, zlg_1, zls_1, zlg_2, zls_2, zlg_3, zls_3, zlg_4, zls_4, zlg_5, zls_5, zlg_6, zls_6, zlg_7, zls_7, zlg_8, zls_8, zlg_9, zls_9, zlg_10, zls_10, zlg_11, zls_11, ev_jif, zLI_i, zLR_r, zOV_s, List.length_cons, List.length_nil, zcd, decide_eq_true_eq, true_and, and_true, Option.toList_some, Option.toList_none, List.cons_append, List.nil_append, zrf, if_true, if_false, true_or, or_true, false_or, or_false, and_self, zwr_w, zG_hp, Nat.reduceAdd, Nat.reduceLT, Nat.reduceLeDiff, Nat.zero_le, reduceIte, not_true_eq_false, not_false_eq_true, Prod.mk.injEq, Sum.inl.injEq, Option.some.injEq, Value.int.injEq, Value.ref.injEq, zsw, ev_jif, zB01, Bool.false_eq_true, one_ne, zero_eqone, nI_1, gT0_0, gT0_1, gT0_2, gT0_3, gT0_4, gT0_5, gT0_6, gT0_7, oT0, aT1, aT2, aT3, aT4, aT5, aT6, gT7_0, pgT7_0, gT7_1, gT7_2, pgT7_2, oT7, aT8, gT9_0, pgT9_0, gT9_1, gT9_2, pgT9_2, oT9, aT10, gP0_0, gP0_1, gP0_2, gP0_3, gP0_4, gP0_5, gP0_6, gP0_7, pgP0_7, gP0_8, pgP0_8, oP0, aP1, aP2, aP3, aP4, aP5, aP6, gR0_0, pgR0_0, gR0_1, gR0_2, pgR0_2, oR0, aR1, g0_0, g0_1, g0_2, g0_3, g0_4, g0_5, g0_6, g0_7, pg0_7, g0_8, pg0_8, o0, g34_0, g34_1, pg34_1, g34_2, pg34_2, o34, g102_0, g102_1, pg102_1, g102_2, pg102_2, g102_3, g102_4, g102_5, g102_6, pg102_6, o102, g122_0, g122_1, g122_2, g122_3, pg122_3, g122_4, g122_5, pg122_5, g122_6, pg122_6, g122_7, g122_8, g122_9, pg122_9, g122_10, g122_11, g122_12, g122_13, g122_14, g122_15, g122_16, g122_17, g122_18, pg122_18, g122_19, g122_20, pg122_20, g122_21, pg122_21, g122_22, pg122_22, g122_23, o122, a103, a104, a105, a106, a107, a123, a124, a125, a126, a127, a128, a129, a130, a131, a132, a133, a134, a135, a136, a137, a138, q35, zisT_1, zisT_12, zisT_23, zisT_36, zisT_47, zisT_58, zisT_69, zisT_80, zisT_91, zisP_108, zisP_115, zisR_8, zisR_10, zisR_19, zisR_21, zisR_30, zisR_32, zisR_43, zisR_45, zisR_54, zisR_56, zisR_65, zisR_67, zisR_76, zisR_78, zisR_87, zisR_89, zisR_98, zisR_100, id zisT_1, id zisT_12, id zisT_23, id zisP_108, id zisP_115, id (zisR_T7 zisT_1), id (zisR_T9 zisT_1), e0]
        exact g1
      · have hm := zgd_in (l := X) (i := X.length - 1) (by omega)
        have hx := hX _ hm
        have hb' := hb _ (List.mem_append_left _ hm)
        have r := (h1 (X.length - 1) (by omega)).1
        have e0 : (nI X.length ≤ 0) = False := zle_f (s := 0) (n := X.length) (by omega) (by omega)
        simp only [kM_putPoint_0, zjM_putPoint_6, zjM_putPoint_78, ev_iload, ev_aload, ev_istore, ev_astore, ev_iconst, ev_null, ev_iinc, ev_iadd, ev_isub, ev_imul, ev_iand, ev_ior, ev_ixor, ev_ishl, ev_ishr, ev_iushr, ev_idiv, ev_irem, ev_icmp, ev_if, ev_ifnull, ev_ifnullN, ev_goto, ev_dupi, ev_dupr, ev_dup2, ev_pop, ev_getf, ev_puti, ev_putr, ev_iald, ev_cald, ev_aald, ev_iast, ev_cast, ev_alen, ev_tsw, ev_lsw, ev_max, ev_min, ev_obj, ev_cp, ev_throw, ev_iret, ev_aret, ev_aretN, ev_ret, ev_new, ev_newa, ev_anew, ev_is0, ev_is1, ev_is2, ev_is3, ev_is4, ev_iv1, ev_iv2, ev_iv3, ev_iv4, ev_iv5, ev_ip1, ev_ip2, zlg_0, zls_0, zlg_1, zls_1, zlg_2, zls_2, zlg_3, zls_3, zlg_4, zls_4, zlg_5, zls_5, zlg_6, zls_6, zlg_7, zls_7, zlg_8, zls_8, zlg_9, zls_9, zlg_10, zls_10, zlg_11, zls_11, ev_jif, zLI_i, zLR_r, zOV_s, List.length_cons, List.length_nil, zcd, decide_eq_true_eq, true_and, and_true, Option.toList_some, Option.toList_none, List.cons_append, List.nil_append, zrf, if_true, if_false, true_or, or_true, false_or, or_false, and_self, zwr_w, zG_hp, Nat.reduceAdd, Nat.reduceLT, Nat.reduceLeDiff, Nat.zero_le, reduceIte, not_true_eq_false, not_false_eq_true, Prod.mk.injEq, Sum.inl.injEq, Option.some.injEq, Value.int.injEq, Value.ref.injEq, zsw, ev_jif, zB01, Bool.false_eq_true, one_ne, zero_eqone, nI_1, gT0_0, gT0_1, gT0_2, gT0_3, gT0_4, gT0_5, gT0_6, gT0_7, oT0, aT1, aT2, aT3, aT4, aT5, aT6, gT7_0, pgT7_0, gT7_1, gT7_2, pgT7_2, oT7, aT8, gT9_0, pgT9_0, gT9_1, gT9_2, pgT9_2, oT9, aT10, gP0_0, gP0_1, gP0_2, gP0_3, gP0_4, gP0_5, gP0_6, gP0_7, pgP0_7, gP0_8, pgP0_8, oP0, aP1, aP2, aP3, aP4, aP5, aP6, gR0_0, pgR0_0, gR0_1, gR0_2, pgR0_2, oR0, aR1, g0_0, g0_1, g0_2, g0_3, g0_4, g0_5, g0_6, g0_7, pg0_7, g0_8, pg0_8, o0, g34_0, g34_1, pg34_1, g34_2, pg34_2, o34, g102_0, g102_1, pg102_1, g102_2, pg102_2, g102_3, g102_4, g102_5, g102_6, pg102_6, o102, g122_0, g122_1, g122_2, g122_3, pg122_3, g122_4, g122_5, pg122_5, g122_6, pg122_6, g122_7, g122_8, g122_9, pg122_9, g122_10, g122_11, g122_12, g122_13, g122_14, g122_15, g122_16, g122_17, g122_18, pg122_18, g122_19, g122_20, pg122_20, g122_21, pg122_21, g122_22, pg122_22, g122_23, o122, a103, a104, a105, a106, a107, a123, a124, a125, a126, a127, a128, a129, a130, a131, a132, a133, a134, a135, a136, a137, a138, q35, zisT_1, zisT_12, zisT_23, zisT_36, zisT_47, zisT_58, zisT_69, zisT_80, zisT_91, zisP_108, zisP_115, zisR_8, zisR_10, zisR_19, zisR_21, zisR_30, zisR_32, zisR_43, zisR_45, zisR_54, zisR_56, zisR_65, zisR_67, zisR_76, zisR_78, zisR_87, zisR_89, zisR_98, zisR_100, id zisT_1, id zisT_12, id zisT_23, id zisP_108, id zisP_115, id (zisR_T7 zisT_1), id (zisR_T9 zisT_1), Nat.add_zero, e0, zsub1 (a := X.length) (by omega), zi_n (s := X.length - 1) (n := 160) (by omega) (by omega), zcl_n (s := X.length - 1) (by omega), r, zle_t (s := c / 256) (n := X.getD (X.length - 1) 0 / 256) hx (by omega)]
        exact g1
    | succ n ih =>
      intro hn G1 h122 hF h1 h2 h3
      have r := h2 n (by omega)
      have hm := zgd_in (l := Y) (i := n) (by omega)
      have hy := hY _ hm
      have hb' := hb _ (List.mem_append_right _ hm)
      obtain ⟨G', g1, g2⟩ := ih (by omega) (zw3 G1 (X.length + n + 1) (nI (Y.getD n 0 / 256)) (nI (Y.getD n 0 / 32 % 8)) (nI (Y.getD n 0 % 32))) (by rw [zw3_122, h122]) (fun a a2 a3 a4 => by rw [zw3_oth a2 a3 a4]; exact hF a a2 a3 a4)
        (fun j hj => zw3_ne (by omega) (h1 j hj)) (fun j hj => zw3_ne (by omega) (h2 j (by omega)))
        (fun j hj1 hj2 => by
          by_cases e : j = X.length + n + 1
          · subst e
            rw [show X.length + n + 1 - X.length - 1 = n by omega]
            exact zw3_at rfl rfl rfl
          · exact zw3_ne e (h3 j (by omega) hj2))
      refine ⟨G', ?_, g2⟩
      have e0 : (nI (X.length + n + 1) ≤ 0) = False := zle_f (s := 0) (n := X.length + n + 1) (by omega) (by omega)
      have e1 : X.length + (n + 1) = X.length + n + 1 := rfl
      have e2 : nI (X.length + n + 1) + (-1) = nI (X.length + n) := by
        rw [← Int32.sub_eq_add_neg]
        exact zsub1 (by omega)
      unfold zw3 at g1
      have r2 : zw G1 129 (X.length + n + 1) (nI (Y.getD n 0 / 256)) 130 (X.length + n) = nI (Y.getD n 0 / 32 % 8) := by rw [zw_ne _ (Or.inl (by omega))]; exact r.2.1
      have r3 : zw (zw G1 129 (X.length + n + 1) (nI (Y.getD n 0 / 256))) 130 (X.length + n + 1) (nI (Y.getD n 0 / 32 % 8)) 131 (X.length + n) = nI (Y.getD n 0 % 32) := by rw [zw_ne _ (Or.inl (by omega)), zw_ne _ (Or.inl (by omega))]; exact r.2.2
      have e4 : nI (X.length + n + 1) - 1 = nI (X.length + n) := zsub1 (by omega)
      rw [e1, kM_putPoint_6]
      simp only [kM_putPoint_0, zjM_putPoint_6, zjM_putPoint_78, ev_iload, ev_aload, ev_istore, ev_astore, ev_iconst, ev_null, ev_iinc, ev_iadd, ev_isub, ev_imul, ev_iand, ev_ior, ev_ixor, ev_ishl, ev_ishr, ev_iushr, ev_idiv, ev_irem, ev_icmp, ev_if, ev_ifnull, ev_ifnullN, ev_goto, ev_dupi, ev_dupr, ev_dup2, ev_pop, ev_getf, ev_puti, ev_putr, ev_iald, ev_cald, ev_aald, ev_iast, ev_cast, ev_alen, ev_tsw, ev_lsw, ev_max, ev_min, ev_obj, ev_cp, ev_throw, ev_iret, ev_aret, ev_aretN, ev_ret, ev_new, ev_newa, ev_anew, ev_is0, ev_is1, ev_is2, ev_is3, ev_is4, ev_iv1, ev_iv2, ev_iv3, ev_iv4, ev_iv5, ev_ip1, ev_ip2, zlg_0, zls_0, zlg_1, zls_1, zlg_2, zls_2, zlg_3, zls_3, zlg_4, zls_4, zlg_5, zls_5, zlg_6, zls_6, zlg_7, zls_7, zlg_8, zls_8, zlg_9, zls_9, zlg_10, zls_10, zlg_11, zls_11, ev_jif, zLI_i, zLR_r, zOV_s, List.length_cons, List.length_nil, zcd, decide_eq_true_eq, true_and, and_true, Option.toList_some, Option.toList_none, List.cons_append, List.nil_append, zrf, if_true, if_false, true_or, or_true, false_or, or_false, and_self, zwr_w, zG_hp, Nat.reduceAdd, Nat.reduceLT, Nat.reduceLeDiff, Nat.zero_le, reduceIte, not_true_eq_false, not_false_eq_true, Prod.mk.injEq, Sum.inl.injEq, Option.some.injEq, Value.int.injEq, Value.ref.injEq, zsw, ev_jif, zB01, Bool.false_eq_true, one_ne, zero_eqone, nI_1, gT0_0, gT0_1, gT0_2, gT0_3, gT0_4, gT0_5, gT0_6, gT0_7, oT0, aT1, aT2, aT3, aT4, aT5, aT6, gT7_0, pgT7_0, gT7_1, gT7_2, pgT7_2, oT7, aT8, gT9_0, pgT9_0, gT9_1, gT9_2, pgT9_2, oT9, aT10, gP0_0, gP0_1, gP0_2, gP0_3, gP0_4, gP0_5, gP0_6, gP0_7, pgP0_7, gP0_8, pgP0_8, oP0, aP1, aP2, aP3, aP4, aP5, aP6, gR0_0, pgR0_0, gR0_1, gR0_2, pgR0_2, oR0, aR1, g0_0, g0_1, g0_2, g0_3, g0_4, g0_5, g0_6, g0_7, pg0_7, g0_8, pg0_8, o0, g34_0, g34_1, pg34_1, g34_2, pg34_2, o34, g102_0, g102_1, pg102_1, g102_2, pg102_2, g102_3, g102_4, g102_5, g102_6, pg102_6, o102, g122_0, g122_1, g122_2, g122_3, pg122_3, g122_4, g122_5, pg122_5, g122_6, pg122_6, g122_7, g122_8, g122_9, pg122_9, g122_10, g122_11, g122_12, g122_13, g122_14, g122_15, g122_16, g122_17, g122_18, pg122_18, g122_19, g122_20, pg122_20, g122_21, pg122_21, g122_22, pg122_22, g122_23, o122, a103, a104, a105, a106, a107, a123, a124, a125, a126, a127, a128, a129, a130, a131, a132, a133, a134, a135, a136, a137, a138, q35, zisT_1, zisT_12, zisT_23, zisT_36, zisT_47, zisT_58, zisT_69, zisT_80, zisT_91, zisP_108, zisP_115, zisR_8, zisR_10, zisR_19, zisR_21, zisR_30, zisR_32, zisR_43, zisR_45, zisR_54, zisR_56, zisR_65, zisR_67, zisR_76, zisR_78, zisR_87, zisR_89, zisR_98, zisR_100, id zisT_1, id zisT_12, id zisT_23, id zisP_108, id zisP_115, id (zisR_T7 zisT_1), id (zisR_T9 zisT_1), e0, e4, zi_n (s := X.length + n) (n := 160) (by omega) (by omega), zcl_n (s := X.length + n) (by omega), zi_n (s := X.length + n + 1) (n := 160) (by omega) (by omega), zcl_n (s := X.length + n + 1) (by omega), r.1, zle_f (s := c / 256) (n := Y.getD n 0 / 256) hy (by omega), r2, r3, e2]
      exact g1
  have hr : ∀ i, i < (X ++ Y).length → zM3 G i ((X ++ Y).getD i 0) := h.2.2
  obtain ⟨G', g1, g2⟩ := key Y.length (Nat.le_refl _) G rfl (fun _ _ _ _ => rfl) (fun j hj => by have := hr j (by omega); rw [zgd_apN, if_pos hj] at this; exact this) (fun j hj => by have := hr (X.length + j) (by omega); rw [zgd_apN, if_neg (by omega), show X.length + j - X.length = j by omega] at this; exact this) (fun j h1 h2 => absurd h1 (by omega))
  refine ⟨G', ?_, g2⟩
  have e9 : G 122 9 = nI (X.length + Y.length) := by rw [h.1, hlen]
  refine zgo zMt_M_putPoint (show zEv zTT (zco mM_putPoint) kM_putPoint_0 [.ref 122, .int (nI (c / 256)), .int (nI (c / 32 % 8)), .int (nI (c % 32)), zU] [] _ _ from ?_)
  simp only [kM_putPoint_0, zjM_putPoint_6, zjM_putPoint_78, ev_iload, ev_aload, ev_istore, ev_astore, ev_iconst, ev_null, ev_iinc, ev_iadd, ev_isub, ev_imul, ev_iand, ev_ior, ev_ixor, ev_ishl, ev_ishr, ev_iushr, ev_idiv, ev_irem, ev_icmp, ev_if, ev_ifnull, ev_ifnullN, ev_goto, ev_dupi, ev_dupr, ev_dup2, ev_pop, ev_getf, ev_puti, ev_putr, ev_iald, ev_cald, ev_aald, ev_iast, ev_cast, ev_alen, ev_tsw, ev_lsw, ev_max, ev_min, ev_obj, ev_cp, ev_throw, ev_iret, ev_aret, ev_aretN, ev_ret, ev_new, ev_newa, ev_anew, ev_is0, ev_is1, ev_is2, ev_is3, ev_is4, ev_iv1, ev_iv2, ev_iv3, ev_iv4, ev_iv5, ev_ip1, ev_ip2, zlg_0, zls_0, zlg_1, zls_1, zlg_2, zls_2, zlg_3, zls_3, zlg_4, zls_4, zlg_5, zls_5, zlg_6, zls_6, zlg_7, zls_7, zlg_8, zls_8, zlg_9, zls_9, zlg_10, zls_10, zlg_11, zls_11, ev_jif, zLI_i, zLR_r, zOV_s, List.length_cons, List.length_nil, zcd, decide_eq_true_eq, true_and, and_true, Option.toList_some, Option.toList_none, List.cons_append, List.nil_append, zrf, if_true, if_false, true_or, or_true, false_or, or_false, and_self, zwr_w, zG_hp, Nat.reduceAdd, Nat.reduceLT, Nat.reduceLeDiff, Nat.zero_le, reduceIte, not_true_eq_false, not_false_eq_true, Prod.mk.injEq, Sum.inl.injEq, Option.some.injEq, Value.int.injEq, Value.ref.injEq, zsw, ev_jif, zB01, Bool.false_eq_true, one_ne, zero_eqone, nI_1, gT0_0, gT0_1, gT0_2, gT0_3, gT0_4, gT0_5, gT0_6, gT0_7, oT0, aT1, aT2, aT3, aT4, aT5, aT6, gT7_0, pgT7_0, gT7_1, gT7_2, pgT7_2, oT7, aT8, gT9_0, pgT9_0, gT9_1, gT9_2, pgT9_2, oT9, aT10, gP0_0, gP0_1, gP0_2, gP0_3, gP0_4, gP0_5, gP0_6, gP0_7, pgP0_7, gP0_8, pgP0_8, oP0, aP1, aP2, aP3, aP4, aP5, aP6, gR0_0, pgR0_0, gR0_1, gR0_2, pgR0_2, oR0, aR1, g0_0, g0_1, g0_2, g0_3, g0_4, g0_5, g0_6, g0_7, pg0_7, g0_8, pg0_8, o0, g34_0, g34_1, pg34_1, g34_2, pg34_2, o34, g102_0, g102_1, pg102_1, g102_2, pg102_2, g102_3, g102_4, g102_5, g102_6, pg102_6, o102, g122_0, g122_1, g122_2, g122_3, pg122_3, g122_4, g122_5, pg122_5, g122_6, pg122_6, g122_7, g122_8, g122_9, pg122_9, g122_10, g122_11, g122_12, g122_13, g122_14, g122_15, g122_16, g122_17, g122_18, pg122_18, g122_19, g122_20, pg122_20, g122_21, pg122_21, g122_22, pg122_22, g122_23, o122, a103, a104, a105, a106, a107, a123, a124, a125, a126, a127, a128, a129, a130, a131, a132, a133, a134, a135, a136, a137, a138, q35, zisT_1, zisT_12, zisT_23, zisT_36, zisT_47, zisT_58, zisT_69, zisT_80, zisT_91, zisP_108, zisP_115, zisR_8, zisR_10, zisR_19, zisR_21, zisR_30, zisR_32, zisR_43, zisR_45, zisR_54, zisR_56, zisR_65, zisR_67, zisR_76, zisR_78, zisR_87, zisR_89, zisR_98, zisR_100, id zisT_1, id zisT_12, id zisT_23, id zisP_108, id zisP_115, id (zisR_T7 zisT_1), id (zisR_T9 zisT_1), e9]
  exact g1
end ZMRING
