section ZINVAR
variable {S : zSt} {A : zCA} {T : List Int32}
theorem zGo.pN (h : zGo S) {n k : Nat} (hn : n < 8) (h0 : ¬ sN S n = 0) (h1 : 1 ≤ k) (h3 : k ≤ 3) : zGo (uN S (upd (sN S) n (nI k))) := by
  obtain ⟨g1, g2, g3, g4, g5, g6, g7⟩ := h
  refine ⟨g1, fun j hj => ?_, g3, g4, fun j hj => ?_, fun j hj hz => ?_, g7⟩
  · obtain ⟨w, a1, a2, a3⟩ := g2 j hj
    refine ⟨w, a1, a2, fun hh => ?_⟩
    have hh : ¬ upd (sN S) n (nI k) j = 0 := hh
    unfold upd at hh
    by_cases e : j = n
    · subst e; exact a3 h0
    · rw [if_neg e] at hh; exact a3 hh
  · show ∃ q, q ≤ 3 ∧ upd (sN S) n (nI k) j = nI q
    unfold upd
    by_cases e : j = n
    · rw [if_pos e]; exact ⟨k, h3, rfl⟩
    · rw [if_neg e]; exact g5 j hj
  · have hz : upd (sN S) n (nI k) j = 0 := hz
    unfold upd at hz
    by_cases e : j = n
    · rw [if_pos e, zeq_0 (by omega)] at hz; omega
    · rw [if_neg e] at hz; exact g6 j hj hz
theorem zGo.pW (h : zGo S) {n w : Nat} (hn : n < 8) (h0 : ¬ sN S n = 0) (h1 : 1 ≤ w) (h5 : w ≤ 5) : zGo (uW S (upd (sW S) n (nI w))) := by
  obtain ⟨g1, g2, g3, g4, g5, g6, g7⟩ := h
  refine ⟨g1, fun j hj => ?_, g3, g4, g5, fun j hj hz => ?_, g7⟩
  · show ∃ q, q ≤ 5 ∧ upd (sW S) n (nI w) j = nI q ∧ (¬ sN S j = 0 → 1 ≤ q)
    unfold upd
    by_cases e : j = n
    · rw [if_pos e]; exact ⟨w, h5, rfl, fun _ => h1⟩
    · rw [if_neg e]; exact g2 j hj
  · have hz : sN S j = 0 := hz
    show upd (sW S) n (nI w) j = 0
    unfold upd
    by_cases e : j = n
    · subst e; exact absurd hz h0
    · rw [if_neg e]; exact g6 j hj hz
theorem zGo.add (h : zGo S) {n w : Nat} (hn : n < 8) (h1 : 1 ≤ w) (h5 : w ≤ 5) : zGo (uW (uN S (upd (sN S) n 1)) (upd (sW S) n (nI w))) := by
  obtain ⟨g1, g2, g3, g4, g5, g6, g7⟩ := h
  refine ⟨g1, fun j hj => ?_, g3, g4, fun j hj => ?_, fun j hj hz => ?_, g7⟩
  · show ∃ q, q ≤ 5 ∧ upd (sW S) n (nI w) j = nI q ∧ (¬ upd (sN S) n 1 j = 0 → 1 ≤ q)
    unfold upd
    by_cases e : j = n
    · rw [if_pos e]; exact ⟨w, h5, rfl, fun _ => h1⟩
    · rw [if_neg e, if_neg e]; exact g2 j hj
  · show ∃ q, q ≤ 3 ∧ upd (sN S) n 1 j = nI q
    unfold upd
    by_cases e : j = n
    · rw [if_pos e]; exact ⟨1, by omega, rfl⟩
    · rw [if_neg e]; exact g5 j hj
  · have hz : upd (sN S) n 1 j = 0 := hz
    show upd (sW S) n (nI w) j = 0
    unfold upd at hz ⊢
    by_cases e : j = n
    · rw [if_pos e] at hz; exact absurd hz (by decide)
    · rw [if_neg e] at hz ⊢; exact g6 j hj hz
theorem zGo.pC (h : zGo S) {k v : Int32} (h3 : zrg 3 k = true) (hv : zAl k v = true) : zGo (uC S (upd (sC S) k.toNatClampNeg v)) := by
  obtain ⟨j, hj, rfl⟩ := zrg_of (by omega) h3
  rw [zcl_n (by omega)]
  obtain ⟨g1, g2, g3, g4, g5, g6, g7⟩ := h
  refine ⟨g1, g2, ?_, ?_, g5, g6, g7⟩
  · show ∃ B, 1 ≤ B ∧ B ≤ 8 ∧ upd (sC S) j v 1 = nI B
    unfold upd
    by_cases e : 1 = j
    · rw [if_pos e]
      subst e
      have e1 : nI 1 = 1 := rfl
      rw [e1, zal1] at hv
      obtain ⟨B, b1, b2, rfl⟩ := zr1_of (N := 8) hv (by omega)
      exact ⟨B, b1, b2, rfl⟩
    · rw [if_neg e]; exact g3
  · show ∃ q, q ≤ 100 ∧ upd (sC S) j v 0 = nI q
    unfold upd
    by_cases e : 0 = j
    · rw [if_pos e]
      subst e
      have e1 : nI 0 = 0 := rfl
      rw [e1, zal0, zbt_rg (N := 101) (by omega) (by omega)] at hv
      obtain ⟨q, hq, rfl⟩ := zrg_of (by omega) hv
      exact ⟨q, by omega, rfl⟩
    · rw [if_neg e]; exact g4
theorem zGo.iv (h : zGo S) : ∃ B, 1 ≤ B ∧ B ≤ 8 ∧ sC S 1 = nI B ∧ zIv B S := by
  obtain ⟨g1, g2, ⟨B, b1, b2, b3⟩, _⟩ := h
  refine ⟨B, b1, b2, b3, fun m hm => ?_, b3⟩
  obtain ⟨s, a, hs, e, _⟩ := g1.2.1 m hm
  rw [e]
  exact zrg_n (by omega) hs
theorem zFr_lt {f : Nat → Int32} : ∀ n i, zFr f n i < i + n → f (zFr f n i) = 0
  | 0, i, h => by rw [zFr] at h; omega
  | n + 1, i, h => by
    rw [zFr] at h ⊢
    by_cases e : f i = 0
    · rw [if_pos e]; exact e
    · rw [if_neg e] at h ⊢; exact zFr_lt n (i + 1) (by omega)
/-- a command leaves all as it must be -/
theorem zOb_go {B : Nat} (hB : B ≤ 8) (h : zGo S) (l n w : Int32) : zGo (zOb B S l n w).2 ∧ sC (zOb B S l n w).2 = sC S := by
  have pres : ∀ {x : Int32}, ¬ sSta S x = 0 → ∃ j, j < 8 ∧ x.toNatClampNeg = j ∧ ¬ sN S j = 0 := fun {x} hx => by
    obtain ⟨j, hj, rfl, e⟩ := zrg_st hx
    exact ⟨j, hj, zcl_n (by omega), by rw [← e]; exact hx⟩
  have e1 : (1 : Int32) = nI 1 := rfl
  unfold zOb
  by_cases h1 : l = nI 110
  · rw [if_pos h1]
    by_cases h2 : zr1 5 n = true ∧ zFr (sN S) 8 0 < 8
    · rw [if_pos h2]
      obtain ⟨v, v1, v2, rfl⟩ := zr1_of h2.1 (by omega)
      exact ⟨h.add h2.2 v1 v2, rfl⟩
    · rw [if_neg h2]; exact ⟨h, rfl⟩
  · rw [if_neg h1]
    by_cases h2 : l = nI 100
    · rw [if_pos h2]
      by_cases h3 : sSta S n = 1
      · rw [if_pos h3]
        obtain ⟨j, hj, e, hp⟩ := pres (x := n) (by rw [h3]; decide)
        rw [e]
        exact ⟨h.pN hj hp (by omega) (by omega), rfl⟩
      · rw [if_neg h3]; exact ⟨h, rfl⟩
    · rw [if_neg h2]
      by_cases h3 : l = nI 102
      · rw [if_pos h3]
        by_cases h4 : sSta S n = 1 ∨ sSta S n = nI 2
        · rw [if_pos h4]
          obtain ⟨j, hj, e, hp⟩ := pres (x := n) (by rcases h4 with g | g <;> rw [g] <;> decide)
          rw [e]
          exact ⟨h.pN hj hp (by omega) (by omega), rfl⟩
        · rw [if_neg h4]; exact ⟨h, rfl⟩
      · rw [if_neg h3]
        by_cases h4 : l = nI 114
        · rw [if_pos h4]
          by_cases h5 : sSta S n = nI 2 ∨ sSta S n = nI 3
          · rw [if_pos h5]
            obtain ⟨j, hj, e, hp⟩ := pres (x := n) (by rcases h5 with g | g <;> rw [g] <;> decide)
            rw [e, e1]
            exact ⟨h.pN hj hp (by omega) (by omega), rfl⟩
          · rw [if_neg h5]; exact ⟨h, rfl⟩
        · rw [if_neg h4]
          by_cases h5 : l = nI 119
          · rw [if_pos h5]
            by_cases h6 : ¬ sSta S n = 0 ∧ zr1 5 w = true
            · rw [if_pos h6]
              obtain ⟨j, hj, e, hp⟩ := pres (x := n) h6.1
              obtain ⟨v, v1, v2, rfl⟩ := zr1_of h6.2 (by omega)
              rw [e]
              exact ⟨h.pW hj hp v1 v2, rfl⟩
            · rw [if_neg h6]; exact ⟨h, rfl⟩
          · rw [if_neg h5]
            by_cases h6 : l = nI 116
            · rw [if_pos h6]
              by_cases h7 : zr1 50 n = true
              · rw [if_pos h7]
                exact ⟨zTk_okn hB (fun s _ => zTf_ow _ _ _ s) h _, (zTk_tf _ rfl).1.2.2⟩
              · rw [if_neg h7]; exact ⟨h, rfl⟩
            · rw [if_neg h6]; exact ⟨h, rfl⟩
theorem zRun_go {B : Nat} (hB : B ≤ 8) : ∀ (cs : List zCm) (X Y : zSt), zGo X → zRun B cs X = some Y → zGo Y
  | [], X, Y, h, e => by
    have e : some X = some Y := e
    rw [← Option.some.inj e]; exact h
  | c :: cs, X, Y, h, e => by
    rw [zRun] at e
    by_cases h1 : (zOb B X c.1 c.2.1 c.2.2).1 = true
    · rw [if_pos h1] at e
      exact zRun_go hB cs _ Y (zOb_go hB h _ _ _).1 e
    · rw [if_neg h1] at e
      exact absurd e (by simp)
/-- what the calls leave -/
theorem gDrain (h : zGA A) (hc : cC A ≤ 6) (hn : cN A < 6) (x : Int32) : zGA (qDrain A x).2 := by
  unfold qDrain
  split
  · exact h
  · split
    · rename_i h0 h1
      obtain ⟨j, hj, rfl, e⟩ := zrg_st h0
      unfold qSet
      rw [zcl_n (by omega)]
      exact h.kp hc hn (h.1.pN hj (by rw [← e]; exact h0) (by omega) (by omega))
    · exact h
theorem gFail (h : zGA A) (hc : cC A ≤ 6) (hn : cN A < 6) (x : Int32) : zGA (qFail A x).2 := by
  unfold qFail
  split
  · exact h
  · split
    · rename_i h0 h1
      obtain ⟨j, hj, rfl, e⟩ := zrg_st h0
      unfold qSet
      rw [zcl_n (by omega)]
      exact h.kp hc hn (h.1.pN hj (by rw [← e]; exact h0) (by omega) (by omega))
    · exact h
theorem gRecover (h : zGA A) (hc : cC A ≤ 6) (hn : cN A < 6) (x : Int32) : zGA (qRecover A x).2 := by
  unfold qRecover
  split
  · exact h
  · split
    · rename_i h0 h1
      obtain ⟨j, hj, rfl, e⟩ := zrg_st h0
      unfold qSet
      rw [zcl_n (by omega)]
      exact h.kp hc hn (h.1.pN (k := 1) hj (by rw [← e]; exact h0) (by omega) (by omega))
    · exact h
theorem gWei (h : zGA A) (hc : cC A ≤ 6) (hn : cN A < 6) (x w : Int32) : zGA (qWei A x w).2 := by
  unfold qWei
  split
  · exact h
  · split
    · rename_i h0 h1
      obtain ⟨j, hj, rfl, e⟩ := zrg_st h0
      obtain ⟨v, v1, v2, rfl⟩ := zr1_of h1 (by omega)
      rw [zcl_n (by omega)]
      exact h.kp hc hn (h.1.pW hj (by rw [← e]; exact h0) v1 v2)
    · exact h
theorem gAdd (h : zGA A) (hc : cC A ≤ 6) (hn : cN A < 6) (w : Int32) : zGA (qAdd A w).2 := by
  unfold qAdd
  split
  · rename_i h1
    split
    · rename_i h2
      obtain ⟨v, v1, v2, rfl⟩ := zr1_of h1 (by omega)
      exact h.kp hc hn (h.1.add h2 v1 v2)
    · exact h
  · exact h
theorem gSetting (h : zGA A) (hc : cC A ≤ 6) (hn : cN A < 6) (k v : Int32) : zGA (qSetting A k v).2 := by
  unfold qSetting
  split
  · rename_i h1
    exact h.kp hc hn (h.1.pC h1.1 h1.2)
  · exact h
theorem gTick (h : zGA A) (hc : cC A ≤ 6) (hn : cN A < 6) {B : Nat} (hB : B ≤ 8) (t : Int32) : zGA (qTick A B t).2 := by
  unfold qTick
  split
  · exact h.kp hc hn (zTk_okn hB (fun s _ => zTf_ow _ _ _ s) h.1 _)
  · exact h
theorem gForget (h : zGA A) (hc : cC A ≤ 6) (hn : cN A < 6) (x : Int32) : zGA (qForget A x).2 := by
  unfold qForget
  split
  · exact h.kp hc hn (show zGo (uE (cS A) _) from h.1)
  · exact h
theorem gPerf (h : zGA A) (hc : cC A ≤ 6) (hn : cN A < 6) {B : Nat} (hB : B ≤ 8) : zGA (qPerf A T B).2 := by
  unfold qPerf
  generalize pAll T 20 0 [] = r
  split
  · cases hz : zRun B r.2.2 (cS A) with
    | none => exact h
    | some Y => exact h.kp hc hn (zRun_go hB _ _ Y h.1 hz)
  · exact h
theorem gUndo (h : zGA A) (hc : cC A ≤ 6) (hn : cN A < 6) : zGA (qUndo A).2 := by
  unfold qUndo
  split
  · exact h
  · rename_i h0
    obtain ⟨g1, g2, g3⟩ := h
    refine ⟨?_, g2, fun i hi => ?_⟩
    · have := g3 (cC A - 1) (by omega)
      unfold pP at this
      have ei : (cN A + 6 - cC A + (cC A - 1)) % 6 = zNb (cN A) := by unfold zNb; split <;> omega
      rw [ei] at this
      exact this
    · have hi : i < cC A - 1 := hi
      have := g3 i (by omega)
      unfold pP at this ⊢
      have ei : (zNb (cN A) + 6 - (cC A - 1) + i) % 6 = (cN A + 6 - cC A + i) % 6 := by unfold zNb; split <;> omega
      show zGo (cK A ((zNb (cN A) + 6 - (cC A - 1) + i) % 6))
      rw [ei]
      exact this
theorem gSave (h : zGA A) : zGA (qSave A).2 := ⟨h.1, fun _ => h.1, h.2.2⟩
theorem gRestore (h : zGA A) : zGA (qRestore A).2 := by
  unfold qRestore
  split
  · rename_i hb
    exact ⟨h.2.1 hb, h.2.1, fun i hi => absurd (show i < 0 from hi) (by omega)⟩
  · exact h
end ZINVAR
