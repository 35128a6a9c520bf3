/-! ===== printed by wip/whole/genlay.py: where the cells lie once both objects are made ===== -/
section ZLAY
def zHk : Nat → Option Nat := fun i => [36, 47, 58, 69, 80, 91][i]?
def zSl : List zSh := [.inr (.inr (7, [some (some 1), some (some 12), some (some 23), some (some 34), some (some 102), some (some 108), some (some 115), none, none])), .inr (.inr (6, [some (some 2), some (some 3), some (some 4), some (some 5), some (some 6), some (some 7), some (some 8), some (some 10)])), .inl (0, 8), .inl (0, 8), .inl (0, 32), .inl (0, 32), .inl (0, 3), .inl (0, 7), .inr (.inr (4, [none, some (some 9), none])), .inl (0, 32), .inr (.inr (4, [none, some (some 11), none])), .inl (0, 120), .inr (.inr (6, [some (some 13), some (some 14), some (some 15), some (some 16), some (some 17), some (some 18), some (some 19), some (some 21)])), .inl (0, 8), .inl (0, 8), .inl (0, 32), .inl (0, 32), .inl (0, 3), .inl (0, 7), .inr (.inr (4, [none, some (some 20), none])), .inl (0, 32), .inr (.inr (4, [none, some (some 22), none])), .inl (0, 120), .inr (.inr (6, [some (some 24), some (some 25), some (some 26), some (some 27), some (some 28), some (some 29), some (some 30), some (some 32)])), .inl (0, 8), .inl (0, 8), .inl (0, 32), .inl (0, 32), .inl (0, 3), .inl (0, 7), .inr (.inr (4, [none, some (some 31), none])), .inl (0, 32), .inr (.inr (4, [none, some (some 33), none])), .inl (0, 120), .inr (.inr (2, [some (some 35), none, none])), .inr (.inl (6, zHk)), .inr (.inr (6, [some (some 37), some (some 38), some (some 39), some (some 40), some (some 41), some (some 42), some (some 43), some (some 45)])), .inl (0, 8), .inl (0, 8), .inl (0, 32), .inl (0, 32), .inl (0, 3), .inl (0, 7), .inr (.inr (4, [none, some (some 44), none])), .inl (0, 32), .inr (.inr (4, [none, some (some 46), none])), .inl (0, 120), .inr (.inr (6, [some (some 48), some (some 49), some (some 50), some (some 51), some (some 52), some (some 53), some (some 54), some (some 56)])), .inl (0, 8), .inl (0, 8), .inl (0, 32), .inl (0, 32), .inl (0, 3), .inl (0, 7), .inr (.inr (4, [none, some (some 55), none])), .inl (0, 32), .inr (.inr (4, [none, some (some 57), none])), .inl (0, 120), .inr (.inr (6, [some (some 59), some (some 60), some (some 61), some (some 62), some (some 63), some (some 64), some (some 65), some (some 67)])), .inl (0, 8), .inl (0, 8), .inl (0, 32), .inl (0, 32), .inl (0, 3), .inl (0, 7), .inr (.inr (4, [none, some (some 66), none])), .inl (0, 32), .inr (.inr (4, [none, some (some 68), none])), .inl (0, 120), .inr (.inr (6, [some (some 70), some (some 71), some (some 72), some (some 73), some (some 74), some (some 75), some (some 76), some (some 78)])), .inl (0, 8), .inl (0, 8), .inl (0, 32), .inl (0, 32), .inl (0, 3), .inl (0, 7), .inr (.inr (4, [none, some (some 77), none])), .inl (0, 32), .inr (.inr (4, [none, some (some 79), none])), .inl (0, 120), .inr (.inr (6, [some (some 81), some (some 82), some (some 83), some (some 84), some (some 85), some (some 86), some (some 87), some (some 89)])), .inl (0, 8), .inl (0, 8), .inl (0, 32), .inl (0, 32), .inl (0, 3), .inl (0, 7), .inr (.inr (4, [none, some (some 88), none])), .inl (0, 32), .inr (.inr (4, [none, some (some 90), none])), .inl (0, 120), .inr (.inr (6, [some (some 92), some (some 93), some (some 94), some (some 95), some (some 96), some (some 97), some (some 98), some (some 100)])), .inl (0, 8), .inl (0, 8), .inl (0, 32), .inl (0, 32), .inl (0, 3), .inl (0, 7), .inr (.inr (4, [none, some (some 99), none])), .inl (0, 32), .inr (.inr (4, [none, some (some 101), none])), .inl (0, 120), .inr (.inr (5, [some (some 103), none, none, some (some 104), some (some 105), some (some 106), none])), .inl (1, 60), .inl (0, 20), .inl (0, 20), .inl (0, 20), .inl (0, 160), .inr (.inr (3, [some (some 107), some (some 109), some (some 110), some (some 111), some (some 112), some (some 113), some (some 114), none, none])), .inl (0, 160), .inl (0, 8), .inl (0, 8), .inl (0, 8), .inl (0, 32), .inl (0, 32), .inr (.inr (3, [some (some 107), some (some 116), some (some 117), some (some 118), some (some 119), some (some 120), some (some 121), none, none])), .inl (0, 160), .inl (0, 8), .inl (0, 8), .inl (0, 8), .inl (0, 32), .inl (0, 32), .inr (.inr (8, [some (some 123), some (some 124), some (some 125), none, some (some 126), none, none, some (some 127), some (some 128), none, some (some 129), some (some 130), some (some 131), some (some 132), some (some 133), some (some 134), some (some 135), some (some 136), none, some (some 137), none, none, none, some (some 138)])), .inl (0, 340), .inl (0, 340), .inl (0, 340), .inl (0, 2040), .inl (0, 32), .inl (0, 32), .inl (0, 160), .inl (0, 160), .inl (0, 160), .inl (0, 8), .inl (0, 32), .inl (0, 32), .inl (0, 8), .inl (0, 32), .inl (0, 60), .inl (0, 180)]
def zSP (p : Nat) : zSh := zSl.getD p (.inl (0, 0))
def zhp (G : Nat → Nat → Int32) : zHp := (139, 7103, zSP, G)
def zw (G : Nat → Nat → Int32) (p k : Nat) (v : Int32) : Nat → Nat → Int32 := va_up G p (upd (G p) k v)
theorem zw_app (G : Nat → Nat → Int32) (p k q j : Nat) (v : Int32) : zw G p k v q j = if q = p ∧ j = k then v else G q j := by
  unfold zw va_up upd
  by_cases h : q = p
  · subst h; simp
  · simp [h]
theorem zw_eq (G : Nat → Nat → Int32) (p k : Nat) (v : Int32) : zw G p k v p k = v := by simp [zw_app]
theorem zw_ne {G : Nat → Nat → Int32} {p k q j : Nat} (v : Int32) (h : q ≠ p ∨ j ≠ k) : zw G p k v q j = G q j := by
  rw [zw_app, if_neg]
  rintro ⟨rfl, rfl⟩
  rcases h with h | h <;> exact h rfl
theorem zw_row {G : Nat → Nat → Int32} {p k : Nat} (v : Int32) : zw G p k v p = upd (G p) k v := by funext j; simp [zw, va_up]
theorem zw_oth {G : Nat → Nat → Int32} {p k q : Nat} (v : Int32) (h : q ≠ p) : zw G p k v q = G q := by funext j; simp [zw, va_up, h]
theorem zwr_w (G : Nat → Nat → Int32) (p k : Nat) (v : Int32) : zwr (zhp G) p (upd (G p) k v) = zhp (zw G p k v) := rfl
theorem zwr_a (G : Nat → Nat → Int32) (p : Nat) (f : Nat → Int32) : zwr (zhp G) p f = zhp (va_up G p f) := rfl
theorem zG_hp (G : Nat → Nat → Int32) : zG (zhp G) = G := rfl
theorem zS_hp (G : Nat → Nat → Int32) : zS (zhp G) = zSP := rfl
theorem zN_hp (G : Nat → Nat → Int32) : zN (zhp G) = 139 := rfl
theorem zgf_r {G : Nat → Nat → Int32} {p ci k q : Nat} {fs : List (Option (Option Nat))} (hp : p < 139) (hs : zSP p = .inr (.inr (ci, fs))) (hk : fs[k]? = some (some (some q))) : zgf (zhp G) p ci k = some (.ref q) := by
  simp [zgf, zN_hp, hp, zS_hp, hs, hk]
theorem zgf_i {G : Nat → Nat → Int32} {p ci k : Nat} {fs : List (Option (Option Nat))} (hp : p < 139) (hs : zSP p = .inr (.inr (ci, fs))) (hk : fs[k]? = some none) : zgf (zhp G) p ci k = some (.int (G p k)) := by
  simp [zgf, zN_hp, hp, zS_hp, hs, hk, zG_hp]
theorem zpf_i {G : Nat → Nat → Int32} {p ci k : Nat} {v : Int32} {fs : List (Option (Option Nat))} (hp : p < 139) (hs : zSP p = .inr (.inr (ci, fs))) (hk : fs[k]? = some none) (hb : zB ci k = false ∨ v = 0 ∨ v = 1) : zpf (zhp G) p ci k (.int v) = some (zhp (zw G p k v)) := by
  have h : ¬ (zB ci k = true ∧ ¬ (v = 0 ∨ v = 1)) := by
    rintro ⟨h1, h2⟩
    rcases hb with h | h
    · rw [h1] at h; cases h
    · exact h2 h
  simp only [zpf, zN_hp, hp, zS_hp, hs, hk, if_true, if_neg h]
  rfl
theorem zar_a {G : Nat → Nat → Int32} {p k n : Nat} (hp : p < 139) (hs : zSP p = .inl (k, n)) : zar (zhp G) p k = some n := by simp [zar, zN_hp, hp, zS_hp, hs]
theorem zob_o {G : Nat → Nat → Int32} {p ci : Nat} {fs : List (Option (Option Nat))} (hp : p < 139) (hs : zSP p = .inr (.inr (ci, fs))) : zob (zhp G) p ci = true := by simp [zob, zN_hp, hp, zS_hp, hs]
def zisT (p : Nat) : Bool := [1, 12, 23, 36, 47, 58, 69, 80, 91].any (fun q => Nat.beq p q)
theorem zisT_c {p : Nat} (h : zisT p = true) : p = 1 ∨ p = 12 ∨ p = 23 ∨ p = 36 ∨ p = 47 ∨ p = 58 ∨ p = 69 ∨ p = 80 ∨ p = 91 := by
  simp only [zisT, List.any_cons, List.any_nil, Bool.or_eq_true, Bool.or_false, Nat.beq_eq] at h
  exact h
theorem zisT_1 : zisT 1 = true := rfl
theorem zisT_12 : zisT 12 = true := rfl
theorem zisT_23 : zisT 23 = true := rfl
theorem zisT_36 : zisT 36 = true := rfl
theorem zisT_47 : zisT 47 = true := rfl
theorem zisT_58 : zisT 58 = true := rfl
theorem zisT_69 : zisT 69 = true := rfl
theorem zisT_80 : zisT 80 = true := rfl
theorem zisT_91 : zisT 91 = true := rfl
theorem zisT_lt {p : Nat} (h : zisT p = true) : p + 10 < 139 := by
  rcases zisT_c h with rfl | rfl | rfl | rfl | rfl | rfl | rfl | rfl | rfl <;> omega
def zisP (p : Nat) : Bool := [108, 115].any (fun q => Nat.beq p q)
theorem zisP_c {p : Nat} (h : zisP p = true) : p = 108 ∨ p = 115 := by
  simp only [zisP, List.any_cons, List.any_nil, Bool.or_eq_true, Bool.or_false, Nat.beq_eq] at h
  exact h
theorem zisP_108 : zisP 108 = true := rfl
theorem zisP_115 : zisP 115 = true := rfl
theorem zisP_lt {p : Nat} (h : zisP p = true) : p + 6 < 139 := by
  rcases zisP_c h with rfl | rfl <;> omega
def zisR (p : Nat) : Bool := [8, 10, 19, 21, 30, 32, 43, 45, 54, 56, 65, 67, 76, 78, 87, 89, 98, 100].any (fun q => Nat.beq p q)
theorem zisR_c {p : Nat} (h : zisR p = true) : p = 8 ∨ p = 10 ∨ p = 19 ∨ p = 21 ∨ p = 30 ∨ p = 32 ∨ p = 43 ∨ p = 45 ∨ p = 54 ∨ p = 56 ∨ p = 65 ∨ p = 67 ∨ p = 76 ∨ p = 78 ∨ p = 87 ∨ p = 89 ∨ p = 98 ∨ p = 100 := by
  simp only [zisR, List.any_cons, List.any_nil, Bool.or_eq_true, Bool.or_false, Nat.beq_eq] at h
  exact h
theorem zisR_8 : zisR 8 = true := rfl
theorem zisR_10 : zisR 10 = true := rfl
theorem zisR_19 : zisR 19 = true := rfl
theorem zisR_21 : zisR 21 = true := rfl
theorem zisR_30 : zisR 30 = true := rfl
theorem zisR_32 : zisR 32 = true := rfl
theorem zisR_43 : zisR 43 = true := rfl
theorem zisR_45 : zisR 45 = true := rfl
theorem zisR_54 : zisR 54 = true := rfl
theorem zisR_56 : zisR 56 = true := rfl
theorem zisR_65 : zisR 65 = true := rfl
theorem zisR_67 : zisR 67 = true := rfl
theorem zisR_76 : zisR 76 = true := rfl
theorem zisR_78 : zisR 78 = true := rfl
theorem zisR_87 : zisR 87 = true := rfl
theorem zisR_89 : zisR 89 = true := rfl
theorem zisR_98 : zisR 98 = true := rfl
theorem zisR_100 : zisR 100 = true := rfl
theorem zisR_lt {p : Nat} (h : zisR p = true) : p + 1 < 139 := by
  rcases zisR_c h with rfl | rfl | rfl | rfl | rfl | rfl | rfl | rfl | rfl | rfl | rfl | rfl | rfl | rfl | rfl | rfl | rfl | rfl <;> omega
theorem zSP_T0 {p : Nat} (h : zisT p = true) : zSP p = .inr (.inr (6, [some (some (p + 1)), some (some (p + 2)), some (some (p + 3)), some (some (p + 4)), some (some (p + 5)), some (some (p + 6)), some (some (p + 7)), some (some (p + 9))])) := by
  rcases zisT_c h with rfl | rfl | rfl | rfl | rfl | rfl | rfl | rfl | rfl <;> rfl
theorem gT0_0 {G : Nat → Nat → Int32} {p : Nat} (h : zisT p = true) : zgf (zhp G) p 6 0 = some (.ref (p + 1)) := zgf_r (Nat.lt_of_le_of_lt (by omega) (zisT_lt h)) (zSP_T0 h) rfl
theorem gT0_1 {G : Nat → Nat → Int32} {p : Nat} (h : zisT p = true) : zgf (zhp G) p 6 1 = some (.ref (p + 2)) := zgf_r (Nat.lt_of_le_of_lt (by omega) (zisT_lt h)) (zSP_T0 h) rfl
theorem gT0_2 {G : Nat → Nat → Int32} {p : Nat} (h : zisT p = true) : zgf (zhp G) p 6 2 = some (.ref (p + 3)) := zgf_r (Nat.lt_of_le_of_lt (by omega) (zisT_lt h)) (zSP_T0 h) rfl
theorem gT0_3 {G : Nat → Nat → Int32} {p : Nat} (h : zisT p = true) : zgf (zhp G) p 6 3 = some (.ref (p + 4)) := zgf_r (Nat.lt_of_le_of_lt (by omega) (zisT_lt h)) (zSP_T0 h) rfl
theorem gT0_4 {G : Nat → Nat → Int32} {p : Nat} (h : zisT p = true) : zgf (zhp G) p 6 4 = some (.ref (p + 5)) := zgf_r (Nat.lt_of_le_of_lt (by omega) (zisT_lt h)) (zSP_T0 h) rfl
theorem gT0_5 {G : Nat → Nat → Int32} {p : Nat} (h : zisT p = true) : zgf (zhp G) p 6 5 = some (.ref (p + 6)) := zgf_r (Nat.lt_of_le_of_lt (by omega) (zisT_lt h)) (zSP_T0 h) rfl
theorem gT0_6 {G : Nat → Nat → Int32} {p : Nat} (h : zisT p = true) : zgf (zhp G) p 6 6 = some (.ref (p + 7)) := zgf_r (Nat.lt_of_le_of_lt (by omega) (zisT_lt h)) (zSP_T0 h) rfl
theorem gT0_7 {G : Nat → Nat → Int32} {p : Nat} (h : zisT p = true) : zgf (zhp G) p 6 7 = some (.ref (p + 9)) := zgf_r (Nat.lt_of_le_of_lt (by omega) (zisT_lt h)) (zSP_T0 h) rfl
theorem oT0 {G : Nat → Nat → Int32} {p : Nat} (h : zisT p = true) : zob (zhp G) p 6 = true := zob_o (Nat.lt_of_le_of_lt (by omega) (zisT_lt h)) (zSP_T0 h)
theorem zSP_T1 {p : Nat} (h : zisT p = true) : zSP (p + 1) = .inl (0, 8) := by
  rcases zisT_c h with rfl | rfl | rfl | rfl | rfl | rfl | rfl | rfl | rfl <;> rfl
theorem aT1 {G : Nat → Nat → Int32} {p : Nat} (h : zisT p = true) : zar (zhp G) (p + 1) 0 = some 8 := zar_a (Nat.lt_of_le_of_lt (by omega) (zisT_lt h)) (zSP_T1 h)
theorem zSP_T2 {p : Nat} (h : zisT p = true) : zSP (p + 2) = .inl (0, 8) := by
  rcases zisT_c h with rfl | rfl | rfl | rfl | rfl | rfl | rfl | rfl | rfl <;> rfl
theorem aT2 {G : Nat → Nat → Int32} {p : Nat} (h : zisT p = true) : zar (zhp G) (p + 2) 0 = some 8 := zar_a (Nat.lt_of_le_of_lt (by omega) (zisT_lt h)) (zSP_T2 h)
theorem zSP_T3 {p : Nat} (h : zisT p = true) : zSP (p + 3) = .inl (0, 32) := by
  rcases zisT_c h with rfl | rfl | rfl | rfl | rfl | rfl | rfl | rfl | rfl <;> rfl
theorem aT3 {G : Nat → Nat → Int32} {p : Nat} (h : zisT p = true) : zar (zhp G) (p + 3) 0 = some 32 := zar_a (Nat.lt_of_le_of_lt (by omega) (zisT_lt h)) (zSP_T3 h)
theorem zSP_T4 {p : Nat} (h : zisT p = true) : zSP (p + 4) = .inl (0, 32) := by
  rcases zisT_c h with rfl | rfl | rfl | rfl | rfl | rfl | rfl | rfl | rfl <;> rfl
theorem aT4 {G : Nat → Nat → Int32} {p : Nat} (h : zisT p = true) : zar (zhp G) (p + 4) 0 = some 32 := zar_a (Nat.lt_of_le_of_lt (by omega) (zisT_lt h)) (zSP_T4 h)
theorem zSP_T5 {p : Nat} (h : zisT p = true) : zSP (p + 5) = .inl (0, 3) := by
  rcases zisT_c h with rfl | rfl | rfl | rfl | rfl | rfl | rfl | rfl | rfl <;> rfl
theorem aT5 {G : Nat → Nat → Int32} {p : Nat} (h : zisT p = true) : zar (zhp G) (p + 5) 0 = some 3 := zar_a (Nat.lt_of_le_of_lt (by omega) (zisT_lt h)) (zSP_T5 h)
theorem zSP_T6 {p : Nat} (h : zisT p = true) : zSP (p + 6) = .inl (0, 7) := by
  rcases zisT_c h with rfl | rfl | rfl | rfl | rfl | rfl | rfl | rfl | rfl <;> rfl
theorem aT6 {G : Nat → Nat → Int32} {p : Nat} (h : zisT p = true) : zar (zhp G) (p + 6) 0 = some 7 := zar_a (Nat.lt_of_le_of_lt (by omega) (zisT_lt h)) (zSP_T6 h)
theorem zSP_T7 {p : Nat} (h : zisT p = true) : zSP (p + 7) = .inr (.inr (4, [none, some (some (p + 8)), none])) := by
  rcases zisT_c h with rfl | rfl | rfl | rfl | rfl | rfl | rfl | rfl | rfl <;> rfl
theorem gT7_0 {G : Nat → Nat → Int32} {p : Nat} (h : zisT p = true) : zgf (zhp G) (p + 7) 4 0 = some (.int (G (p + 7) 0)) := zgf_i (Nat.lt_of_le_of_lt (by omega) (zisT_lt h)) (zSP_T7 h) rfl
theorem pgT7_0 {G : Nat → Nat → Int32} {p : Nat} {v : Int32} (h : zisT p = true) : zpf (zhp G) (p + 7) 4 0 (.int v) = some (zhp (zw G (p + 7) 0 v)) := zpf_i (Nat.lt_of_le_of_lt (by omega) (zisT_lt h)) (zSP_T7 h) rfl (Or.inl rfl)
theorem gT7_1 {G : Nat → Nat → Int32} {p : Nat} (h : zisT p = true) : zgf (zhp G) (p + 7) 4 1 = some (.ref (p + 8)) := zgf_r (Nat.lt_of_le_of_lt (by omega) (zisT_lt h)) (zSP_T7 h) rfl
theorem gT7_2 {G : Nat → Nat → Int32} {p : Nat} (h : zisT p = true) : zgf (zhp G) (p + 7) 4 2 = some (.int (G (p + 7) 2)) := zgf_i (Nat.lt_of_le_of_lt (by omega) (zisT_lt h)) (zSP_T7 h) rfl
theorem pgT7_2 {G : Nat → Nat → Int32} {p : Nat} {v : Int32} (h : zisT p = true) : zpf (zhp G) (p + 7) 4 2 (.int v) = some (zhp (zw G (p + 7) 2 v)) := zpf_i (Nat.lt_of_le_of_lt (by omega) (zisT_lt h)) (zSP_T7 h) rfl (Or.inl rfl)
theorem oT7 {G : Nat → Nat → Int32} {p : Nat} (h : zisT p = true) : zob (zhp G) (p + 7) 4 = true := zob_o (Nat.lt_of_le_of_lt (by omega) (zisT_lt h)) (zSP_T7 h)
theorem zSP_T8 {p : Nat} (h : zisT p = true) : zSP (p + 8) = .inl (0, 32) := by
  rcases zisT_c h with rfl | rfl | rfl | rfl | rfl | rfl | rfl | rfl | rfl <;> rfl
theorem aT8 {G : Nat → Nat → Int32} {p : Nat} (h : zisT p = true) : zar (zhp G) (p + 8) 0 = some 32 := zar_a (Nat.lt_of_le_of_lt (by omega) (zisT_lt h)) (zSP_T8 h)
theorem zSP_T9 {p : Nat} (h : zisT p = true) : zSP (p + 9) = .inr (.inr (4, [none, some (some (p + 10)), none])) := by
  rcases zisT_c h with rfl | rfl | rfl | rfl | rfl | rfl | rfl | rfl | rfl <;> rfl
theorem gT9_0 {G : Nat → Nat → Int32} {p : Nat} (h : zisT p = true) : zgf (zhp G) (p + 9) 4 0 = some (.int (G (p + 9) 0)) := zgf_i (Nat.lt_of_le_of_lt (by omega) (zisT_lt h)) (zSP_T9 h) rfl
theorem pgT9_0 {G : Nat → Nat → Int32} {p : Nat} {v : Int32} (h : zisT p = true) : zpf (zhp G) (p + 9) 4 0 (.int v) = some (zhp (zw G (p + 9) 0 v)) := zpf_i (Nat.lt_of_le_of_lt (by omega) (zisT_lt h)) (zSP_T9 h) rfl (Or.inl rfl)
theorem gT9_1 {G : Nat → Nat → Int32} {p : Nat} (h : zisT p = true) : zgf (zhp G) (p + 9) 4 1 = some (.ref (p + 10)) := zgf_r (Nat.lt_of_le_of_lt (by omega) (zisT_lt h)) (zSP_T9 h) rfl
theorem gT9_2 {G : Nat → Nat → Int32} {p : Nat} (h : zisT p = true) : zgf (zhp G) (p + 9) 4 2 = some (.int (G (p + 9) 2)) := zgf_i (Nat.lt_of_le_of_lt (by omega) (zisT_lt h)) (zSP_T9 h) rfl
theorem pgT9_2 {G : Nat → Nat → Int32} {p : Nat} {v : Int32} (h : zisT p = true) : zpf (zhp G) (p + 9) 4 2 (.int v) = some (zhp (zw G (p + 9) 2 v)) := zpf_i (Nat.lt_of_le_of_lt (by omega) (zisT_lt h)) (zSP_T9 h) rfl (Or.inl rfl)
theorem oT9 {G : Nat → Nat → Int32} {p : Nat} (h : zisT p = true) : zob (zhp G) (p + 9) 4 = true := zob_o (Nat.lt_of_le_of_lt (by omega) (zisT_lt h)) (zSP_T9 h)
theorem zSP_T10 {p : Nat} (h : zisT p = true) : zSP (p + 10) = .inl (0, 120) := by
  rcases zisT_c h with rfl | rfl | rfl | rfl | rfl | rfl | rfl | rfl | rfl <;> rfl
theorem aT10 {G : Nat → Nat → Int32} {p : Nat} (h : zisT p = true) : zar (zhp G) (p + 10) 0 = some 120 := zar_a (Nat.lt_of_le_of_lt (by omega) (zisT_lt h)) (zSP_T10 h)
theorem zSP_P0 {p : Nat} (h : zisP p = true) : zSP p = .inr (.inr (3, [some (some 107), some (some (p + 1)), some (some (p + 2)), some (some (p + 3)), some (some (p + 4)), some (some (p + 5)), some (some (p + 6)), none, none])) := by
  rcases zisP_c h with rfl | rfl <;> rfl
theorem gP0_0 {G : Nat → Nat → Int32} {p : Nat} (h : zisP p = true) : zgf (zhp G) p 3 0 = some (.ref 107) := zgf_r (Nat.lt_of_le_of_lt (by omega) (zisP_lt h)) (zSP_P0 h) rfl
theorem gP0_1 {G : Nat → Nat → Int32} {p : Nat} (h : zisP p = true) : zgf (zhp G) p 3 1 = some (.ref (p + 1)) := zgf_r (Nat.lt_of_le_of_lt (by omega) (zisP_lt h)) (zSP_P0 h) rfl
theorem gP0_2 {G : Nat → Nat → Int32} {p : Nat} (h : zisP p = true) : zgf (zhp G) p 3 2 = some (.ref (p + 2)) := zgf_r (Nat.lt_of_le_of_lt (by omega) (zisP_lt h)) (zSP_P0 h) rfl
theorem gP0_3 {G : Nat → Nat → Int32} {p : Nat} (h : zisP p = true) : zgf (zhp G) p 3 3 = some (.ref (p + 3)) := zgf_r (Nat.lt_of_le_of_lt (by omega) (zisP_lt h)) (zSP_P0 h) rfl
theorem gP0_4 {G : Nat → Nat → Int32} {p : Nat} (h : zisP p = true) : zgf (zhp G) p 3 4 = some (.ref (p + 4)) := zgf_r (Nat.lt_of_le_of_lt (by omega) (zisP_lt h)) (zSP_P0 h) rfl
theorem gP0_5 {G : Nat → Nat → Int32} {p : Nat} (h : zisP p = true) : zgf (zhp G) p 3 5 = some (.ref (p + 5)) := zgf_r (Nat.lt_of_le_of_lt (by omega) (zisP_lt h)) (zSP_P0 h) rfl
theorem gP0_6 {G : Nat → Nat → Int32} {p : Nat} (h : zisP p = true) : zgf (zhp G) p 3 6 = some (.ref (p + 6)) := zgf_r (Nat.lt_of_le_of_lt (by omega) (zisP_lt h)) (zSP_P0 h) rfl
theorem gP0_7 {G : Nat → Nat → Int32} {p : Nat} (h : zisP p = true) : zgf (zhp G) p 3 7 = some (.int (G p 7)) := zgf_i (Nat.lt_of_le_of_lt (by omega) (zisP_lt h)) (zSP_P0 h) rfl
theorem pgP0_7 {G : Nat → Nat → Int32} {p : Nat} {v : Int32} (h : zisP p = true) : zpf (zhp G) p 3 7 (.int v) = some (zhp (zw G p 7 v)) := zpf_i (Nat.lt_of_le_of_lt (by omega) (zisP_lt h)) (zSP_P0 h) rfl (Or.inl rfl)
theorem gP0_8 {G : Nat → Nat → Int32} {p : Nat} (h : zisP p = true) : zgf (zhp G) p 3 8 = some (.int (G p 8)) := zgf_i (Nat.lt_of_le_of_lt (by omega) (zisP_lt h)) (zSP_P0 h) rfl
theorem pgP0_8 {G : Nat → Nat → Int32} {p : Nat} {v : Int32} (h : zisP p = true) : zpf (zhp G) p 3 8 (.int v) = some (zhp (zw G p 8 v)) := zpf_i (Nat.lt_of_le_of_lt (by omega) (zisP_lt h)) (zSP_P0 h) rfl (Or.inl rfl)
theorem oP0 {G : Nat → Nat → Int32} {p : Nat} (h : zisP p = true) : zob (zhp G) p 3 = true := zob_o (Nat.lt_of_le_of_lt (by omega) (zisP_lt h)) (zSP_P0 h)
theorem zSP_P1 {p : Nat} (h : zisP p = true) : zSP (p + 1) = .inl (0, 160) := by
  rcases zisP_c h with rfl | rfl <;> rfl
theorem aP1 {G : Nat → Nat → Int32} {p : Nat} (h : zisP p = true) : zar (zhp G) (p + 1) 0 = some 160 := zar_a (Nat.lt_of_le_of_lt (by omega) (zisP_lt h)) (zSP_P1 h)
theorem zSP_P2 {p : Nat} (h : zisP p = true) : zSP (p + 2) = .inl (0, 8) := by
  rcases zisP_c h with rfl | rfl <;> rfl
theorem aP2 {G : Nat → Nat → Int32} {p : Nat} (h : zisP p = true) : zar (zhp G) (p + 2) 0 = some 8 := zar_a (Nat.lt_of_le_of_lt (by omega) (zisP_lt h)) (zSP_P2 h)
theorem zSP_P3 {p : Nat} (h : zisP p = true) : zSP (p + 3) = .inl (0, 8) := by
  rcases zisP_c h with rfl | rfl <;> rfl
theorem aP3 {G : Nat → Nat → Int32} {p : Nat} (h : zisP p = true) : zar (zhp G) (p + 3) 0 = some 8 := zar_a (Nat.lt_of_le_of_lt (by omega) (zisP_lt h)) (zSP_P3 h)
theorem zSP_P4 {p : Nat} (h : zisP p = true) : zSP (p + 4) = .inl (0, 8) := by
  rcases zisP_c h with rfl | rfl <;> rfl
theorem aP4 {G : Nat → Nat → Int32} {p : Nat} (h : zisP p = true) : zar (zhp G) (p + 4) 0 = some 8 := zar_a (Nat.lt_of_le_of_lt (by omega) (zisP_lt h)) (zSP_P4 h)
theorem zSP_P5 {p : Nat} (h : zisP p = true) : zSP (p + 5) = .inl (0, 32) := by
  rcases zisP_c h with rfl | rfl <;> rfl
theorem aP5 {G : Nat → Nat → Int32} {p : Nat} (h : zisP p = true) : zar (zhp G) (p + 5) 0 = some 32 := zar_a (Nat.lt_of_le_of_lt (by omega) (zisP_lt h)) (zSP_P5 h)
theorem zSP_P6 {p : Nat} (h : zisP p = true) : zSP (p + 6) = .inl (0, 32) := by
  rcases zisP_c h with rfl | rfl <;> rfl
theorem aP6 {G : Nat → Nat → Int32} {p : Nat} (h : zisP p = true) : zar (zhp G) (p + 6) 0 = some 32 := zar_a (Nat.lt_of_le_of_lt (by omega) (zisP_lt h)) (zSP_P6 h)
theorem zSP_R0 {p : Nat} (h : zisR p = true) : zSP p = .inr (.inr (4, [none, some (some (p + 1)), none])) := by
  rcases zisR_c h with rfl | rfl | rfl | rfl | rfl | rfl | rfl | rfl | rfl | rfl | rfl | rfl | rfl | rfl | rfl | rfl | rfl | rfl <;> rfl
def zRl (p : Nat) : Nat := match zSP (p + 1) with
  | .inl (_, n) => n
  | _ => 0
theorem zSP_R1 {p : Nat} (h : zisR p = true) : zSP (p + 1) = .inl (0, zRl p) := by
  rcases zisR_c h with rfl | rfl | rfl | rfl | rfl | rfl | rfl | rfl | rfl | rfl | rfl | rfl | rfl | rfl | rfl | rfl | rfl | rfl <;> rfl
theorem zRl_or {p : Nat} (h : zisR p = true) : zRl p = 32 ∨ zRl p = 120 := by
  rcases zisR_c h with rfl | rfl | rfl | rfl | rfl | rfl | rfl | rfl | rfl | rfl | rfl | rfl | rfl | rfl | rfl | rfl | rfl | rfl <;> first | exact Or.inl rfl | exact Or.inr rfl
theorem gR0_0 {G : Nat → Nat → Int32} {p : Nat} (h : zisR p = true) : zgf (zhp G) p 4 0 = some (.int (G p 0)) := zgf_i (Nat.lt_of_le_of_lt (by omega) (zisR_lt h)) (zSP_R0 h) rfl
theorem pgR0_0 {G : Nat → Nat → Int32} {p : Nat} {v : Int32} (h : zisR p = true) : zpf (zhp G) p 4 0 (.int v) = some (zhp (zw G p 0 v)) := zpf_i (Nat.lt_of_le_of_lt (by omega) (zisR_lt h)) (zSP_R0 h) rfl (Or.inl rfl)
theorem gR0_1 {G : Nat → Nat → Int32} {p : Nat} (h : zisR p = true) : zgf (zhp G) p 4 1 = some (.ref (p + 1)) := zgf_r (Nat.lt_of_le_of_lt (by omega) (zisR_lt h)) (zSP_R0 h) rfl
theorem gR0_2 {G : Nat → Nat → Int32} {p : Nat} (h : zisR p = true) : zgf (zhp G) p 4 2 = some (.int (G p 2)) := zgf_i (Nat.lt_of_le_of_lt (by omega) (zisR_lt h)) (zSP_R0 h) rfl
theorem pgR0_2 {G : Nat → Nat → Int32} {p : Nat} {v : Int32} (h : zisR p = true) : zpf (zhp G) p 4 2 (.int v) = some (zhp (zw G p 2 v)) := zpf_i (Nat.lt_of_le_of_lt (by omega) (zisR_lt h)) (zSP_R0 h) rfl (Or.inl rfl)
theorem oR0 {G : Nat → Nat → Int32} {p : Nat} (h : zisR p = true) : zob (zhp G) p 4 = true := zob_o (Nat.lt_of_le_of_lt (by omega) (zisR_lt h)) (zSP_R0 h)
theorem aR1 {G : Nat → Nat → Int32} {p : Nat} (h : zisR p = true) : zar (zhp G) (p + 1) 0 = some (zRl p) := zar_a (zisR_lt h) (zSP_R1 h)
theorem zisR_T7 {p : Nat} (h : zisT p = true) : zisR (p + 7) = true := by
  rcases zisT_c h with rfl | rfl | rfl | rfl | rfl | rfl | rfl | rfl | rfl <;> rfl
theorem zRl_T7 {p : Nat} (h : zisT p = true) : zRl (p + 7) = 32 := by
  rcases zisT_c h with rfl | rfl | rfl | rfl | rfl | rfl | rfl | rfl | rfl <;> rfl
theorem zisR_T9 {p : Nat} (h : zisT p = true) : zisR (p + 9) = true := by
  rcases zisT_c h with rfl | rfl | rfl | rfl | rfl | rfl | rfl | rfl | rfl <;> rfl
theorem zRl_T9 {p : Nat} (h : zisT p = true) : zRl (p + 9) = 120 := by
  rcases zisT_c h with rfl | rfl | rfl | rfl | rfl | rfl | rfl | rfl | rfl <;> rfl
theorem g0_0 {G : Nat → Nat → Int32} : zgf (zhp G) 0 7 0 = some (.ref 1) := rfl
theorem g0_1 {G : Nat → Nat → Int32} : zgf (zhp G) 0 7 1 = some (.ref 12) := rfl
theorem g0_2 {G : Nat → Nat → Int32} : zgf (zhp G) 0 7 2 = some (.ref 23) := rfl
theorem g0_3 {G : Nat → Nat → Int32} : zgf (zhp G) 0 7 3 = some (.ref 34) := rfl
theorem g0_4 {G : Nat → Nat → Int32} : zgf (zhp G) 0 7 4 = some (.ref 102) := rfl
theorem g0_5 {G : Nat → Nat → Int32} : zgf (zhp G) 0 7 5 = some (.ref 108) := rfl
theorem g0_6 {G : Nat → Nat → Int32} : zgf (zhp G) 0 7 6 = some (.ref 115) := rfl
theorem g0_7 {G : Nat → Nat → Int32} : zgf (zhp G) 0 7 7 = some (.int (G 0 7)) := rfl
theorem pg0_7 {G : Nat → Nat → Int32} {v : Int32} (hv : v = 0 ∨ v = 1) : zpf (zhp G) 0 7 7 (.int v) = some (zhp (zw G 0 7 v)) := zpf_i (fs := [some (some 1), some (some 12), some (some 23), some (some 34), some (some 102), some (some 108), some (some 115), none, none]) (by decide) rfl rfl (Or.inr hv)
theorem g0_8 {G : Nat → Nat → Int32} : zgf (zhp G) 0 7 8 = some (.int (G 0 8)) := rfl
theorem pg0_8 {G : Nat → Nat → Int32} {v : Int32} (hv : v = 0 ∨ v = 1) : zpf (zhp G) 0 7 8 (.int v) = some (zhp (zw G 0 8 v)) := zpf_i (fs := [some (some 1), some (some 12), some (some 23), some (some 34), some (some 102), some (some 108), some (some 115), none, none]) (by decide) rfl rfl (Or.inr hv)
theorem o0 {G : Nat → Nat → Int32} : zob (zhp G) 0 7 = true := rfl
theorem g34_0 {G : Nat → Nat → Int32} : zgf (zhp G) 34 2 0 = some (.ref 35) := rfl
theorem g34_1 {G : Nat → Nat → Int32} : zgf (zhp G) 34 2 1 = some (.int (G 34 1)) := rfl
theorem pg34_1 {G : Nat → Nat → Int32} {v : Int32} : zpf (zhp G) 34 2 1 (.int v) = some (zhp (zw G 34 1 v)) := zpf_i (fs := [some (some 35), none, none]) (by decide) rfl rfl (Or.inl rfl)
theorem g34_2 {G : Nat → Nat → Int32} : zgf (zhp G) 34 2 2 = some (.int (G 34 2)) := rfl
theorem pg34_2 {G : Nat → Nat → Int32} {v : Int32} : zpf (zhp G) 34 2 2 (.int v) = some (zhp (zw G 34 2 v)) := zpf_i (fs := [some (some 35), none, none]) (by decide) rfl rfl (Or.inl rfl)
theorem o34 {G : Nat → Nat → Int32} : zob (zhp G) 34 2 = true := rfl
theorem g102_0 {G : Nat → Nat → Int32} : zgf (zhp G) 102 5 0 = some (.ref 103) := rfl
theorem g102_1 {G : Nat → Nat → Int32} : zgf (zhp G) 102 5 1 = some (.int (G 102 1)) := rfl
theorem pg102_1 {G : Nat → Nat → Int32} {v : Int32} : zpf (zhp G) 102 5 1 (.int v) = some (zhp (zw G 102 1 v)) := zpf_i (fs := [some (some 103), none, none, some (some 104), some (some 105), some (some 106), none]) (by decide) rfl rfl (Or.inl rfl)
theorem g102_2 {G : Nat → Nat → Int32} : zgf (zhp G) 102 5 2 = some (.int (G 102 2)) := rfl
theorem pg102_2 {G : Nat → Nat → Int32} {v : Int32} : zpf (zhp G) 102 5 2 (.int v) = some (zhp (zw G 102 2 v)) := zpf_i (fs := [some (some 103), none, none, some (some 104), some (some 105), some (some 106), none]) (by decide) rfl rfl (Or.inl rfl)
theorem g102_3 {G : Nat → Nat → Int32} : zgf (zhp G) 102 5 3 = some (.ref 104) := rfl
theorem g102_4 {G : Nat → Nat → Int32} : zgf (zhp G) 102 5 4 = some (.ref 105) := rfl
theorem g102_5 {G : Nat → Nat → Int32} : zgf (zhp G) 102 5 5 = some (.ref 106) := rfl
theorem g102_6 {G : Nat → Nat → Int32} : zgf (zhp G) 102 5 6 = some (.int (G 102 6)) := rfl
theorem pg102_6 {G : Nat → Nat → Int32} {v : Int32} : zpf (zhp G) 102 5 6 (.int v) = some (zhp (zw G 102 6 v)) := zpf_i (fs := [some (some 103), none, none, some (some 104), some (some 105), some (some 106), none]) (by decide) rfl rfl (Or.inl rfl)
theorem o102 {G : Nat → Nat → Int32} : zob (zhp G) 102 5 = true := rfl
theorem g122_0 {G : Nat → Nat → Int32} : zgf (zhp G) 122 8 0 = some (.ref 123) := rfl
theorem g122_1 {G : Nat → Nat → Int32} : zgf (zhp G) 122 8 1 = some (.ref 124) := rfl
theorem g122_2 {G : Nat → Nat → Int32} : zgf (zhp G) 122 8 2 = some (.ref 125) := rfl
theorem g122_3 {G : Nat → Nat → Int32} : zgf (zhp G) 122 8 3 = some (.int (G 122 3)) := rfl
theorem pg122_3 {G : Nat → Nat → Int32} {v : Int32} (hv : v = 0 ∨ v = 1) : zpf (zhp G) 122 8 3 (.int v) = some (zhp (zw G 122 3 v)) := zpf_i (fs := [some (some 123), some (some 124), some (some 125), none, some (some 126), none, none, some (some 127), some (some 128), none, some (some 129), some (some 130), some (some 131), some (some 132), some (some 133), some (some 134), some (some 135), some (some 136), none, some (some 137), none, none, none, some (some 138)]) (by decide) rfl rfl (Or.inr hv)
theorem g122_4 {G : Nat → Nat → Int32} : zgf (zhp G) 122 8 4 = some (.ref 126) := rfl
theorem g122_5 {G : Nat → Nat → Int32} : zgf (zhp G) 122 8 5 = some (.int (G 122 5)) := rfl
theorem pg122_5 {G : Nat → Nat → Int32} {v : Int32} : zpf (zhp G) 122 8 5 (.int v) = some (zhp (zw G 122 5 v)) := zpf_i (fs := [some (some 123), some (some 124), some (some 125), none, some (some 126), none, none, some (some 127), some (some 128), none, some (some 129), some (some 130), some (some 131), some (some 132), some (some 133), some (some 134), some (some 135), some (some 136), none, some (some 137), none, none, none, some (some 138)]) (by decide) rfl rfl (Or.inl rfl)
theorem g122_6 {G : Nat → Nat → Int32} : zgf (zhp G) 122 8 6 = some (.int (G 122 6)) := rfl
theorem pg122_6 {G : Nat → Nat → Int32} {v : Int32} : zpf (zhp G) 122 8 6 (.int v) = some (zhp (zw G 122 6 v)) := zpf_i (fs := [some (some 123), some (some 124), some (some 125), none, some (some 126), none, none, some (some 127), some (some 128), none, some (some 129), some (some 130), some (some 131), some (some 132), some (some 133), some (some 134), some (some 135), some (some 136), none, some (some 137), none, none, none, some (some 138)]) (by decide) rfl rfl (Or.inl rfl)
theorem g122_7 {G : Nat → Nat → Int32} : zgf (zhp G) 122 8 7 = some (.ref 127) := rfl
theorem g122_8 {G : Nat → Nat → Int32} : zgf (zhp G) 122 8 8 = some (.ref 128) := rfl
theorem g122_9 {G : Nat → Nat → Int32} : zgf (zhp G) 122 8 9 = some (.int (G 122 9)) := rfl
theorem pg122_9 {G : Nat → Nat → Int32} {v : Int32} : zpf (zhp G) 122 8 9 (.int v) = some (zhp (zw G 122 9 v)) := zpf_i (fs := [some (some 123), some (some 124), some (some 125), none, some (some 126), none, none, some (some 127), some (some 128), none, some (some 129), some (some 130), some (some 131), some (some 132), some (some 133), some (some 134), some (some 135), some (some 136), none, some (some 137), none, none, none, some (some 138)]) (by decide) rfl rfl (Or.inl rfl)
theorem g122_10 {G : Nat → Nat → Int32} : zgf (zhp G) 122 8 10 = some (.ref 129) := rfl
theorem g122_11 {G : Nat → Nat → Int32} : zgf (zhp G) 122 8 11 = some (.ref 130) := rfl
theorem g122_12 {G : Nat → Nat → Int32} : zgf (zhp G) 122 8 12 = some (.ref 131) := rfl
theorem g122_13 {G : Nat → Nat → Int32} : zgf (zhp G) 122 8 13 = some (.ref 132) := rfl
theorem g122_14 {G : Nat → Nat → Int32} : zgf (zhp G) 122 8 14 = some (.ref 133) := rfl
theorem g122_15 {G : Nat → Nat → Int32} : zgf (zhp G) 122 8 15 = some (.ref 134) := rfl
theorem g122_16 {G : Nat → Nat → Int32} : zgf (zhp G) 122 8 16 = some (.ref 135) := rfl
theorem g122_17 {G : Nat → Nat → Int32} : zgf (zhp G) 122 8 17 = some (.ref 136) := rfl
theorem g122_18 {G : Nat → Nat → Int32} : zgf (zhp G) 122 8 18 = some (.int (G 122 18)) := rfl
theorem pg122_18 {G : Nat → Nat → Int32} {v : Int32} : zpf (zhp G) 122 8 18 (.int v) = some (zhp (zw G 122 18 v)) := zpf_i (fs := [some (some 123), some (some 124), some (some 125), none, some (some 126), none, none, some (some 127), some (some 128), none, some (some 129), some (some 130), some (some 131), some (some 132), some (some 133), some (some 134), some (some 135), some (some 136), none, some (some 137), none, none, none, some (some 138)]) (by decide) rfl rfl (Or.inl rfl)
theorem g122_19 {G : Nat → Nat → Int32} : zgf (zhp G) 122 8 19 = some (.ref 137) := rfl
theorem g122_20 {G : Nat → Nat → Int32} : zgf (zhp G) 122 8 20 = some (.int (G 122 20)) := rfl
theorem pg122_20 {G : Nat → Nat → Int32} {v : Int32} : zpf (zhp G) 122 8 20 (.int v) = some (zhp (zw G 122 20 v)) := zpf_i (fs := [some (some 123), some (some 124), some (some 125), none, some (some 126), none, none, some (some 127), some (some 128), none, some (some 129), some (some 130), some (some 131), some (some 132), some (some 133), some (some 134), some (some 135), some (some 136), none, some (some 137), none, none, none, some (some 138)]) (by decide) rfl rfl (Or.inl rfl)
theorem g122_21 {G : Nat → Nat → Int32} : zgf (zhp G) 122 8 21 = some (.int (G 122 21)) := rfl
theorem pg122_21 {G : Nat → Nat → Int32} {v : Int32} (hv : v = 0 ∨ v = 1) : zpf (zhp G) 122 8 21 (.int v) = some (zhp (zw G 122 21 v)) := zpf_i (fs := [some (some 123), some (some 124), some (some 125), none, some (some 126), none, none, some (some 127), some (some 128), none, some (some 129), some (some 130), some (some 131), some (some 132), some (some 133), some (some 134), some (some 135), some (some 136), none, some (some 137), none, none, none, some (some 138)]) (by decide) rfl rfl (Or.inr hv)
theorem g122_22 {G : Nat → Nat → Int32} : zgf (zhp G) 122 8 22 = some (.int (G 122 22)) := rfl
theorem pg122_22 {G : Nat → Nat → Int32} {v : Int32} : zpf (zhp G) 122 8 22 (.int v) = some (zhp (zw G 122 22 v)) := zpf_i (fs := [some (some 123), some (some 124), some (some 125), none, some (some 126), none, none, some (some 127), some (some 128), none, some (some 129), some (some 130), some (some 131), some (some 132), some (some 133), some (some 134), some (some 135), some (some 136), none, some (some 137), none, none, none, some (some 138)]) (by decide) rfl rfl (Or.inl rfl)
theorem g122_23 {G : Nat → Nat → Int32} : zgf (zhp G) 122 8 23 = some (.ref 138) := rfl
theorem o122 {G : Nat → Nat → Int32} : zob (zhp G) 122 8 = true := rfl
theorem a103 {G : Nat → Nat → Int32} : zar (zhp G) 103 1 = some 60 := rfl
theorem a104 {G : Nat → Nat → Int32} : zar (zhp G) 104 0 = some 20 := rfl
theorem a105 {G : Nat → Nat → Int32} : zar (zhp G) 105 0 = some 20 := rfl
theorem a106 {G : Nat → Nat → Int32} : zar (zhp G) 106 0 = some 20 := rfl
theorem a107 {G : Nat → Nat → Int32} : zar (zhp G) 107 0 = some 160 := rfl
theorem a123 {G : Nat → Nat → Int32} : zar (zhp G) 123 0 = some 340 := rfl
theorem a124 {G : Nat → Nat → Int32} : zar (zhp G) 124 0 = some 340 := rfl
theorem a125 {G : Nat → Nat → Int32} : zar (zhp G) 125 0 = some 340 := rfl
theorem a126 {G : Nat → Nat → Int32} : zar (zhp G) 126 0 = some 2040 := rfl
theorem a127 {G : Nat → Nat → Int32} : zar (zhp G) 127 0 = some 32 := rfl
theorem a128 {G : Nat → Nat → Int32} : zar (zhp G) 128 0 = some 32 := rfl
theorem a129 {G : Nat → Nat → Int32} : zar (zhp G) 129 0 = some 160 := rfl
theorem a130 {G : Nat → Nat → Int32} : zar (zhp G) 130 0 = some 160 := rfl
theorem a131 {G : Nat → Nat → Int32} : zar (zhp G) 131 0 = some 160 := rfl
theorem a132 {G : Nat → Nat → Int32} : zar (zhp G) 132 0 = some 8 := rfl
theorem a133 {G : Nat → Nat → Int32} : zar (zhp G) 133 0 = some 32 := rfl
theorem a134 {G : Nat → Nat → Int32} : zar (zhp G) 134 0 = some 32 := rfl
theorem a135 {G : Nat → Nat → Int32} : zar (zhp G) 135 0 = some 8 := rfl
theorem a136 {G : Nat → Nat → Int32} : zar (zhp G) 136 0 = some 32 := rfl
theorem a137 {G : Nat → Nat → Int32} : zar (zhp G) 137 0 = some 60 := rfl
theorem a138 {G : Nat → Nat → Int32} : zar (zhp G) 138 0 = some 180 := rfl
theorem q35 {G : Nat → Nat → Int32} : zqr (zhp G) 35 = some (6, zHk) := rfl
theorem zi_n {s n : Nat} (h : s < n) (hn : n ≤ 4096) : zi (nI s) n = true := by
  have h1 := nI_clamp (n := s) (by omega)
  simp only [zi, Bool.and_eq_true, decide_eq_true_eq]
  exact ⟨nI_pos' (by omega), by rw [h1]; exact h⟩
theorem zcl_n {s : Nat} (h : s < 4096) : (nI s).toNatClampNeg = s := nI_clamp (by omega)
end ZLAY
