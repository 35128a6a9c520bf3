section ZNUMS
theorem zB01 (c : Prop) [Decidable c] : ((if c then (1 : Int32) else 0) = 0) = ¬ c := by
  by_cases h : c <;> simp [h]
theorem one_ne : ((1 : Int32) = 0) = False := by decide
theorem zero_eqone : ((0 : Int32) = 1) = False := by decide
/-- an int in a range from 0 -/
def zrg (N : Nat) (x : Int32) : Bool := !decide (x < 0) && !decide (nI N ≤ x)
theorem zrg_iff' {N : Nat} {x : Int32} : zrg N x = true ↔ ¬ x < 0 ∧ ¬ nI N ≤ x := by simp [zrg, -Int32.not_lt, -Int32.not_le]
theorem zrg_of {N : Nat} {x : Int32} (hN : N < 2 ^ 31) (h : zrg N x = true) : ∃ j, j < N ∧ x = nI j := by
  rw [zrg_iff'] at h
  obtain ⟨j, hj, rfl⟩ := nI_of h.1
  refine ⟨j, ?_, rfl⟩
  apply Classical.byContradiction
  intro q
  exact h.2 (nI_le (by omega) hj)
theorem zrg_n {N j : Nat} (hN : N < 2 ^ 31) (h : j < N) : zrg N (nI j) = true := zrg_iff'.mpr ⟨nI_pos (by omega), nI_ge h hN⟩
theorem zrg_f {N j : Nat} (hj : j < 2 ^ 31) (h : N ≤ j) : zrg N (nI j) = false := by
  rw [← Bool.not_eq_true, zrg_iff']
  exact fun q => q.2 (nI_le h hj)
theorem zrg_m1 (N : Nat) : zrg N (-1) = false := by
  rw [← Bool.not_eq_true, zrg_iff']
  exact fun q => q.1 (by decide)
theorem zle_f {s n : Nat} (h : s < n) (hn : n < 2 ^ 31) : (nI n ≤ nI s) = False := eq_false (nI_ge h hn)
theorem zle_t {s n : Nat} (h : n ≤ s) (hs : s < 2 ^ 31) : (nI n ≤ nI s) = True := eq_true (nI_le h hs)
theorem zlt_f {s n : Nat} (h : n ≤ s) (hn : s < 2 ^ 31) : (nI s < nI n) = False := eq_false (nI_nlt h hn)
theorem zlt_t {s n : Nat} (h : s < n) (hn : n < 2 ^ 31) : (nI s < nI n) = True := eq_true (nI_lt h hn)
theorem zlt_0 {s : Nat} (h : s < 2 ^ 31) : (nI s < 0) = False := eq_false (nI_pos h)
theorem znn {s : Nat} (h : s < 2 ^ 31) : (0 ≤ nI s) = True := eq_true (nI_pos' h)
theorem zeq_n {a b : Nat} (ha : a < 2 ^ 31) (hb : b < 2 ^ 31) : (nI a = nI b) = (a = b) := propext (nI_eq ha hb)
theorem zeq_m1 {a : Nat} (h : a < 2 ^ 31) : (nI a = -1) = False := eq_false (fun q => by
  have h1 := nI_pos (n := a) h
  rw [q] at h1
  exact h1 (by decide))
theorem zm1_eq {a : Nat} (h : a < 2 ^ 31) : (-1 = nI a) = False := eq_false (fun q => by
  have h1 := zeq_m1 h
  rw [← q] at h1
  exact absurd rfl (of_eq_false h1))
theorem zmul (a b : Nat) : nI a * nI b = nI (a * b) := pk_mul a b
/-- how many -/
def zct (P : Nat → Bool) : Nat → Nat
  | 0 => 0
  | n + 1 => zct P n + if P n then 1 else 0
theorem zct_le (P : Nat → Bool) : ∀ n, zct P n ≤ n
  | 0 => Nat.le_refl 0
  | n + 1 => by
    have := zct_le P n
    rw [zct]
    split <;> omega
theorem zct_cg {P Q : Nat → Bool} : ∀ {n : Nat}, (∀ k, k < n → P k = Q k) → zct P n = zct Q n
  | 0, _ => rfl
  | n + 1, h => by rw [zct, zct, zct_cg (fun k hk => h k (by omega)), h n (by omega)]
theorem zct_t {P : Nat → Bool} {n : Nat} (h : P n = true) : zct P (n + 1) = zct P n + 1 := by rw [zct, h]; rfl
theorem zct_f {P : Nat → Bool} {n : Nat} (h : P n = false) : zct P (n + 1) = zct P n := by rw [zct, h]; rfl
/-- a loop's state after i rounds -/
def zfd {σ : Type} (f : Nat → σ → σ) (s : σ) : Nat → σ
  | 0 => s
  | n + 1 => f n (zfd f s n)
end ZNUMS
