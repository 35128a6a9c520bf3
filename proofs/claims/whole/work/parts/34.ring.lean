section ZRING
/-- all points in the order of the ring, as numbers: place, node, k -/
def zOl : List Nat := [0, 208, 5642, 6274, 7747, 10163, 10915, 11428, 17009, 17382, 19235, 21160, 22066, 22379, 23205, 24619, 25952, 26444, 29873, 30469, 33959, 35685, 35846, 36422, 36999, 37672, 41130, 43651, 43659, 44388, 44546, 46864, 47047, 47494, 48619, 49840, 52364, 56783, 59091, 62253, 63587, 65825, 66770, 67265, 69549, 70762, 71714, 72514, 72807, 72901, 73281, 75600, 76945, 79787, 79919, 80371, 80398, 84336, 85409, 86853, 87790, 87883, 88100, 88776, 89697, 92808, 95087, 98317, 101705, 103656, 108257, 111522, 112462, 113203, 114897, 115721, 117648, 120873, 124364, 124559, 125390, 129193, 130862, 132336, 137363, 138833, 144874, 145037, 147687, 148499, 149225, 150162, 150605, 151079, 158961, 160115, 160610, 164457, 165199, 166273, 167410, 169284, 171629, 171890, 172035, 173706, 173957, 174026, 180228, 183584, 188130, 188610, 188909, 189768, 193126, 193324, 193344, 194251, 198816, 199473, 202288, 203818, 204204, 205792, 205842, 208579, 210916, 213446, 217324, 222669, 223150, 223336, 223410, 224900, 225984, 230629, 231113, 233443, 236552, 237166, 237551, 237932, 242002, 242048, 243468, 243652, 244773, 246611, 246694, 251686, 253871, 254606, 254721, 255759, 256905, 257553, 258375, 259083, 259402, 261383]
theorem zOl_len : zOl.length = 160 := by decide +kernel
theorem zOl_so : zOl.Pairwise (fun a b => a < b) := by decide +kernel
theorem zOl_in : ∀ n, n < 8 → ∀ k, k < 20 → ∃ c, c ∈ zOl ∧ c / 32 % 8 = n ∧ c % 32 = k := by
  have h : (List.range 8).all (fun n => (List.range 20).all (fun k => zOl.any (fun c => Nat.beq (c / 32 % 8) n && Nat.beq (c % 32) k))) = true := by decide +kernel
  intro n hn k hk
  have h1 := List.all_eq_true.mp h n (List.mem_range.mpr hn)
  have h2 := List.all_eq_true.mp h1 k (List.mem_range.mpr hk)
  obtain ⟨c, hc, h3⟩ := List.any_eq_true.mp h2
  rw [Bool.and_eq_true] at h3
  exact ⟨c, hc, Nat.eq_of_beq_eq_true h3.1, Nat.eq_of_beq_eq_true h3.2⟩
theorem zOl_b : zOl.all (fun c => decide (c < 262144) && decide (c % 32 < 20) && decide (zpP (nI c) = nI (c / 256)) && decide (zpN (nI c) = nI (c / 32 % 8)) && decide (zpK (nI c) = nI (c % 32)) && decide (zCod (nI (c / 32 % 8)) (nI (c % 32)) = nI c)) = true := by decide +kernel
theorem zOl_at {c : Nat} (h : c ∈ zOl) : c < 262144 ∧ c % 32 < 20 ∧ zpP (nI c) = nI (c / 256) ∧ zpN (nI c) = nI (c / 32 % 8) ∧ zpK (nI c) = nI (c % 32) ∧ zCod (nI (c / 32 % 8)) (nI (c % 32)) = nI c := by
  have h1 := List.all_eq_true.mp zOl_b c h
  simp only [Bool.and_eq_true, decide_eq_true_eq] at h1
  obtain ⟨⟨⟨⟨⟨h1, h2⟩, h3⟩, h4⟩, h5⟩, h6⟩ := h1
  exact ⟨h1, h2, h3, h4, h5, h6⟩
/-- is a point on the ring -/
def zKe (N W : Nat → Int32) (c : Nat) : Bool := decide (N (c / 32 % 8) = 1) && decide (nI (c % 32) < nI 4 * W (c / 32 % 8))
def zRi (N W : Nat → Int32) : List Nat := zOl.filter (zKe N W)
theorem zRi_in {N W : Nat → Int32} {c : Nat} (h : c ∈ zRi N W) : c ∈ zOl := (List.mem_filter.mp h).1
theorem zRi_le (N W : Nat → Int32) : (zRi N W).length ≤ 160 := by
  have := List.length_filter_le (zKe N W) zOl
  rw [zOl_len] at this
  exact this
theorem zRi_so (N W : Nat → Int32) : (zRi N W).Pairwise (fun a b => a < b) := zOl_so.sublist List.filter_sublist
/-- how many points lie before a place -/
def zBe (R : List Nat) (t : Nat) : Nat := (R.takeWhile (fun c => decide (c / 256 < t))).length
def zSu (R : List Nat) (t : Nat) : Nat := if zBe R t < R.length then zBe R t else 0
theorem zBe_le (t : Nat) : ∀ (R : List Nat), zBe R t ≤ R.length
  | [] => Nat.le_refl 0
  | c :: R => by
    have := zBe_le t R
    unfold zBe at this ⊢
    rw [List.takeWhile_cons]
    split
    · rw [List.length_cons, List.length_cons]; omega
    · exact Nat.zero_le _
theorem zBe_iff (t : Nat) : ∀ {R : List Nat}, R.Pairwise (fun a b => a < b) → ∀ i, i < R.length → (R.getD i 0 / 256 < t ↔ i < zBe R t)
  | [], _, i, h => absurd h (by simp)
  | c :: R, hs, i, h => by
    rw [List.pairwise_cons] at hs
    unfold zBe
    rw [List.takeWhile_cons]
    by_cases hc : c / 256 < t
    · rw [if_pos (by simpa using hc), List.length_cons]
      cases i with
      | zero => simp [hc]
      | succ i =>
        have := zBe_iff t hs.2 i (by simpa using h)
        unfold zBe at this
        rw [List.getD_cons_succ, this]
        omega
    · rw [if_neg (by simpa using hc)]
      refine ⟨fun q => ?_, fun q => absurd q (by simp)⟩
      exfalso
      cases i with
      | zero => exact hc (by simpa using q)
      | succ i =>
        have hl : i < R.length := by simpa using h
        rw [List.getD_cons_succ, List.getD_eq_getElem?_getD, List.getElem?_eq_getElem hl] at q
        have h2 := hs.1 _ (List.getElem_mem hl)
        have h3 : c / 256 ≤ R[i] / 256 := Nat.div_le_div_right (by omega)
        have q : R[i] / 256 < t := q
        omega
/-- the walk along the ring to a node with room: the node or -1, the loads, who was passed -/
def zNx (R : List Nat) (a : Nat) : Nat := if a + 1 < R.length then a + 1 else 0
def zNd (R : List Nat) (a : Nat) : Nat := R.getD a 0 / 32 % 8
def zSk (R : List Nat) (cp ld : Nat → Int32) : Nat → Nat → Int32 → Int32 × (Nat → Int32) × Int32
  | 0, _, ps => (-1, ld, ps)
  | k + 1, a, ps => if ld (zNd R a) < cp (zNd R a) then (nI (zNd R a), upd ld (zNd R a) (ld (zNd R a) + 1), ps) else zSk R cp ld k (zNx R a) (ps ||| (1 <<< (nI (zNd R a) &&& 31)))
/-- a shard's place as a number -/
def zsp (s : Nat) : Nat := (zPl (nI 1000 + nI s)).toNatClampNeg
theorem zsp_r : ∀ s, s < 32 → zsp s < 1024 ∧ zPl (nI 1000 + nI s) = nI (zsp s) := by decide +kernel
/-- targets: loads, targets, who is skipped, shard by shard -/
def zTs (R : List Nat) (cp : Nat → Int32) (ld0 tg0 sk0 : Nat → Int32) : Nat → (Nat → Int32) × (Nat → Int32) × (Nat → Int32) :=
  zfd (fun s u => ((zSk R cp u.1 R.length (zSu R (zsp s)) 0).2.1, upd u.2.1 s (zSk R cp u.1 R.length (zSu R (zsp s)) 0).1, upd u.2.2 s (zSk R cp u.1 R.length (zSu R (zsp s)) 0).2.2)) (ld0, tg0, sk0)
/-- the nodes' capacities -/
def zCp (N W : Nat → Int32) (sl : Int32) (n : Nat) : Int32 := if N n = 1 then zCap (W n) sl (nI ((zRi N W).length / 4)) else 0
end ZRING
