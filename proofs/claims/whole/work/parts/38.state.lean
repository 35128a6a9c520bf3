section ZSTATE
variable {G : Nat → Nat → Int32} {p q : Nat} {S : zSt}
def uN (S : zSt) (f : Nat → Int32) : zSt := (f, sW S, sO S, sL S, sC S, sT S, sM S, sE S)
def uW (S : zSt) (f : Nat → Int32) : zSt := (sN S, f, sO S, sL S, sC S, sT S, sM S, sE S)
def uO (S : zSt) (f : Nat → Int32) : zSt := (sN S, sW S, f, sL S, sC S, sT S, sM S, sE S)
def uL (S : zSt) (f : Nat → Int32) : zSt := (sN S, sW S, sO S, f, sC S, sT S, sM S, sE S)
def uC (S : zSt) (f : Nat → Int32) : zSt := (sN S, sW S, sO S, sL S, f, sT S, sM S, sE S)
def uT (S : zSt) (f : Nat → Int32) : zSt := (sN S, sW S, sO S, sL S, sC S, f, sM S, sE S)
def uM (S : zSt) (l : List zMv) : zSt := (sN S, sW S, sO S, sL S, sC S, sT S, l, sE S)
def uE (S : zSt) (l : List zMv) : zSt := (sN S, sW S, sO S, sL S, sC S, sT S, sM S, l)
theorem sN_uN (S : zSt) (l : Nat → Int32) : sN (uN S l) = l := rfl
theorem sW_uN (S : zSt) (l : Nat → Int32) : sW (uN S l) = sW S := rfl
theorem sO_uN (S : zSt) (l : Nat → Int32) : sO (uN S l) = sO S := rfl
theorem sL_uN (S : zSt) (l : Nat → Int32) : sL (uN S l) = sL S := rfl
theorem sC_uN (S : zSt) (l : Nat → Int32) : sC (uN S l) = sC S := rfl
theorem sT_uN (S : zSt) (l : Nat → Int32) : sT (uN S l) = sT S := rfl
theorem sM_uN (S : zSt) (l : Nat → Int32) : sM (uN S l) = sM S := rfl
theorem sE_uN (S : zSt) (l : Nat → Int32) : sE (uN S l) = sE S := rfl
theorem sN_uW (S : zSt) (l : Nat → Int32) : sN (uW S l) = sN S := rfl
theorem sW_uW (S : zSt) (l : Nat → Int32) : sW (uW S l) = l := rfl
theorem sO_uW (S : zSt) (l : Nat → Int32) : sO (uW S l) = sO S := rfl
theorem sL_uW (S : zSt) (l : Nat → Int32) : sL (uW S l) = sL S := rfl
theorem sC_uW (S : zSt) (l : Nat → Int32) : sC (uW S l) = sC S := rfl
theorem sT_uW (S : zSt) (l : Nat → Int32) : sT (uW S l) = sT S := rfl
theorem sM_uW (S : zSt) (l : Nat → Int32) : sM (uW S l) = sM S := rfl
theorem sE_uW (S : zSt) (l : Nat → Int32) : sE (uW S l) = sE S := rfl
theorem sN_uO (S : zSt) (l : Nat → Int32) : sN (uO S l) = sN S := rfl
theorem sW_uO (S : zSt) (l : Nat → Int32) : sW (uO S l) = sW S := rfl
theorem sO_uO (S : zSt) (l : Nat → Int32) : sO (uO S l) = l := rfl
theorem sL_uO (S : zSt) (l : Nat → Int32) : sL (uO S l) = sL S := rfl
theorem sC_uO (S : zSt) (l : Nat → Int32) : sC (uO S l) = sC S := rfl
theorem sT_uO (S : zSt) (l : Nat → Int32) : sT (uO S l) = sT S := rfl
theorem sM_uO (S : zSt) (l : Nat → Int32) : sM (uO S l) = sM S := rfl
theorem sE_uO (S : zSt) (l : Nat → Int32) : sE (uO S l) = sE S := rfl
theorem sN_uL (S : zSt) (l : Nat → Int32) : sN (uL S l) = sN S := rfl
theorem sW_uL (S : zSt) (l : Nat → Int32) : sW (uL S l) = sW S := rfl
theorem sO_uL (S : zSt) (l : Nat → Int32) : sO (uL S l) = sO S := rfl
theorem sL_uL (S : zSt) (l : Nat → Int32) : sL (uL S l) = l := rfl
theorem sC_uL (S : zSt) (l : Nat → Int32) : sC (uL S l) = sC S := rfl
theorem sT_uL (S : zSt) (l : Nat → Int32) : sT (uL S l) = sT S := rfl
theorem sM_uL (S : zSt) (l : Nat → Int32) : sM (uL S l) = sM S := rfl
theorem sE_uL (S : zSt) (l : Nat → Int32) : sE (uL S l) = sE S := rfl
theorem sN_uC (S : zSt) (l : Nat → Int32) : sN (uC S l) = sN S := rfl
theorem sW_uC (S : zSt) (l : Nat → Int32) : sW (uC S l) = sW S := rfl
theorem sO_uC (S : zSt) (l : Nat → Int32) : sO (uC S l) = sO S := rfl
theorem sL_uC (S : zSt) (l : Nat → Int32) : sL (uC S l) = sL S := rfl
theorem sC_uC (S : zSt) (l : Nat → Int32) : sC (uC S l) = l := rfl
theorem sT_uC (S : zSt) (l : Nat → Int32) : sT (uC S l) = sT S := rfl
theorem sM_uC (S : zSt) (l : Nat → Int32) : sM (uC S l) = sM S := rfl
theorem sE_uC (S : zSt) (l : Nat → Int32) : sE (uC S l) = sE S := rfl
theorem sN_uT (S : zSt) (l : Nat → Int32) : sN (uT S l) = sN S := rfl
theorem sW_uT (S : zSt) (l : Nat → Int32) : sW (uT S l) = sW S := rfl
theorem sO_uT (S : zSt) (l : Nat → Int32) : sO (uT S l) = sO S := rfl
theorem sL_uT (S : zSt) (l : Nat → Int32) : sL (uT S l) = sL S := rfl
theorem sC_uT (S : zSt) (l : Nat → Int32) : sC (uT S l) = sC S := rfl
theorem sT_uT (S : zSt) (l : Nat → Int32) : sT (uT S l) = l := rfl
theorem sM_uT (S : zSt) (l : Nat → Int32) : sM (uT S l) = sM S := rfl
theorem sE_uT (S : zSt) (l : Nat → Int32) : sE (uT S l) = sE S := rfl
theorem sN_uM (S : zSt) (l : List zMv) : sN (uM S l) = sN S := rfl
theorem sW_uM (S : zSt) (l : List zMv) : sW (uM S l) = sW S := rfl
theorem sO_uM (S : zSt) (l : List zMv) : sO (uM S l) = sO S := rfl
theorem sL_uM (S : zSt) (l : List zMv) : sL (uM S l) = sL S := rfl
theorem sC_uM (S : zSt) (l : List zMv) : sC (uM S l) = sC S := rfl
theorem sT_uM (S : zSt) (l : List zMv) : sT (uM S l) = sT S := rfl
theorem sM_uM (S : zSt) (l : List zMv) : sM (uM S l) = l := rfl
theorem sE_uM (S : zSt) (l : List zMv) : sE (uM S l) = sE S := rfl
theorem sN_uE (S : zSt) (l : List zMv) : sN (uE S l) = sN S := rfl
theorem sW_uE (S : zSt) (l : List zMv) : sW (uE S l) = sW S := rfl
theorem sO_uE (S : zSt) (l : List zMv) : sO (uE S l) = sO S := rfl
theorem sL_uE (S : zSt) (l : List zMv) : sL (uE S l) = sL S := rfl
theorem sC_uE (S : zSt) (l : List zMv) : sC (uE S l) = sC S := rfl
theorem sT_uE (S : zSt) (l : List zMv) : sT (uE S l) = sT S := rfl
theorem sM_uE (S : zSt) (l : List zMv) : sM (uE S l) = sM S := rfl
theorem sE_uE (S : zSt) (l : List zMv) : sE (uE S l) = l := rfl
theorem zSO.uN (h : zSO G p S) (k : Nat) (v : Int32) : zSO (zw G (p + 1) k v) p (uN S (upd (sN S) k v)) := ⟨fun j hj => by rw [zw_row]; show upd _ _ _ j = upd _ _ _ j; unfold upd; split; rfl; exact h.1 j hj, fun j hj => by rw [zw_oth _ (by omega)]; exact h.2.1 j hj, fun j hj => by rw [zw_oth _ (by omega)]; exact h.2.2.1 j hj, fun j hj => by rw [zw_oth _ (by omega)]; exact h.2.2.2.1 j hj, fun j hj => by rw [zw_oth _ (by omega)]; exact h.2.2.2.2.1 j hj, fun j hj => by rw [zw_oth _ (by omega)]; exact h.2.2.2.2.2.1 j hj, h.2.2.2.2.2.2.1.cg (zw_oth _ (by omega)) (zw_oth _ (by omega)), h.2.2.2.2.2.2.2.cg (zw_oth _ (by omega)) (zw_oth _ (by omega))⟩
theorem zFm.u1 {G0 : Nat → Nat → Int32} (h : zFm p G0 G) (k : Nat) (v : Int32) : zFm p G0 (zw G (p + 1) k v) := fun q hq => (zw_oth _ (by omega)).trans (h q hq)
theorem zSO.uW (h : zSO G p S) (k : Nat) (v : Int32) : zSO (zw G (p + 2) k v) p (uW S (upd (sW S) k v)) := ⟨fun j hj => by rw [zw_oth _ (by omega)]; exact h.1 j hj, fun j hj => by rw [zw_row]; show upd _ _ _ j = upd _ _ _ j; unfold upd; split; rfl; exact h.2.1 j hj, fun j hj => by rw [zw_oth _ (by omega)]; exact h.2.2.1 j hj, fun j hj => by rw [zw_oth _ (by omega)]; exact h.2.2.2.1 j hj, fun j hj => by rw [zw_oth _ (by omega)]; exact h.2.2.2.2.1 j hj, fun j hj => by rw [zw_oth _ (by omega)]; exact h.2.2.2.2.2.1 j hj, h.2.2.2.2.2.2.1.cg (zw_oth _ (by omega)) (zw_oth _ (by omega)), h.2.2.2.2.2.2.2.cg (zw_oth _ (by omega)) (zw_oth _ (by omega))⟩
theorem zFm.u2 {G0 : Nat → Nat → Int32} (h : zFm p G0 G) (k : Nat) (v : Int32) : zFm p G0 (zw G (p + 2) k v) := fun q hq => (zw_oth _ (by omega)).trans (h q hq)
theorem zSO.uO (h : zSO G p S) (k : Nat) (v : Int32) : zSO (zw G (p + 3) k v) p (uO S (upd (sO S) k v)) := ⟨fun j hj => by rw [zw_oth _ (by omega)]; exact h.1 j hj, fun j hj => by rw [zw_oth _ (by omega)]; exact h.2.1 j hj, fun j hj => by rw [zw_row]; show upd _ _ _ j = upd _ _ _ j; unfold upd; split; rfl; exact h.2.2.1 j hj, fun j hj => by rw [zw_oth _ (by omega)]; exact h.2.2.2.1 j hj, fun j hj => by rw [zw_oth _ (by omega)]; exact h.2.2.2.2.1 j hj, fun j hj => by rw [zw_oth _ (by omega)]; exact h.2.2.2.2.2.1 j hj, h.2.2.2.2.2.2.1.cg (zw_oth _ (by omega)) (zw_oth _ (by omega)), h.2.2.2.2.2.2.2.cg (zw_oth _ (by omega)) (zw_oth _ (by omega))⟩
theorem zFm.u3 {G0 : Nat → Nat → Int32} (h : zFm p G0 G) (k : Nat) (v : Int32) : zFm p G0 (zw G (p + 3) k v) := fun q hq => (zw_oth _ (by omega)).trans (h q hq)
theorem zSO.uL (h : zSO G p S) (k : Nat) (v : Int32) : zSO (zw G (p + 4) k v) p (uL S (upd (sL S) k v)) := ⟨fun j hj => by rw [zw_oth _ (by omega)]; exact h.1 j hj, fun j hj => by rw [zw_oth _ (by omega)]; exact h.2.1 j hj, fun j hj => by rw [zw_oth _ (by omega)]; exact h.2.2.1 j hj, fun j hj => by rw [zw_row]; show upd _ _ _ j = upd _ _ _ j; unfold upd; split; rfl; exact h.2.2.2.1 j hj, fun j hj => by rw [zw_oth _ (by omega)]; exact h.2.2.2.2.1 j hj, fun j hj => by rw [zw_oth _ (by omega)]; exact h.2.2.2.2.2.1 j hj, h.2.2.2.2.2.2.1.cg (zw_oth _ (by omega)) (zw_oth _ (by omega)), h.2.2.2.2.2.2.2.cg (zw_oth _ (by omega)) (zw_oth _ (by omega))⟩
theorem zFm.u4 {G0 : Nat → Nat → Int32} (h : zFm p G0 G) (k : Nat) (v : Int32) : zFm p G0 (zw G (p + 4) k v) := fun q hq => (zw_oth _ (by omega)).trans (h q hq)
theorem zSO.uC (h : zSO G p S) (k : Nat) (v : Int32) : zSO (zw G (p + 5) k v) p (uC S (upd (sC S) k v)) := ⟨fun j hj => by rw [zw_oth _ (by omega)]; exact h.1 j hj, fun j hj => by rw [zw_oth _ (by omega)]; exact h.2.1 j hj, fun j hj => by rw [zw_oth _ (by omega)]; exact h.2.2.1 j hj, fun j hj => by rw [zw_oth _ (by omega)]; exact h.2.2.2.1 j hj, fun j hj => by rw [zw_row]; show upd _ _ _ j = upd _ _ _ j; unfold upd; split; rfl; exact h.2.2.2.2.1 j hj, fun j hj => by rw [zw_oth _ (by omega)]; exact h.2.2.2.2.2.1 j hj, h.2.2.2.2.2.2.1.cg (zw_oth _ (by omega)) (zw_oth _ (by omega)), h.2.2.2.2.2.2.2.cg (zw_oth _ (by omega)) (zw_oth _ (by omega))⟩
theorem zFm.u5 {G0 : Nat → Nat → Int32} (h : zFm p G0 G) (k : Nat) (v : Int32) : zFm p G0 (zw G (p + 5) k v) := fun q hq => (zw_oth _ (by omega)).trans (h q hq)
theorem zSO.uT (h : zSO G p S) (k : Nat) (v : Int32) : zSO (zw G (p + 6) k v) p (uT S (upd (sT S) k v)) := ⟨fun j hj => by rw [zw_oth _ (by omega)]; exact h.1 j hj, fun j hj => by rw [zw_oth _ (by omega)]; exact h.2.1 j hj, fun j hj => by rw [zw_oth _ (by omega)]; exact h.2.2.1 j hj, fun j hj => by rw [zw_oth _ (by omega)]; exact h.2.2.2.1 j hj, fun j hj => by rw [zw_oth _ (by omega)]; exact h.2.2.2.2.1 j hj, fun j hj => by rw [zw_row]; show upd _ _ _ j = upd _ _ _ j; unfold upd; split; rfl; exact h.2.2.2.2.2.1 j hj, h.2.2.2.2.2.2.1.cg (zw_oth _ (by omega)) (zw_oth _ (by omega)), h.2.2.2.2.2.2.2.cg (zw_oth _ (by omega)) (zw_oth _ (by omega))⟩
theorem zFm.u6 {G0 : Nat → Nat → Int32} (h : zFm p G0 G) (k : Nat) (v : Int32) : zFm p G0 (zw G (p + 6) k v) := fun q hq => (zw_oth _ (by omega)).trans (h q hq)
theorem zSO.uM {G' : Nat → Nat → Int32} {l : List zMv} (h : zSO G p S) (hr : zRO G' (p + 7) l) (hF : ∀ a, a ≠ p + 7 → a ≠ p + 8 → G' a = G a) : zSO G' p (uM S l) := by
  obtain ⟨h1, h2, h3, h4, h5, h6, h7, h8⟩ := h
  exact ⟨by rw [hF _ (by omega) (by omega)]; exact h1, by rw [hF _ (by omega) (by omega)]; exact h2, by rw [hF _ (by omega) (by omega)]; exact h3, by rw [hF _ (by omega) (by omega)]; exact h4, by rw [hF _ (by omega) (by omega)]; exact h5, by rw [hF _ (by omega) (by omega)]; exact h6, hr, h8.cg (hF _ (by omega) (by omega)) (hF _ (by omega) (by omega))⟩
theorem zSO.uE {G' : Nat → Nat → Int32} {l : List zMv} (h : zSO G p S) (hr : zRO G' (p + 9) l) (hF : ∀ a, a ≠ p + 9 → a ≠ p + 10 → G' a = G a) : zSO G' p (uE S l) := by
  obtain ⟨h1, h2, h3, h4, h5, h6, h7, h8⟩ := h
  exact ⟨by rw [hF _ (by omega) (by omega)]; exact h1, by rw [hF _ (by omega) (by omega)]; exact h2, by rw [hF _ (by omega) (by omega)]; exact h3, by rw [hF _ (by omega) (by omega)]; exact h4, by rw [hF _ (by omega) (by omega)]; exact h5, by rw [hF _ (by omega) (by omega)]; exact h6, h7.cg (hF _ (by omega) (by omega)) (hF _ (by omega) (by omega)), hr⟩
/-- an event more -/
def zNote (S : zSt) (k s n : Int32) : zSt := uE S (zapp 30 (sE S) (sT S 0, k, s, n))
theorem T_noteS (hp : zisT p = true) (h : zSO G p S) (k s n : Int32) : ∃ G', zcal zTT jT_note [.ref p, .int k, .int s, .int n] (zhp G) = some (none, zhp G') ∧ zSO G' p (zNote S k s n) ∧ zFm p G G' := by
  obtain ⟨G', h1, h2, h3⟩ := T_note hp h.2.2.2.2.2.2.2 k s n
  rw [h.2.2.2.2.2.1 0 (by omega)] at h2
  exact ⟨G', h1, h.uE h2 h3, fun q hq => h3 q (by omega) (by omega)⟩
def sSta (S : zSt) (x : Int32) : Int32 := if zrg 8 x = true then sN S x.toNatClampNeg else 0
def sWei (S : zSt) (x : Int32) : Int32 := if zrg 8 x = true then sW S x.toNatClampNeg else 0
def sOwn (S : zSt) (x : Int32) : Int32 := if zrg 32 x = true then sO S x.toNatClampNeg else -1
def sLea (S : zSt) (x : Int32) : Int32 := if zrg 32 x = true then sL S x.toNatClampNeg else -1
def sSer (S : zSt) (x : Int32) : Bool := decide (sSta S (sOwn S x) = 1 ∨ sSta S (sOwn S x) = nI 2)
theorem zSta_S (h : zSO G p S) (x : Int32) : zSta G p x = sSta S x := by
  unfold zSta sSta
  by_cases hx : zrg 8 x = true
  · obtain ⟨j, hj, rfl⟩ := zrg_of (by omega) hx
    rw [if_pos hx, if_pos hx, zcl_n (by omega)]
    exact h.1 j hj
  · rw [if_neg hx, if_neg hx]
theorem zWei_S (h : zSO G p S) (x : Int32) : zWei G p x = sWei S x := by
  unfold zWei sWei
  by_cases hx : zrg 8 x = true
  · obtain ⟨j, hj, rfl⟩ := zrg_of (by omega) hx
    rw [if_pos hx, if_pos hx, zcl_n (by omega)]
    exact h.2.1 j hj
  · rw [if_neg hx, if_neg hx]
theorem zOwn_S (h : zSO G p S) (x : Int32) : zOwn G p x = sOwn S x := by
  unfold zOwn sOwn
  by_cases hx : zrg 32 x = true
  · obtain ⟨j, hj, rfl⟩ := zrg_of (by omega) hx
    rw [if_pos hx, if_pos hx, zcl_n (by omega)]
    exact h.2.2.1 j hj
  · rw [if_neg hx, if_neg hx]
theorem zLea_S (h : zSO G p S) (x : Int32) : zLea G p x = sLea S x := by
  unfold zLea sLea
  by_cases hx : zrg 32 x = true
  · obtain ⟨j, hj, rfl⟩ := zrg_of (by omega) hx
    rw [if_pos hx, if_pos hx, zcl_n (by omega)]
    exact h.2.2.2.1 j hj
  · rw [if_neg hx, if_neg hx]
theorem zSer_S (h : zSO G p S) (x : Int32) : zSer G p x = sSer S x := by
  unfold zSer sSer
  rw [zOwn_S h, zSta_S h]
theorem sSta_n {n : Nat} (h : n < 8) : sSta S (nI n) = sN S n := by rw [sSta, zrg_n (by omega) h, zcl_n (by omega)]; rfl
theorem sWei_n {n : Nat} (h : n < 8) : sWei S (nI n) = sW S n := by rw [sWei, zrg_n (by omega) h, zcl_n (by omega)]; rfl
theorem sOwn_n {n : Nat} (h : n < 32) : sOwn S (nI n) = sO S n := by rw [sOwn, zrg_n (by omega) h, zcl_n (by omega)]; rfl
theorem sLea_n {n : Nat} (h : n < 32) : sLea S (nI n) = sL S n := by rw [sLea, zrg_n (by omega) h, zcl_n (by omega)]; rfl
theorem zupd_s (f : Nat → Int32) (s : Nat) : upd f s (f s) = f := by
  funext j
  unfold upd
  split
  · rename_i h; rw [h]
  · rfl
/-- a shard's lease in a tick -/
def zLs (s : Nat) (S : zSt) : zSt :=
  if sO S s ≠ -1 ∧ sSer S (nI s) = true then uL S (upd (sL S) s (sT S 0 + sC S 2))
  else if sO S s ≠ -1 ∧ sL S s ≤ sT S 0 then zNote (uT (uL (uO S (upd (sO S) s (-1))) (upd (sL S) s (-1))) (upd (sT S) 6 (sT S 6 + 1))) (nI 3) (nI s) (sO S s)
  else S
end ZSTATE
