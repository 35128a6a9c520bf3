/-! ===== the walk's heaps over the machine's ===== -/
section ZWORLD
def zc (lo : Nat) : Value → Value
  | .int x => .int x
  | .ref a => .ref (lo + a)
  | _ => .null
theorem zc_cat (lo : Nat) (v : Value) : (zc lo v).category = 1 := by cases v <;> rfl
def zfv (lo : Nat) (g : Nat → Int32) (k : Nat) : Option (Option Nat) → Value
  | none => .int (g k)
  | some none => .null
  | some (some q) => .ref (lo + q)
def zfs (lo : Nat) (g : Nat → Int32) : List (Option (Option Nat)) → Nat → List Value
  | [], _ => []
  | o :: l, k => zfv lo g k o :: zfs lo g l (k + 1)
def zcell (lo : Nat) (K : Nat → ClassId) (s : zSh) (g : Nat → Int32) : va_E := match s with
  | .inl (k, n) => .inl (K k, n, .inl g)
  | .inr (.inl (n, f)) => .inl (K 2, n, .inr (.inr (.inr (.inr (fun i => (f i).map (fun q => lo + q))))))
  | .inr (.inr (ci, fs)) => .inr (ci, zfs lo g fs 0)
def zws (lo : Nat) (K : Nat → ClassId) (E : zHp) : va_W := (List.range (zN E)).map (fun p => (lo + p, zcell lo K (zS E p) (zG E p)))
theorem zfs_get (lo : Nat) (g : Nat → Int32) : ∀ (l : List (Option (Option Nat))) (k j : Nat), (zfs lo g l k)[j]? = (l[j]?).map (zfv lo g (k + j))
  | [], k, j => by simp [zfs]
  | o :: l, k, 0 => by simp [zfs]
  | o :: l, k, j + 1 => by
    have h := zfs_get lo g l (k + 1) j
    rw [zfs, List.getElem?_cons_succ, List.getElem?_cons_succ, h, show k + 1 + j = k + (j + 1) by omega]
theorem zfs_len (lo : Nat) (g : Nat → Int32) : ∀ (l : List (Option (Option Nat))) (k : Nat), (zfs lo g l k).length = l.length
  | [], _ => rfl
  | _ :: l, k => by rw [zfs, List.length_cons, List.length_cons, zfs_len lo g l (k + 1)]
theorem zfv_upd {lo : Nat} {g : Nat → Int32} {i k : Nat} (x : Int32) (h : i ≠ k) (o : Option (Option Nat)) : zfv lo (upd g k x) i o = zfv lo g i o := by
  rcases o with _ | _ | q
  · simp [zfv, upd, h]
  · rfl
  · rfl
theorem zfs_int {lo : Nat} {g : Nat → Int32} {l : List (Option (Option Nat))} {j : Nat} (h : l[j]? = some none) (x : Int32) : (zfs lo g l 0).set j (.int x) = zfs lo (upd g j x) l 0 := by
  refine List.ext_getElem? fun i => ?_
  rw [List.getElem?_set, zfs_get, zfs_get, zfs_len]
  have hj : j < l.length := (List.getElem?_eq_some_iff.mp h).1
  by_cases e : j = i
  · subst e
    rw [if_pos rfl, if_pos hj, h]
    simp [zfv, upd]
  · rw [if_neg e]
    cases l[i]? with
    | none => rfl
    | some o =>
      simp only [Option.map_some]
      rw [zfv_upd x (by omega : 0 + i ≠ j)]
theorem zfs_ref {lo : Nat} {g : Nat → Int32} {l : List (Option (Option Nat))} {j q : Nat} (hj : j < l.length) : (zfs lo g l 0).set j (.ref (lo + q)) = zfs lo g (l.set j (some (some q))) 0 := by
  refine List.ext_getElem? fun i => ?_
  rw [List.getElem?_set, zfs_get, zfs_get, zfs_len, List.getElem?_set]
  by_cases e : j = i
  · subst e
    rw [if_pos rfl, if_pos hj, if_pos rfl, if_pos hj]
    rfl
  · rw [if_neg e, if_neg e]
theorem zws_get {lo : Nat} {K : Nat → ClassId} {E : zHp} {p : Nat} (h : p < zN E) : (zws lo K E)[p]? = some (lo + p, zcell lo K (zS E p) (zG E p)) := by
  rw [zws, List.getElem?_map, List.getElem?_range h]
  rfl
theorem zws_at {lo : Nat} {K : Nat → ClassId} {E : zHp} {p : Nat} {q : Nat × va_E} (h : (zws lo K E)[p]? = some q) : p < zN E ∧ q = (lo + p, zcell lo K (zS E p) (zG E p)) := by
  have hp : p < zN E := by
    have := (List.getElem?_eq_some_iff.mp h).1
    simpa [zws] using this
  rw [zws_get hp] at h
  exact ⟨hp, (Option.some.inj h).symm⟩
theorem zws_set {lo : Nat} {K : Nat → ClassId} {E : zHp} {p : Nat} (s' : zSh) (g' : Nat → Int32) (h : p < zN E) : (zws lo K E).set p (lo + p, zcell lo K s' g') = zws lo K (zN E, zM E, va_up (zS E) p s', va_up (zG E) p g') := by
  refine List.ext_getElem? fun i => ?_
  rw [List.getElem?_set]
  have hl : (zws lo K E).length = zN E := by simp [zws]
  by_cases e : p = i
  · subst e
    rw [if_pos rfl, hl, if_pos h, zws_get (E := (zN E, zM E, va_up (zS E) p s', va_up (zG E) p g')) h]
    simp [zS, zG, va_up]
  · rw [if_neg e]
    by_cases hi : i < zN E
    · rw [zws_get hi, zws_get (E := (zN E, zM E, va_up (zS E) p s', va_up (zG E) p g')) hi]
      simp [zS, zG, va_up, Ne.symm e]
    · rw [List.getElem?_eq_none (by rw [hl]; omega), List.getElem?_eq_none (by simp [zws, zN] at hi ⊢; omega)]
theorem zws_push (lo : Nat) (K : Nat → ClassId) (E : zHp) (s : zSh) (n : Nat) : zws lo K E ++ [(lo + zN E, zcell lo K s (fun _ => 0))] = zws lo K (znw E s n) := by
  refine List.ext_getElem? fun i => ?_
  have hl : (zws lo K E).length = zN E := by simp [zws]
  have hN : zN (znw E s n) = zN E + 1 := rfl
  rcases Nat.lt_trichotomy i (zN E) with h | h | h
  · rw [List.getElem?_append_left (by omega), zws_get h, zws_get (by omega)]
    simp [znw, zS, zG, va_up, Nat.ne_of_lt h, zN] at h ⊢
    simp [Nat.ne_of_lt h]
  · rw [List.getElem?_append_right (by omega), hl, h, Nat.sub_self, zws_get (by omega)]
    simp [znw, zS, zG, va_up, zN]
  · rw [List.getElem?_eq_none (by simp [hl]; omega), List.getElem?_eq_none (by simp [zws]; omega)]
/-- what a walk may write: all from lo on; where nothing is made, the world's own cells alone -/
def zA (lo : Nat) (nb : Option Nat) : Nat → Prop := fun q => lo ≤ q ∧ ∀ n, nb = some n → q < lo + n
theorem zws_D (lo : Nat) (nb : Option Nat) (K : Nat → ClassId) (E : zHp) (hb : ∀ n, nb = some n → zN E ≤ n) : va_D (zA lo nb) (zws lo K E) := by
  refine ⟨fun i j p q hi hj e => ?_, fun k q hk => ?_⟩
  · obtain ⟨-, rfl⟩ := zws_at hi
    obtain ⟨-, rfl⟩ := zws_at hj
    exact Nat.add_left_cancel e
  · obtain ⟨hk1, rfl⟩ := zws_at hk
    exact ⟨Nat.le_add_right lo k, fun n hn => Nat.add_lt_add_left (Nat.lt_of_lt_of_le hk1 (hb n hn)) lo⟩
def zWd (D : va_G) (cl : List vw_C) (lo : Nat) (K : Nat → ClassId) (E : zHp) (H : Heap) : Prop := va_P D cl (zws lo K E) H ∧ lo + zN E ≤ H.size
def zKK (D : va_G) (cl : List vw_C) (K : Nat → ClassId) (nst : List Cond) (U : State) : Prop := va_K D cl [(K 0, .int), (K 1, .char), (K 2, .object "ShardRebalancer$Store")] U ∧ va_AO "ShardRebalancer$Store" U ∧ ∀ w ∈ nst, ∃ (a : String) (i : Nat) (x : MethodName) (h : String), w = .methodLinkNest a i x h ∧ va_Nw w U
theorem zKK.moved {D : va_G} {cl : List vw_C} {K : Nat → ClassId} {nst : List Cond} {s U : State} (hW : s.WarmedH U.vm) (h : zKK D cl K nst s) : zKK D cl K nst U := by
  refine ⟨va_K.moved hW.alike h.1, va_AO.moved hW.alike h.2.1, fun w hw => ?_⟩
  obtain ⟨a, i, x, hh, rfl, h2⟩ := h.2.2 w hw
  exact ⟨a, i, x, hh, rfl, va_Nw.warmM hW h2⟩
/-- locals -/
def zlf (lo : Nat) (l : List Value) (j : Nat) : Option (Nat × Value) := match zlg l j with
  | .int x => some (j, .int x)
  | .ref a => some (j, .ref (lo + a))
  | _ => none
def zlL (lo : Nat) (l : List Value) : List (Nat × Value) := (List.range l.length).filterMap (zlf lo l)
def zLv (lo nL : Nat) (l : List Value) (ls : Array Slot) : Prop := l.length = nL ∧ lv_has ls nL (zlL lo l)
theorem zlg_out : ∀ {l : List Value} {k : Nat}, l.length ≤ k → zlg l k = zU
  | [], _, _ => by rw [zlg]
  | _ :: _, 0, h => absurd h (by simp)
  | _ :: l, k + 1, h => by rw [zlg]; exact zlg_out (by simpa using h)
theorem zls_len : ∀ (l : List Value) (k : Nat) (v : Value), (zls l k v).length = l.length
  | [], _, _ => rfl
  | _ :: _, 0, _ => rfl
  | _ :: l, k + 1, v => by rw [zls, List.length_cons, List.length_cons, zls_len l k v]
theorem zlg_zls : ∀ (l : List Value) (k j : Nat) (v : Value), zlg (zls l k v) j = if j = k ∧ k < l.length then v else zlg l j
  | [], k, j, v => by simp [zls, zlg]
  | a :: l, 0, 0, v => by simp [zls, zlg]
  | a :: l, 0, j + 1, v => by simp [zls, zlg]
  | a :: l, k + 1, 0, v => by simp [zls, zlg]
  | a :: l, k + 1, j + 1, v => by simp [zls, zlg, zlg_zls l k j v]
theorem zlf_mem {lo : Nat} {l : List Value} {q : Nat × Value} : q ∈ zlL lo l ↔ q.1 < l.length ∧ zlf lo l q.1 = some q := by
  constructor
  · intro h
    obtain ⟨j, hj, e⟩ := List.mem_filterMap.mp h
    have hq : q.1 = j := by
      unfold zlf at e
      split at e <;> cases e <;> rfl
    subst hq
    exact ⟨List.mem_range.mp hj, e⟩
  · intro ⟨h1, h2⟩
    exact List.mem_filterMap.mpr ⟨q.1, List.mem_range.mpr h1, h2⟩
theorem zLv.int {lo nL k : Nat} {l : List Value} {ls : Array Slot} {x : Int32} (h : zLv lo nL l ls) (e : zlg l k = .int x) : ls[k]? = some (.val (.int x)) := by
  have hk : k < l.length := Nat.not_le.mp fun q => by rw [zlg_out q] at e; cases e
  exact h.2.2.2 (k, .int x) (zlf_mem.mpr ⟨hk, by simp [zlf, e]⟩)
theorem zLv.ref {lo nL k : Nat} {l : List Value} {ls : Array Slot} {a : Nat} (h : zLv lo nL l ls) (e : zlg l k = .ref a) : ls[k]? = some (.val (.ref (lo + a))) := by
  have hk : k < l.length := Nat.not_le.mp fun q => by rw [zlg_out q] at e; cases e
  exact h.2.2.2 (k, .ref (lo + a)) (zlf_mem.mpr ⟨hk, by simp [zlf, e]⟩)
theorem zLv.set {lo nL k : Nat} {l : List Value} {ls ls' : Array Slot} {v v' : Value} (h : zLv lo nL l ls) (hk : k < l.length) (hv : (∃ x, v = .int x ∧ v' = .int x) ∨ ∃ a, v = .ref a ∧ v' = .ref (lo + a))
    (h' : lv_has ls' nL ((k, v') :: (zlL lo l).filter (fun q => !(q.1 == k) && !(q.1 + 1 == k && q.2.category == 2)))) : zLv lo nL (zls l k v) ls' := by
  refine ⟨(zls_len l k v).trans h.1, h'.1, h'.2.1, fun q hq => h'.2.2 q ?_⟩
  obtain ⟨h1, h2⟩ := zlf_mem.mp hq
  rw [zls_len] at h1
  rw [zlf, zlg_zls] at h2
  by_cases e : q.1 = k
  · refine List.mem_cons.mpr (Or.inl ?_)
    rw [if_pos ⟨e, hk⟩] at h2
    rcases hv with ⟨x, rfl, rfl⟩ | ⟨a, rfl, rfl⟩
    · dsimp only at h2
      rw [← Option.some.inj h2, e]
    · dsimp only at h2
      rw [← Option.some.inj h2, e]
  · refine List.mem_cons.mpr (Or.inr (List.mem_filter.mpr ⟨zlf_mem.mpr ⟨h1, ?_⟩, ?_⟩))
    · rw [if_neg (fun z => e z.1)] at h2
      exact h2
    · have hc : q.2.category = 1 := by
        rw [if_neg (fun z => e z.1)] at h2
        split at h2
        · rw [← Option.some.inj h2]; rfl
        · rw [← Option.some.inj h2]; rfl
        · cases h2
      simp [e, hc]
theorem zLv.entry {lo nL : Nat} {as : List Value} (hn : as.length ≤ nL) {ls : Array Slot} (h : lv_has ls nL (lv_args 0 (as.map (zc lo)))) : zLv lo nL (zen as nL) ls := by
  have key : ∀ (as : List Value) (k i : Nat) (n : Nat), ∀ q, zlf lo (as ++ List.replicate n zU) i = some q → (k + i, q.2) ∈ lv_args k (as.map (zc lo)) := by
    intro as
    induction as with
    | nil =>
      intro k i n q hq
      exfalso
      have : zlg (List.replicate n zU) i = zU := by
        clear hq
        induction n generalizing i with
        | zero => rw [List.replicate_zero, zlg]
        | succ n ih =>
          rw [List.replicate_succ]
          cases i with
          | zero => rw [zlg]
          | succ i => rw [zlg]; exact ih i
      rw [List.nil_append, zlf, this] at hq
      cases hq
    | cons v as ih =>
      intro k i n q hq
      have hcat : (zc lo v).category = 1 := zc_cat lo v
      have e : lv_args k (List.map (zc lo) (v :: as)) = (k, zc lo v) :: lv_args (k + 1) (as.map (zc lo)) := by
        rw [List.map_cons, lv_args]
        rw [hcat]
        rfl
      rw [e]
      cases i with
      | zero =>
        refine List.mem_cons.mpr (Or.inl ?_)
        rw [List.cons_append, zlf, zlg] at hq
        split at hq
        · rw [← Option.some.inj hq]; rfl
        · rw [← Option.some.inj hq]; rfl
        · cases hq
      | succ i =>
        refine List.mem_cons.mpr (Or.inr ?_)
        have h2 : zlf lo (as ++ List.replicate n zU) i = some (i, q.2) := by
          rw [List.cons_append, zlf, zlg] at hq
          rw [zlf]
          split at hq
          · rename_i x hx
            rw [← Option.some.inj hq]
          · rename_i a ha
            rw [← Option.some.inj hq]
          · cases hq
        have h3 := ih (k + 1) i n _ h2
        rwa [show k + 1 + i = k + (i + 1) by omega] at h3
  refine ⟨by rw [zen, List.length_append, List.length_replicate]; omega, h.1, h.2.1, fun q hq => h.2.2 q ?_⟩
  obtain ⟨-, h2⟩ := zlf_mem.mp hq
  have h3 := key as 0 q.1 _ q h2
  rwa [Nat.zero_add] at h3
theorem zlg_len (lo : Nat) : ∀ (as : List Value), (lg_sl (as.map (zc lo))).length = as.length
  | [] => rfl
  | v :: as => by
    have h := zlg_len lo as
    rw [lg_sl] at h ⊢
    rw [List.map_cons, List.flatMap_cons, List.length_append, h, if_neg (by rw [zc_cat]; decide), List.length_cons]
    simp
    omega
end ZWORLD
