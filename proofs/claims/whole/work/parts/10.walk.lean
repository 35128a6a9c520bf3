/-! ===== methods read as functions: a walk over shapes and ints; an element of code: pc, length, instruction, a number, a second one, a constant, cases ===== -/
section ZWALK
abbrev zEl : Type := Nat × Nat × Instr × Nat × Nat × Int32 × List (Int32 × Nat)
abbrev zCd : Type := List zEl
/-- a cell's shape: an array of ints (0) or chars (1), its length; an array of references; an object: its class, its fields (none: an int) -/
abbrev zSh : Type := (Nat × Nat) ⊕ ((Nat × (Nat → Option Nat)) ⊕ (Nat × List (Option (Option Nat))))
/-- a heap: its cells' number, their slots, shapes, ints -/
abbrev zHp : Type := Nat × Nat × (Nat → zSh) × (Nat → Nat → Int32)
abbrev zRt : Type := Option Value ⊕ Nat
abbrev zRs : Type := (zCd × List Value × List Value × zHp) ⊕ ((Nat × List Value × zCd × List Value × List Value) ⊕ zRt)
def zo (pc len : Nat) (i : Instr) : zEl := (pc, len, i, 0, 0, 0, [])
def zx (pc len : Nat) (i : Instr) (x : Nat) : zEl := (pc, len, i, x, 0, 0, [])
def zz (pc len : Nat) (i : Instr) (x z : Nat) : zEl := (pc, len, i, x, z, 0, [])
def zk (pc len : Nat) (i : Instr) (y : Int32) : zEl := (pc, len, i, 0, 0, y, [])
def zs (pc len : Nat) (i : Instr) (x : Nat) (l : List (Int32 × Nat)) : zEl := (pc, len, i, x, 0, 0, l)
/-- the place of no value -/
abbrev zU : Value := .retAddr 0
def zlg : List Value → Nat → Value
  | [], _ => zU
  | a :: _, 0 => a
  | _ :: l, k + 1 => zlg l k
def zls : List Value → Nat → Value → List Value
  | [], _, _ => []
  | _ :: l, 0, v => v :: l
  | a :: l, k + 1, v => a :: zls l k v
def zjp (M : zCd) (t : Nat) : zCd := M.dropWhile (fun e => !(Nat.beq e.1 t))
def zsw : List (Int32 × Nat) → Nat → Int32 → Nat
  | [], d, _ => d
  | (k, t) :: l, d, v => if v = k then t else zsw l d v
def zN (E : zHp) : Nat := E.1
def zM (E : zHp) : Nat := E.2.1
def zS (E : zHp) : Nat → zSh := E.2.2.1
def zG (E : zHp) : Nat → Nat → Int32 := E.2.2.2
/-- the fields that are booleans -/
def zB (ci k : Nat) : Bool := (ci == 7 && (k == 7 || k == 8)) || (ci == 8 && (k == 3 || k == 21))
def zgf (E : zHp) (p ci k : Nat) : Option Value :=
  if p < zN E then
    match zS E p with
    | .inr (.inr (c, fs)) => if c = ci then (match fs[k]? with
        | some none => some (.int (zG E p k))
        | some (some none) => some .null
        | some (some (some q)) => some (.ref q)
        | none => none) else none
    | _ => none
  else none
def zpf (E : zHp) (p ci k : Nat) (v : Value) : Option zHp :=
  if p < zN E then
    match zS E p with
    | .inr (.inr (c, fs)) => if c = ci then (match fs[k]?, v with
        | some none, .int x => if zB ci k = true ∧ ¬ (x = 0 ∨ x = 1) then none else some (zN E, zM E, zS E, va_up (zG E) p (upd (zG E p) k x))
        | some (some _), .ref q => if q < zN E then some (zN E, zM E, va_up (zS E) p (.inr (.inr (c, fs.set k (some (some q))))), zG E) else none
        | _, _ => none) else none
    | _ => none
  else none
/-- the ints of an array of a kind, with its length -/
def zar (E : zHp) (p kd : Nat) : Option Nat :=
  if p < zN E then
    match zS E p with
    | .inl (k, n) => if k = kd then some n else none
    | _ => none
  else none
/-- the length of any array -/
def zln (E : zHp) (p : Nat) : Option Nat :=
  if p < zN E then
    match zS E p with
    | .inl (k, n) => if k ≤ 1 then some n else none
    | .inr (.inl (n, _)) => some n
    | _ => none
  else none
def zqr (E : zHp) (p : Nat) : Option (Nat × (Nat → Option Nat)) :=
  if p < zN E then
    match zS E p with
    | .inr (.inl r) => some r
    | _ => none
  else none
def zob (E : zHp) (p ci : Nat) : Bool :=
  if p < zN E then
    match zS E p with
    | .inr (.inr (c, _)) => c == ci
    | _ => false
  else false
def zwr (E : zHp) (p : Nat) (f : Nat → Int32) : zHp := (zN E, zM E, zS E, va_up (zG E) p f)
def znw (E : zHp) (s : zSh) (n : Nat) : zHp := (zN E + 1, zM E + n, va_up (zS E) (zN E) s, va_up (zG E) (zN E) (fun _ => 0))
def zrf (o : Option Nat) : Value := match o with
  | none => .null
  | some q => .ref q
def zi (i : Int32) (n : Nat) : Bool := decide (0 ≤ i) && decide (i.toNatClampNeg < n)
def znx (c : zCd) (ls st : List Value) (E : zHp) : Option zRs := some (.inl (c, ls, st, E))
def zcd : ClassFile.Cond → Int32 → Int32 → Bool
  | .eq, x, y => decide (x = y)
  | .ne, x, y => decide (¬ x = y)
  | .lt, x, y => decide (x < y)
  | .ge, x, y => decide (y ≤ x)
  | .gt, x, y => decide (y < x)
  | .le, x, y => decide (x ≤ y)
/-- the arguments of a call: the last n of the stack, the first one lowest -/
def zcl (j : Nat) (n : Nat) (c : zCd) (ls st : List Value) : Option zRs := if n ≤ st.length ∧ st.length ≤ n + 8 then some (.inr (.inl (j, (st.take n).reverse, c, ls, st.drop n))) else none
def zbin : Instr → Int32 → Int32 → Option Int32
  | .iadd, a, b => some (a + b)
  | .isub, a, b => some (a - b)
  | .imul, a, b => some (a * b)
  | .idiv, a, b => if b = 0 then none else some (a / b)
  | .irem, a, b => if b = 0 then none else some (a - a / b * b)
  | .iand, a, b => some (a &&& b)
  | .ior, a, b => some (a ||| b)
  | .ixor, a, b => some (a ^^^ b)
  | .ishl, a, b => some (a <<< (b &&& 31))
  | .ishr, a, b => some (a >>> (b &&& 31))
  | .iushr, a, b => some ((a.toUInt32 >>> (b.toUInt32 &&& Int32.toUInt32 31)).toInt32)
  | _, _, _ => none
/-- System.arraycopy over int arrays -/
def zcp (E : zHp) (p : Nat) (sp : Int32) (q : Nat) (dp n : Int32) : Option zHp :=
  match zar E p 0, zar E q 0 with
  | some l, some r => if ¬ sp < 0 ∧ ¬ dp < 0 ∧ ¬ n < 0 ∧ sp.toNatClampNeg + n.toNatClampNeg ≤ l ∧ dp.toNatClampNeg + n.toNatClampNeg ≤ r then some (zwr E q (va_cpy (zG E p) (zG E q) sp.toNatClampNeg dp.toNatClampNeg n.toNatClampNeg)) else none
  | _, _ => none
/-- one step: the elements' canonical instructions: putfield 0 an int, 1 a reference; invokevirtual: the receiver's class; invokedynamic: System.arraycopy; monitorexit: Object's constructor; athrow: an exception is made and thrown; f2i, d2i: Math.max, Math.min -/
def zst (M : zCd) (c : zCd) (ls st : List Value) (E : zHp) : Option zRs :=
  match c with
  | [] => none
  | (_, _, i, x, z, y, l) :: c' =>
    match i with
    | .iload k => (match zlg ls k with | .int v => znx c' ls (.int v :: st) E | _ => none)
    | .aload k => (match zlg ls k with | .ref v => znx c' ls (.ref v :: st) E | _ => none)
    | .istore k => (match st with | .int v :: s => if k < ls.length then znx c' (zls ls k (.int v)) s E else none | _ => none)
    | .astore k => (match st with | .ref v :: s => if k < ls.length then znx c' (zls ls k (.ref v)) s E else none | _ => none)
    | .iconst _ => znx c' ls (.int y :: st) E
    | .aconst_null => znx c' ls (.null :: st) E
    | .iinc k _ => (match zlg ls k with | .int v => if k < ls.length then znx c' (zls ls k (.int (v + y))) st E else none | _ => none)
    | .iadd | .isub | .imul | .idiv | .irem | .iand | .ior | .ixor | .ishl | .ishr | .iushr =>
      (match st with | .int b :: .int a :: s => (match zbin i a b with | some v => znx c' ls (.int v :: s) E | none => none) | _ => none)
    | .if_icmp cd _ => (match st with | .int b :: .int a :: s => if zcd cd a b = true then znx (zjp M x) ls s E else znx c' ls s E | _ => none)
    | .ifCond cd _ => (match st with | .int a :: s => if zcd cd a 0 = true then znx (zjp M x) ls s E else znx c' ls s E | _ => none)
    | .ifnull _ => (match st with | .ref _ :: s => znx c' ls s E | .null :: s => znx (zjp M x) ls s E | _ => none)
    | .goto _ => znx (zjp M x) ls st E
    | .dup => (match st with | .int v :: s => znx c' ls (.int v :: .int v :: s) E | .ref v :: s => znx c' ls (.ref v :: .ref v :: s) E | _ => none)
    | .dup2 => (match st with | .int b :: .ref a :: s => znx c' ls (.int b :: .ref a :: .int b :: .ref a :: s) E | _ => none)
    | .pop => (match st with | .int _ :: s => znx c' ls s E | _ => none)
    | .getfield _ => (match st with | .ref p :: s => (match zgf E p x z with | some v => znx c' ls (v :: s) E | none => none) | _ => none)
    | .putfield kd => (match st with
      | .int v :: .ref p :: s => if kd = 0 then (match zpf E p x z (.int v) with | some E' => znx c' ls s E' | none => none) else none
      | .ref v :: .ref p :: s => if kd = 1 then (match zpf E p x z (.ref v) with | some E' => znx c' ls s E' | none => none) else none
      | _ => none)
    | .iaload => (match st with | .int i :: .ref p :: s => (match zar E p 0 with | some n => if zi i n = true then znx c' ls (.int (zG E p i.toNatClampNeg) :: s) E else none | none => none) | _ => none)
    | .caload => (match st with | .int i :: .ref p :: s => (match zar E p 1 with | some n => if zi i n = true then znx c' ls (.int (zG E p i.toNatClampNeg) :: s) E else none | none => none) | _ => none)
    | .aaload => (match st with | .int i :: .ref p :: s => (match zqr E p with | some (n, f) => if zi i n = true then znx c' ls (zrf (f i.toNatClampNeg) :: s) E else none | none => none) | _ => none)
    | .iastore => (match st with | .int v :: .int i :: .ref p :: s => (match zar E p 0 with | some n => if zi i n = true then znx c' ls s (zwr E p (upd (zG E p) i.toNatClampNeg v)) else none | none => none) | _ => none)
    | .castore => (match st with | .int v :: .int i :: .ref p :: s => (match zar E p 1 with | some n => if zi i n = true then znx c' ls s (zwr E p (upd (zG E p) i.toNatClampNeg (vp_nar .char v))) else none | none => none) | _ => none)
    | .aastore => (match st with | .ref v :: .int i :: .ref p :: s => (match zqr E p with | some (n, f) => if zi i n = true ∧ zob E v 6 = true then znx c' ls s (zN E, zM E, va_up (zS E) p (.inr (.inl (n, va_up f i.toNatClampNeg (some v)))), zG E) else none | none => none) | _ => none)
    | .arraylength => (match st with | .ref p :: s => (match zln E p with | some n => znx c' ls (.int (nI n) :: s) E | none => none) | _ => none)
    | .lookupswitch _ _ => (match st with | .int v :: s => znx (zjp M (zsw l x v)) ls s E | _ => none)
    | .tableswitch _ _ _ _ => (match st with | .int v :: s => znx (zjp M (zsw l x v)) ls s E | _ => none)
    | .invokevirtual ci => (match st[z - 1]? with | some (.ref p) => if zob E p ci = true then zcl x z c' ls st else none | _ => none)
    | .invokestatic _ => zcl x z c' ls st
    | .invokespecial _ => (match st[z - 1]? with | some (.ref _) => zcl x z c' ls st | _ => none)
    | .invokedynamic _ => (match st with | .int n :: .int dp :: .ref q :: .int sp :: .ref p :: s => (match zcp E p sp q dp n with | some E' => if s.length ≤ 8 then znx c' ls s E' else none | none => none) | _ => none)
    | .monitorexit => (match st with | .ref _ :: s => if s.length ≤ 8 then znx c' ls s E else none | _ => none)
    | .athrow => (match st with | [] => some (.inr (.inr (.inr x))) | _ => none)
    | .f2i => (match st with | .int b :: .int a :: s => if s.length ≤ 8 then znx c' ls (.int (if a < b then b else a) :: s) E else none | _ => none)
    | .d2i => (match st with | .int b :: .int a :: s => if s.length ≤ 8 then znx c' ls (.int (if b < a then b else a) :: s) E else none | _ => none)
    | .new _ => znx c' ls (.ref (zN E) :: st) (znw E (.inr (.inr (x, l.map (fun e => if e.2 = 0 then none else some none)))) l.length)
    | .newarray _ => (match st with | .int n :: s => if ¬ n < 0 ∧ n.toNatClampNeg ≤ 4096 then znx c' ls (.ref (zN E) :: s) (znw E (.inl (x, n.toNatClampNeg)) n.toNatClampNeg) else none | _ => none)
    | .anewarray _ => (match st with | .int n :: s => if ¬ n < 0 ∧ n.toNatClampNeg ≤ 4096 then znx c' ls (.ref (zN E) :: s) (znw E (.inr (.inl (n.toNatClampNeg, fun _ => none))) n.toNatClampNeg) else none | _ => none)
    | .ireturn => (match st with | [.int v] => if x = 0 ∨ v = 0 ∨ v = 1 then some (.inr (.inr (.inl (some (.int v))))) else none | _ => none)
    | .areturn => (match st with | [.ref v] => some (.inr (.inr (.inl (some (.ref v))))) | [.null] => some (.inr (.inr (.inl (some .null)))) | _ => none)
    | .return_ => (match st with | [] => some (.inr (.inr (.inl none))) | _ => none)
    | _ => none
/-- the locals at a method's entry -/
def zen (as : List Value) (n : Nat) : List Value := as ++ List.replicate (n - as.length) zU
def zrun (T : Nat → zCd × Nat) : Nat → zCd → zCd → List Value → List Value → zHp → Option (zRt × zHp)
  | 0, _, _, _, _, _ => none
  | n + 1, M, c, ls, st, E =>
    match zst M c ls st E with
    | some (.inl (c', ls', st', E')) => zrun T n M c' ls' st' E'
    | some (.inr (.inl (j, as, c', ls', st'))) =>
      (match zrun T n (T j).1 (T j).1 (zen as (T j).2) [] E with
      | some (.inl v, E') => zrun T n M c' ls' (v.toList ++ st') E'
      | _ => none)
    | some (.inr (.inr o)) => some (o, E)
    | none => none
theorem zrun_succ {T : Nat → zCd × Nat} : ∀ (n : Nat) (M c : zCd) (ls st : List Value) (E : zHp) (o : zRt × zHp), zrun T n M c ls st E = some o → zrun T (n + 1) M c ls st E = some o := by
  intro n
  induction n with
  | zero => intro M c ls st E o h; cases h
  | succ n ih =>
    intro M c ls st E o h
    rw [zrun] at h
    rw [zrun]
    split at h
    · rename_i c' ls' st' E' he
      exact ih _ _ _ _ _ _ h
    · rename_i j as c' ls' st' he
      split at h
      · rename_i v E' hc
        rw [ih _ _ _ _ _ _ hc]
        exact ih _ _ _ _ _ _ h
      · cases h
    · rename_i r he
      exact h
    · cases h
theorem zrun_le {T : Nat → zCd × Nat} {n m : Nat} (hm : n ≤ m) {M c : zCd} {ls st : List Value} {E : zHp} {o : zRt × zHp} (h : zrun T n M c ls st E = some o) : zrun T m M c ls st E = some o := by
  induction hm with
  | refl => exact h
  | step _ ih => exact zrun_succ _ _ _ _ _ _ _ ih
/-- from here the walk ends so -/
def zEv (T : Nat → zCd × Nat) (M c : zCd) (ls st : List Value) (E : zHp) (o : zRt × zHp) : Prop := ∃ n, zrun T n M c ls st E = some o
theorem zEv_one {T : Nat → zCd × Nat} {M c : zCd} {ls st : List Value} {E : zHp} {o o' : zRt × zHp} (h : zEv T M c ls st E o) (h' : zEv T M c ls st E o') : o = o' := by
  obtain ⟨n, hn⟩ := h
  obtain ⟨m, hm⟩ := h'
  have h1 := zrun_le (Nat.le_max_left n m) hn
  have h2 := zrun_le (Nat.le_max_right n m) hm
  exact Option.some.inj (h1.symm.trans h2)
theorem zEv_nx {T : Nat → zCd × Nat} {M c c' : zCd} {ls st ls' st' : List Value} {E E' : zHp} {o : zRt × zHp} (h : zst M c ls st E = some (.inl (c', ls', st', E'))) : zEv T M c ls st E o = zEv T M c' ls' st' E' o := by
  refine propext ⟨fun ⟨n, hn⟩ => ?_, fun ⟨n, hn⟩ => ⟨n + 1, ?_⟩⟩
  · cases n with
    | zero => cases hn
    | succ n =>
      rw [zrun, h] at hn
      exact ⟨n, hn⟩
  · rw [zrun, h]
    exact hn
/-- a call's answer, as a function -/
def zCal (T : Nat → zCd × Nat) (j : Nat) (as : List Value) (E : zHp) (v : Option Value) (E' : zHp) : Prop := zEv T (T j).1 (T j).1 (zen as (T j).2) [] E (.inl v, E')
noncomputable def zcal (T : Nat → zCd × Nat) (j : Nat) (as : List Value) (E : zHp) : Option (Option Value × zHp) := @dite _ (∃ r : Option Value × zHp, zCal T j as E r.1 r.2) (Classical.propDecidable _) (fun h => some h.choose) (fun _ => none)
theorem zcal_of {T : Nat → zCd × Nat} {j : Nat} {as : List Value} {E E' : zHp} {v : Option Value} (h : zCal T j as E v E') : zcal T j as E = some (v, E') := by
  have hx : ∃ r : Option Value × zHp, zCal T j as E r.1 r.2 := ⟨(v, E'), h⟩
  rw [zcal, dif_pos hx]
  have h2 := zEv_one hx.choose_spec h
  have e1 : hx.choose.1 = v := Sum.inl.inj (congrArg Prod.fst h2)
  have e2 : hx.choose.2 = E' := congrArg Prod.snd h2
  rw [← e1, ← e2]
theorem zcal_to {T : Nat → zCd × Nat} {j : Nat} {as : List Value} {E E' : zHp} {v : Option Value} (h : zcal T j as E = some (v, E')) : zCal T j as E v E' := by
  by_cases hx : ∃ r : Option Value × zHp, zCal T j as E r.1 r.2
  · rw [zcal, dif_pos hx] at h
    have e := Option.some.inj h
    have h3 := hx.choose_spec
    rw [e] at h3
    exact h3
  · rw [zcal, dif_neg hx] at h
    cases h
theorem zEv_cl {T : Nat → zCd × Nat} {M c c' : zCd} {ls st ls' st' as : List Value} {j : Nat} {E : zHp} {o : zRt × zHp} (h : zst M c ls st E = some (.inr (.inl (j, as, c', ls', st')))) : zEv T M c ls st E o = match zcal T j as E with
    | some (v, E') => zEv T M c' ls' (v.toList ++ st') E' o
    | none => False := by
  refine propext ⟨fun ⟨n, hn⟩ => ?_, fun hn => ?_⟩
  · cases n with
    | zero => cases hn
    | succ n =>
      rw [zrun, h] at hn
      dsimp only at hn
      split at hn
      · rename_i v E' hc
        rw [zcal_of (show zCal T j as E v E' from ⟨n, hc⟩)]
        exact ⟨n, hn⟩
      · cases hn
  · split at hn
    · rename_i v E' hc
      obtain ⟨n, h1⟩ := zcal_to hc
      obtain ⟨m, h2⟩ := hn
      refine ⟨max n m + 1, ?_⟩
      rw [zrun, h]
      dsimp only
      rw [zrun_le (Nat.le_max_left n m) h1]
      exact zrun_le (Nat.le_max_right n m) h2
    · exact hn.elim
theorem zEv_rt {T : Nat → zCd × Nat} {M c : zCd} {ls st : List Value} {E : zHp} {o : zRt × zHp} {r : zRt} (h : zst M c ls st E = some (.inr (.inr r))) : zEv T M c ls st E o = (o = (r, E)) := by
  refine propext ⟨fun ⟨n, hn⟩ => ?_, fun hn => ⟨1, ?_⟩⟩
  · cases n with
    | zero => cases hn
    | succ n =>
      rw [zrun, h] at hn
      exact (Option.some.inj hn).symm
  · rw [zrun, h, hn]
end ZWALK
