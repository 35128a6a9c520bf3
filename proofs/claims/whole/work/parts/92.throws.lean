section ZTHROWS
/-- the exceptions' classes, by their numbers -/
def zxE : Nat → String
  | 0 => "java/lang/IllegalArgumentException"
  | 1 => "java/lang/IllegalStateException"
  | 2 => "java/lang/IndexOutOfBoundsException"
  | 3 => "java/util/NoSuchElementException"
  | 4 => "java/lang/ArithmeticException"
  | _ => "java/lang/UnsupportedOperationException"
variable {p : Program} {l : Launch} {e : Env} {R : Room} {s : State} {mi : MethodId} {args : Array Value} {below : List Frame} {meth : Method} {c : Code} {H : Heap} {locs : List Loc} {Q : State → Prop}
variable {Gw nst : List Jvm.Cond} {D : va_G} {cl : List vw_C} {K : Nat → ClassId} {lo n0 m0 : Nat} {me : zMe} {Mt : Nat → zMe} {fl : Bool} {nb : Option Nat}
theorem zWd_up {E : zHp} {H1 : Heap} (h : zWd D cl lo K E H) (h1 : H.size ≤ H1.size) (h2 : ∀ q : Nat, q < H.size → H1[q]? = H[q]?) : zWd D cl lo K E H1 := ⟨va_P.kept h.1 (fun _ q hk => h2 q.1 (vx_lt h.1 hk)), Nat.le_trans h.2 h1⟩
/-- the words of the throws that aren't good, but steady all the same -/
def zxV : List Jvm.Cond := [.declares (Bundle.initS "java/lang/RuntimeException"), .declares (Bundle.initS "java/lang/Exception"), .declares (Bundle.initS Bundle.tN), .castable (zxE 0) (zxE 0), .castable (zxE 1) (zxE 1), .castable (zxE 2) (zxE 2), .castable (zxE 3) (zxE 3), .castable (zxE 4) (zxE 4), .castable (zxE 5) (zxE 5)]
theorem zxV_t : ∀ w ∈ zxV, w.onTables = true := by decide
theorem zxV_warm {u U : State} (hW : u.WarmedH U.vm) (h : ∀ w ∈ zxV, va_Nw w u) : ∀ w ∈ zxV, va_Nw w U := by
  unfold zxV at h ⊢
  simp only [List.forall_mem_cons] at h ⊢
  obtain ⟨a1, a2, a3, a4, a5, a6, a7, a8, a9, -⟩ := h
  exact ⟨va_Nw.warmD hW a1, va_Nw.warmD hW a2, va_Nw.warmD hW a3, va_Nw.warmC hW a4, va_Nw.warmC hW a5, va_Nw.warmC hW a6, va_Nw.warmC hW a7, va_Nw.warmC hW a8, va_Nw.warmC hW a9, fun _ h => nomatch h⟩
/-- what a throw stands on: words that a call may not ask for, the texts, Throwable's two statics -/
def zxW (B : List (Nat × Nat)) (sts : List (Nat × String)) (lo : Nat) (nb : Option Nat) (U : State) : Prop := (∀ w ∈ zxV, va_Nw w U) ∧ (∀ q ∈ B, va_Nc (zxE q.1) (zxE q.2) U) ∧ (∀ q ∈ sts, ∃ sa, vk_R "ShardRebalancer" q.1 q.2 sa U) ∧ vx_Zq Bundle.tN "UNASSIGNED_STACK" Bundle.steD (zA lo nb) U U.heap ∧ vx_Zq Bundle.tN "SUPPRESSED_SENTINEL" Bundle.listD (zA lo nb) U U.heap
/-- a throw's element: from there the exception leaves -/
def zxT (l : Launch) (Gw : List Jvm.Cond) (B : List (Nat × Nat)) (sts : List (Nat × String)) (me : zMe) (el : zEl) : Prop :=
  ∀ (lo : Nat) (nb : Option Nat) (p : Program) (e : Env) (R : Room) (s : State) (mi : MethodId) (args : Array Value) (below : List Frame) (meth : Method) (c : Code) (H : Heap) (locs : List Loc) (lsC : Array Slot) (Qc : Array Value → State → Outcome → State → Prop) (XC : String → State → State → Prop),
    p.tables.exec = Jvm.exec → c.code = zb me → s.vm.findClass (zOw me) = some mi.cls → (∀ w ∈ Gw, w.before args s = true) → zxW B sts lo nb s → va_S (zA lo nb) s.heap H locs → lsC.size = c.maxLocals → (∀ x ∈ c.exceptionTable.toList, False) → 10 ≤ R.frames → 200 ≤ R.locals → 1 ≤ R.cells → 6 ≤ R.slots → meth.locks = false →
    (∀ t : State, s.vm.Alike t.vm → H.size ≤ t.heap.size → (∀ q : Nat, q < H.size → t.heap[q]? = H[q]?) → XC (zxE el.2.2.2.1) s t) →
    W p l e R s mi args below meth c H locs 0 0 (vx_MQ below Qc XC args s 1 6 (zA lo nb)) (F0 mi el.1 lsC [])
def zxrm (m : zMe) : Room := { frames := max (zfr m) 10, cells := 1, slots := 6, locals := max (zlo m) 200 }
def zxPc (nst : List Jvm.Cond) (D : va_G) (cl : List vw_C) (K : Nat → ClassId) (B : List (Nat × Nat)) (sts : List (Nat × String)) (lo : Nat) (nb : Option Nat) (E : zHp) : State → Prop := fun U => zPc false nst D cl K lo E U ∧ zxW B sts lo nb U
def zxQc (D : va_G) (cl : List vw_C) (K : Nat → ClassId) (lo : Nat) (nb : Option Nat) (E' : zHp) (r : zRt) : Array Value → State → Outcome → State → Prop := match r with
  | .inl v => zQc D cl K lo nb E' v
  | .inr _ => fun _ _ _ _ => False
def zxXC (D : va_G) (cl : List vw_C) (K : Nat → ClassId) (lo : Nat) (nb : Option Nat) (E' : zHp) (r : zRt) : String → State → State → Prop := match r with
  | .inl _ => fun _ _ _ => False
  | .inr x => fun C st t => C = zxE x ∧ zWd D cl lo K E' t.heap ∧ va_F (zA lo nb) st t
/-- the contract of a method that answers or throws -/
def zxM (Gw nst : List Jvm.Cond) (l : Launch) (D : va_G) (cl : List vw_C) (K : Nat → ClassId) (B : List (Nat × Nat)) (sts : List (Nat × String)) (lo : Nat) (nb : Option Nat) (m : zMe) (as : List Value) (E : zHp) (r : zRt) (E' : zHp) : Prop :=
  vx_Met l (zy m) (zwl Gw m) (zxrm m) (va_Pc (as.map (zc lo)) (zxPc nst D cl K B sts lo nb E)) (zxQc D cl K lo nb E' r) (zxXC D cl K lo nb E' r) 1 6 (zA lo nb)
theorem zthrown {M c' : zCd} {el : zEl} {ls st : List Value} {E : zHp} {x : Nat} (h : zst M (el :: c') ls st E = some (.inr (.inr (.inr x)))) : el.2.2.1 = .athrow ∧ st = [] ∧ x = el.2.2.2.1 := by
  obtain ⟨pc, len, i, x0, z, y, t⟩ := el
  cases i
  case athrow =>
    simp only [zst] at h
    split at h
    · cases h
      exact ⟨rfl, rfl, rfl⟩
    · cases h
  all_goals (exfalso; simp only [zst, znx, zcl] at h <;> repeat' (first | (cases h; done) | split at h))
theorem zmetX {B : List (Nat × Nat)} {sts : List (Nat × String)} (hl : l.stackTraces = false) (hg : ∀ w ∈ Gw, goodWord w = true) (hok : ∀ j, zOK Gw nst cl Mt (Mt j) ∨ zco (Mt j) = []) (hin : ∀ w ∈ nst, ∃ (a : String) (i : Nat) (x : MethodName) (h : String), w = .methodLinkNest a i x h)
    {n j : Nat} {as : List Value} {E E' : zHp} {r : zRt} (hj : zOK Gw nst cl Mt (Mt j)) (hthr : ∀ el ∈ zco (Mt j), el.2.2.1 = .athrow → zxT l Gw B sts (Mt j) el) (hlen : as.length ≤ zmL (Mt j)) (hrun : zrun (zT Mt) n (zco (Mt j)) (zco (Mt j)) (zen as (zmL (Mt j))) [] E = some (r, E')) (hN : zN E' = zN E) (hM : zM E' = zM E) (hnb : ∀ n, nb = some n → zN E' ≤ n) :
    zxM Gw nst l D cl K B sts lo nb (Mt j) as E r E' := by
  refine vx_ofW (cc := zb (Mt j)) (maxL := zmL (Mt j)) (ret := zrT (Mt j)) hj.1 rfl ?_
  intro p e s m args below meth c s₁ BL hml hno hv
  obtain ⟨rfl, ⟨hWd, hKK, hex⟩, hX⟩ := hv
  have hts0 := atoms_spec (ws := zwl Gw (Mt j)) BL.pre
  have hl0 := lv_entry (as.map (zc lo)) (n := zmL (Mt j)) (by rw [zlg_len]; exact hlen)
  rw [lg_entry_eq]
  generalize (lg_sl (as.map (zc lo)) ++ List.replicate (zmL (Mt j) - (lg_sl (as.map (zc lo))).length) Slot.unset).toArray = lsC at hl0 ⊢
  have hL : zLv lo (zmL (Mt j)) (zen as (zmL (Mt j))) lsC := zLv.entry hlen hl0
  have hfr : zfr (Mt j) ≤ (zxrm (Mt j)).frames := Nat.le_max_left _ _
  have hlo : zlo (Mt j) ≤ (zxrm (Mt j)).locals := Nat.le_max_left _ _
  have C : zCx Gw nst D cl K lo (Mt j) p (headSpec (zwl Gw (Mt j)) (zxrm (Mt j))).room s m (as.map (zc lo)).toArray meth c := ⟨BL.exec, BL.bytes, hml, findClass_of_methodNamed BL.named, fun w hw => hts0 w (List.mem_cons_of_mem _ hw), hKK, fun h => (name_of_methodNamed BL.named BL.method).1.trans h, hfr, hlo, Nat.le_trans (Nat.le_add_right _ _) hWd.2⟩
  have e1 : zN E' - zN E = 0 := by rw [hN, Nat.sub_self]
  have e2 : zM E' - zM E = 0 := by rw [hM, Nat.sub_self]
  have key := zinner (fl := false) (nb := nb) (fun h => absurd h (by decide)) (l := l) (e := e) (below := below) (Q := vx_MQ below (zxQc D cl K lo nb E' r) (zxXC D cl K lo nb E' r) (as.map (zc lo)).toArray s 1 6 (zA lo nb)) hg C hj hex (n0 := zN E) (m0 := zM E) (E1 := E') (r := r) (by rw [e1]; exact Nat.zero_le _) (by rw [e2]; exact Nat.zero_le _) (Or.inr hN) hnb
    (fun el c' ls st H locs lsC hsf hst hL hW hS => by
      rw [e1, e2]
      have hmem : el ∈ zco (Mt j) := hsf.mem List.mem_cons_self
      cases r with
      | inl v =>
        have k := zreturn (l := l) (e := e) (below := below) (cells := 1) (slots := 6) C BL.returns BL.notSynchronized (hj.2.1 el hmem) hst hW hS (lsC := lsC)
        have k2 := vx_ret (XC := zxXC D cl K lo nb E' (.inl v)) k
        exact fun T hT X => k2 T hT (stand_widen X (Nat.zero_le _) (Nat.zero_le _))
      | inr x =>
        obtain ⟨h1, h2, h3⟩ := zthrown hst
        subst h2
        subst h3
        have hsz : lsC.size = c.maxLocals := hL.2.1.trans hml.symm
        exact hthr el hmem h1 lo nb p e _ s m _ below meth c H locs lsC _ _ BL.exec BL.bytes (findClass_of_methodNamed BL.named) (fun w hw => hts0 w (List.mem_cons_of_mem _ hw)) hX hS hsz hno (Nat.le_max_right _ _) (Nat.le_max_right _ _) (Nat.le_refl _) (Nat.le_refl _) BL.notSynchronized
          (fun t _ a1 a2 => ⟨rfl, zWd_up hW a1 a2, Nat.le_trans hS.1 a1, fun q q1 q2 => (a2 q (Nat.lt_of_lt_of_le q1 hS.1)).trans (hS.2.1 q q1 q2)⟩))
    n (fun j as E E' v k _ hl hr ha hb => zmet (fun h => absurd h (by decide)) hg hok hin k j as E E' v hl hr ha hb) (zco (Mt j)) (zen as (zmL (Mt j))) [] E s.heap [] lsC List.suffix_rfl hrun (Nat.le_refl _) (Nat.le_refl _) hL hWd va_S.rf
  rw [Nat.sub_self, Nat.sub_self, hj.2.2.2] at key
  exact key
end ZTHROWS
