/-! ===== one step of the walk is steps of the machine ===== -/
section ZSTEP
/-- a method: name, bytes, locals, answer, frames and words below it, code as the walk reads it -/
abbrev zMe : Type := MethodName × ByteArray × Nat × Option FieldType × Nat × Nat × zCd
def zy (m : zMe) : MethodName := m.1
def zb (m : zMe) : ByteArray := m.2.1
def zmL (m : zMe) : Nat := m.2.2.1
def zrT (m : zMe) : Option FieldType := m.2.2.2.1
def zfr (m : zMe) : Nat := m.2.2.2.2.1
def zlo (m : zMe) : Nat := m.2.2.2.2.2.1
def zco (m : zMe) : zCd := m.2.2.2.2.2.2
def zpc : zCd → Nat
  | [] => 0
  | e :: _ => e.1
def zIn (M : zCd) (t : Nat) : Bool := M.any (fun e => Nat.beq e.1 t)
theorem zpc_jp : ∀ {M : zCd} {t : Nat}, zIn M t = true → zpc (zjp M t) = t
  | [], t, h => by simp [zIn] at h
  | e :: M, t, h => by
    rw [zjp, List.dropWhile_cons]
    by_cases q : Nat.beq e.1 t = true
    · rw [q]
      exact Nat.eq_of_beq_eq_true q
    · have q2 : Nat.beq e.1 t = false := (Bool.not_eq_true _).mp q
      rw [q2]
      simp only [Bool.not_false, if_true]
      refine zpc_jp (M := M) ?_
      rw [zIn, List.any_cons, q2, Bool.false_or] at h
      exact h
/-- what is known of a callee: its words in the list, its arguments' number, its room -/
def zFc (Gw : List Jvm.Cond) (me cal : zMe) (n : Nat) : Prop :=
  Jvm.Cond.code (zy cal) (zb cal) (zmL cal) (zrT cal) ∈ Gw ∧ Jvm.Cond.initialized (zy cal).cls ∈ Gw ∧ ((zy cal).cls ≠ "java/lang/invoke/MethodHandle" ∧ (zy cal).cls ≠ "java/lang/invoke/VarHandle" ∧ (parseMethodDescriptor (zy cal).desc).map (fun d => d.parameters.length) = some n) ∧ zfr cal + 1 ≤ zfr me ∧ 8 + (zmL cal + 11) + zlo cal ≤ zlo me
def zOw (m : zMe) : String := (zy m).cls
/-- what a field of a class is -/
def zFf (Gw : List Jvm.Cond) (cl : List vw_C) (own : String) (ci k idx : Nat) : Prop :=
  ∃ (C : String) (T : u_T) (N : Nat), cl[ci]? = some (C, T, N) ∧ k < N ∧ Jvm.Cond.fieldLink own idx (T k).1 (T k).2.1 (T k).2.2.1 ∈ Gw ∧ (∀ w ∈ u_ws C T N, w ∈ Gw)
def zFp (Gw : List Jvm.Cond) (cl : List vw_C) (m : zMe) (ci k idx kd : Nat) : Prop :=
  ∃ (C : String) (T : u_T) (N : Nat), cl[ci]? = some (C, T, N) ∧ k < N ∧ Jvm.Cond.fieldLink (zOw m) idx (T k).1 (T k).2.1 (T k).2.2.1 ∈ Gw ∧ (∀ w ∈ u_ws C T N, w ∈ Gw) ∧
    (∃ ty0 : Nat → FieldType, (∀ k, k < N → parseFieldDescriptor (T k).2.2.1 = some (ty0 k)) ∧ ((kd = 0 ∧ (ty0 k = .int ∧ zB ci k = false ∨ ty0 k = .boolean ∧ zB ci k = true)) ∨ (kd = 1 ∧ ((∃ n, ty0 k = .object n) ∨ ∃ t, ty0 k = .array t)))) ∧
    (∀ a, a < N → ∀ b, b < N → a ≠ b → (T a).2.1 ≠ (T b).2.1) ∧ ((T k).2.2.2 = true → (zy m).name = "<init>" ∧ (T k).1 = zOw m)
/-- a table of cases against the machine's -/
def ztb (pc : Nat) (offs : Array Int) : List (Int32 × Nat) → Int → Nat → Bool
  | [], _, _ => true
  | (k, t) :: l, lo, i => decide (k.toInt = lo + i) && decide (offs[i]? = some ((t : Int) - pc)) && ztb pc offs l lo (i + 1)
theorem ztb_sw {pc : Nat} {offs : Array Int} {lo : Int} {d : Nat} {v : Int32} : ∀ {l : List (Int32 × Nat)} {i : Nat}, ztb pc offs l lo i = true → lo + i ≤ v.toInt → (v.toInt < lo + i + l.length → ∃ off, offs[(v.toInt - lo).toNat]? = some off ∧ (pc : Int) + off = (zsw l d v : Int)) ∧ (lo + i + l.length ≤ v.toInt → zsw l d v = d)
  | [], i, _, h => ⟨fun h2 => absurd h2 (by simp; omega), fun _ => rfl⟩
  | (k, t) :: l, i, h, h1 => by
    simp only [ztb, Bool.and_eq_true, decide_eq_true_eq] at h
    obtain ⟨⟨h2, h3⟩, h4⟩ := h
    rw [zsw]
    by_cases e : v = k
    · subst e
      rw [if_pos rfl]
      refine ⟨fun _ => ⟨(t : Int) - pc, ?_, by omega⟩, fun h5 => absurd h5 (by rw [List.length_cons]; omega)⟩
      rw [h2, show (lo + (i : Int) - lo).toNat = i by omega]
      exact h3
    · rw [if_neg e]
      have hne : v.toInt ≠ lo + i := fun q => e (Int32.toInt_inj.mp (q.trans h2.symm))
      have ih := ztb_sw (d := d) h4 (by omega : lo + ((i + 1 : Nat) : Int) ≤ v.toInt)
      refine ⟨fun h5 => ih.1 (by rw [List.length_cons] at h5; omega), fun h5 => ih.2 (by rw [List.length_cons] at h5; omega)⟩
theorem zlk_sw {pc d : Nat} {dflt : Int} (hd : (pc : Int) + dflt = d) {v : Int32} : ∀ (l : List (Int32 × Nat)), (pc : Int) + Op.lookupswitch.offset (l.map (fun e => (e.1.toInt, (e.2 : Int) - pc))) dflt v.toInt = (zsw l d v : Int)
  | [] => by rw [List.map_nil, zsw, ← hd]; rfl
  | (k, t) :: l => by
    rw [List.map_cons, Op.lookupswitch.offset_cons, zsw]
    by_cases e : v = k
    · subst e
      rw [if_pos rfl, if_pos rfl]
      show (pc : Int) + ((t : Int) - pc) = t
      omega
    · rw [if_neg e, if_neg (fun q => e (Int32.toInt_inj.mp q.symm))]
      exact zlk_sw hd l
/-- what is known of an element of a method's code -/
def zFa (Gw nst : List Jvm.Cond) (cl : List vw_C) (Mt : Nat → zMe) (m : zMe) : zEl → Prop := fun (pc, len, i, x, z, y, l) =>
  match i with
  | .iload k => (decode (zb m) pc = .ok (.iload k, 2) ∧ len = 2) ∨ ∃ f : Fin 4, decode (zb m) pc = .ok (.iload_n f, 1) ∧ (f : Nat) = k ∧ len = 1
  | .aload k => (decode (zb m) pc = .ok (.aload k, 2) ∧ len = 2) ∨ ∃ f : Fin 4, decode (zb m) pc = .ok (.aload_n f, 1) ∧ (f : Nat) = k ∧ len = 1
  | .istore k => (decode (zb m) pc = .ok (.istore k, 2) ∧ len = 2) ∨ ∃ f : Fin 4, decode (zb m) pc = .ok (.istore_n f, 1) ∧ (f : Nat) = k ∧ len = 1
  | .astore k => (decode (zb m) pc = .ok (.astore k, 2) ∧ len = 2) ∨ ∃ f : Fin 4, decode (zb m) pc = .ok (.astore_n f, 1) ∧ (f : Nat) = k ∧ len = 1
  | .iconst _ => (∃ n, decode (zb m) pc = .ok (.iconst n, 1) ∧ Int32.ofInt n = y ∧ len = 1) ∨ (∃ n, decode (zb m) pc = .ok (.bipush n, 2) ∧ (Int8.ofInt n).toInt32 = y ∧ len = 2) ∨ (∃ n, decode (zb m) pc = .ok (.sipush n, 3) ∧ (Int16.ofInt n).toInt32 = y ∧ len = 3) ∨ (∃ idx, decode (zb m) pc = .ok (.ldc idx, 2) ∧ Jvm.Cond.constant (zOw m) idx y ∈ Gw ∧ len = 2) ∨ (∃ idx, decode (zb m) pc = .ok (.ldc_w idx, 3) ∧ Jvm.Cond.constant (zOw m) idx y ∈ Gw ∧ len = 3)
  | .iinc k _ => ∃ n, decode (zb m) pc = .ok (.iinc k n, 3) ∧ Int32.ofInt n = y ∧ len = 3
  | .if_icmp cd _ => ∃ off, decode (zb m) pc = .ok (.if_icmp cd off, 3) ∧ (pc : Int) + off = (x : Int) ∧ len = 3 ∧ zIn (zco m) x = true
  | .ifCond cd _ => ∃ off, decode (zb m) pc = .ok (.ifCond cd off, 3) ∧ (pc : Int) + off = (x : Int) ∧ len = 3 ∧ zIn (zco m) x = true
  | .ifnull _ => ∃ off, decode (zb m) pc = .ok (.ifnull off, 3) ∧ (pc : Int) + off = (x : Int) ∧ len = 3 ∧ zIn (zco m) x = true
  | .goto _ => ∃ off, decode (zb m) pc = .ok (.goto off, 3) ∧ (pc : Int) + off = (x : Int) ∧ zIn (zco m) x = true
  | .getfield _ => ∃ idx, decode (zb m) pc = .ok (.getfield idx, 3) ∧ len = 3 ∧ zFf Gw cl (zOw m) x z idx
  | .putfield kd => ∃ idx, decode (zb m) pc = .ok (.putfield idx, 3) ∧ len = 3 ∧ zFp Gw cl m x z idx kd
  | .tableswitch _ _ _ _ => ∃ dflt lo hi offs, decode (zb m) pc = .ok (.tableswitch dflt lo hi offs, len) ∧ ztb pc offs l lo 0 = true ∧ hi = lo + l.length - 1 ∧ (pc : Int) + dflt = (x : Int) ∧ (∀ v : Int32, zIn (zco m) (zsw l x v) = true) ∧ (∀ v : Int32, v.toInt < lo → zsw l x v = x)
  | .lookupswitch _ _ => ∃ dflt ps, decode (zb m) pc = .ok (.lookupswitch dflt ps, len) ∧ (ps.toList.zip (ps.toList.drop 1)).all (fun (a, next) => a.1 < next.1) = true ∧ (pc : Int) + dflt = (x : Int) ∧ ps.toList = l.map (fun e => (e.1.toInt, (e.2 : Int) - pc)) ∧ (∀ v : Int32, zIn (zco m) (zsw l x v) = true)
  | .invokevirtual ci => ∃ idx, decode (zb m) pc = .ok (.invokevirtual idx, 3) ∧ len = 3 ∧ 1 ≤ z ∧ z ≤ zmL (Mt x) ∧ zFc Gw m (Mt x) (z - 1) ∧ Jvm.Cond.methodLink (zOw m) idx (zy (Mt x)) ∈ Gw ∧ Jvm.Cond.instanceMethod (zy (Mt x)) ∈ Gw ∧ Jvm.Cond.selects (zOw (Mt x)) (zy (Mt x)) (zy (Mt x)) ∈ Gw ∧ ∃ T N, cl[ci]? = some (zOw (Mt x), T, N)
  | .invokestatic _ => ∃ idx, decode (zb m) pc = .ok (.invokestatic idx, 3) ∧ len = 3 ∧ z ≤ zmL (Mt x) ∧ zFc Gw m (Mt x) z ∧ Jvm.Cond.static (zy (Mt x)) ∈ Gw ∧ (Jvm.Cond.methodLink (zOw m) idx (zy (Mt x)) ∈ Gw ∨ ∃ host, Jvm.Cond.methodLinkNest (zOw m) idx (zy (Mt x)) host ∈ nst)
  | .invokespecial _ => ∃ idx, decode (zb m) pc = .ok (.invokespecial idx, 3) ∧ len = 3 ∧ 1 ≤ z ∧ z ≤ zmL (Mt x) ∧ zFc Gw m (Mt x) (z - 1) ∧ zrT (Mt x) = none ∧ (zy (Mt x)).name = "<init>" ∧ Jvm.Cond.instanceMethod (zy (Mt x)) ∈ Gw ∧ (Jvm.Cond.methodLink (zOw m) idx (zy (Mt x)) ∈ Gw ∨ ∃ host, Jvm.Cond.methodLinkNest (zOw m) idx (zy (Mt x)) host ∈ nst)
  | .invokedynamic _ => ∃ idx, decode (zb m) pc = .ok (.invokestatic idx, 3) ∧ len = 3 ∧ Jvm.Cond.methodLink (zOw m) idx arraycopyName ∈ Gw ∧ Jvm.Cond.native arraycopyName ∈ Gw ∧ Jvm.Cond.static arraycopyName ∈ Gw ∧ Jvm.Cond.initialized "java/lang/System" ∈ Gw ∧ 1 ≤ zfr m ∧ 40 ≤ zlo m
  | .f2i => ∃ idx, decode (zb m) pc = .ok (.invokestatic idx, 3) ∧ len = 3 ∧ Jvm.Cond.methodLink (zOw m) idx Lib.Math.max.name ∈ Gw ∧ Jvm.Cond.static Lib.Math.max.name ∈ Gw ∧ Jvm.Cond.initialized "java/lang/Math" ∈ Gw ∧ Jvm.Cond.code Lib.Math.max.name Lib.Math.max.code 2 (some .int) ∈ Gw ∧ 1 ≤ zfr m ∧ 40 ≤ zlo m
  | .d2i => ∃ idx, decode (zb m) pc = .ok (.invokestatic idx, 3) ∧ len = 3 ∧ Jvm.Cond.methodLink (zOw m) idx Lib.Math.min.name ∈ Gw ∧ Jvm.Cond.static Lib.Math.min.name ∈ Gw ∧ Jvm.Cond.initialized "java/lang/Math" ∈ Gw ∧ Jvm.Cond.code Lib.Math.min.name Lib.Math.min.code 2 (some .int) ∈ Gw ∧ 1 ≤ zfr m ∧ 40 ≤ zlo m
  | .monitorexit => ∃ idx, decode (zb m) pc = .ok (.invokespecial idx, 3) ∧ len = 3 ∧ Jvm.Cond.methodLink (zOw m) idx objectInit ∈ Gw ∧ Jvm.Cond.instanceMethod objectInit ∈ Gw ∧ Jvm.Cond.code objectInit ⟨#[0xb1]⟩ 1 none ∈ Gw ∧ 1 ≤ zfr m ∧ 40 ≤ zlo m
  | .new _ => ∃ (idx : Nat) (C : String) (T : u_T) (N : Nat) (ty : Nat → FieldType), decode (zb m) pc = .ok (.new idx, 3) ∧ len = 3 ∧ cl[x]? = some (C, T, N) ∧ (∀ k, k < N → parseFieldDescriptor (T k).2.2.1 = some (ty k)) ∧ (∀ lo g j, j < N → g = (fun _ => (0 : Int32)) → defaultValue (ty j) = vp_V (zfs lo g (l.map (fun e => if e.2 = 0 then none else some none)) 0) j) ∧ l.length = N ∧ Jvm.Cond.classLink (zOw m) idx C ∈ Gw ∧ Jvm.Cond.instantiable C N ∈ Gw ∧ Jvm.Cond.initialized C ∈ Gw ∧ (∀ w ∈ u_ws C T N, w ∈ Gw)
  | .newarray _ => len = 2 ∧ ((x = 0 ∧ decode (zb m) pc = .ok (.newarray .int, 2) ∧ Jvm.Cond.arrayClass .int ∈ Gw) ∨ (x = 1 ∧ decode (zb m) pc = .ok (.newarray .char, 2) ∧ Jvm.Cond.arrayClass .char ∈ Gw))
  | .anewarray _ => ∃ idx, decode (zb m) pc = .ok (.anewarray idx, 3) ∧ len = 3 ∧ Jvm.Cond.classLink (zOw m) idx "ShardRebalancer$Store" ∈ Gw
  | .aastore => decode (zb m) pc = .ok (.aastore, 1) ∧ len = 1 ∧ ∃ T N, cl[6]? = some ("ShardRebalancer$Store", T, N)
  | .ireturn => decode (zb m) pc = .ok (.ireturn, 1) ∧ ((x = 0 ∧ zrT m = some .int) ∨ (x = 1 ∧ zrT m = some .boolean))
  | .areturn => decode (zb m) pc = .ok (.areturn, 1) ∧ ((∃ n, zrT m = some (.object n)) ∨ ∃ t, zrT m = some (.array t))
  | .return_ => decode (zb m) pc = .ok (.return_, 1) ∧ zrT m = none
  | .athrow => True
  | i => decode (zb m) pc = .ok (i, 1) ∧ len = 1
/-- where a method stands -/
def zCx (Gw nst : List Jvm.Cond) (D : va_G) (cl : List vw_C) (K : Nat → ClassId) (lo : Nat) (m : zMe) (p : Program) (R : Room) (s : State) (mi : MethodId) (args : Array Value) (meth : Method) (c : Code) : Prop :=
  p.tables.exec = Jvm.exec ∧ c.code = zb m ∧ c.maxLocals = zmL m ∧ s.vm.findClass (zOw m) = some mi.cls ∧ (∀ w ∈ Gw, w.before args s = true) ∧ zKK D cl K nst s ∧ ((zy m).name = "<init>" → meth.name = "<init>") ∧ zfr m ≤ R.frames ∧ zlo m ≤ R.locals ∧ lo ≤ s.heap.size
def zfl : Instr → Bool
  | .goto _ | .ireturn | .areturn | .return_ | .athrow | .tableswitch .. | .lookupswitch .. => false
  | _ => true
end ZSTEP
section ZSTEP2
variable {p : Program} {l : Launch} {e : Env} {R : Room} {s : State} {mi : MethodId} {args : Array Value} {below : List Frame} {meth : Method} {c : Code} {H : Heap} {locs : List Loc} {Q : State → Prop}
variable {Gw nst : List Jvm.Cond} {D : va_G} {cl : List vw_C} {K : Nat → ClassId} {lo n0 m0 : Nat} {me : zMe} {Mt : Nat → zMe} {fl : Bool}
theorem zi_in {i : Int32} {n : Nat} (h : zi i n = true) : vp_in i n := by
  simp only [zi, Bool.and_eq_true, decide_eq_true_eq] at h
  intro q
  rcases q with q | q
  · exact absurd h.1 (Int32.not_le.mpr q)
  · omega
theorem zar_at {E : zHp} {q kd n : Nat} (h : zar E q kd = some n) : q < zN E ∧ zS E q = .inl (kd, n) := by
  unfold zar at h
  split at h
  · rename_i hp
    split at h
    · rename_i k n' he
      split at h
      · rename_i hk
        cases h
        rw [← hk]
        exact ⟨hp, he⟩
      · cases h
    · cases h
  · cases h
theorem zqr_at {E : zHp} {q : Nat} {r : Nat × (Nat → Option Nat)} (h : zqr E q = some r) : q < zN E ∧ zS E q = .inr (.inl r) := by
  unfold zqr at h
  split at h
  · rename_i hp
    split at h
    · rename_i r' he
      cases h
      exact ⟨hp, he⟩
    · cases h
  · cases h
theorem zob_at {E : zHp} {q ci : Nat} (h : zob E q ci = true) : q < zN E ∧ ∃ fs, zS E q = .inr (.inr (ci, fs)) := by
  unfold zob at h
  split at h
  · rename_i hp
    split at h
    · rename_i c' fs he
      have : c' = ci := by simpa using h
      subst this
      exact ⟨hp, fs, he⟩
    · cases h
  · cases h
theorem zc_rf (lo : Nat) (o : Option Nat) : zc lo (zrf o) = va_rf (o.map (fun q => lo + q)) := by cases o <;> rfl
theorem zc_up (lo : Nat) (f : Nat → Option Nat) (k v : Nat) : (fun i => (va_up f k (some v) i).map (fun q => lo + q)) = va_up (fun i => (f i).map (fun q => lo + q)) k (some (lo + v)) := by
  funext i
  by_cases h : i = k
  · simp [va_up, h]
  · simp [va_up, h]
theorem zc_sum (lo : Nat) : ∀ (st : List Value), ((st.map (zc lo)).map fun v => v.category).sum = st.length
  | [] => rfl
  | v :: st => by
    rw [List.map_cons, List.map_cons, List.sum_cons, zc_cat, zc_sum lo st, List.length_cons]
    omega
theorem zgf_at {E : zHp} {q ci k : Nat} {v : Value} (h : zgf E q ci k = some v) : q < zN E ∧ ∃ fs, zS E q = .inr (.inr (ci, fs)) ∧ ∀ lo, (zfs lo (zG E q) fs 0)[k]? = some (zc lo v) := by
  unfold zgf at h
  split at h
  · rename_i hp
    split at h
    · rename_i c fs he
      split at h
      · rename_i hc
        subst hc
        refine ⟨hp, fs, he, fun lo => ?_⟩
        rw [zfs_get, Nat.zero_add]
        split at h
        · rename_i hk; cases h; rw [hk]; rfl
        · rename_i hk; cases h; rw [hk]; rfl
        · rename_i q hk; cases h; rw [hk]; rfl
        · cases h
      · cases h
    · cases h
  · cases h
theorem zWd.put {E : zHp} {H1 : Heap} {q : Nat} {s' : zSh} {g' : Nat → Int32} {v : va_E} (hq : q < zN E) (hv : v = zcell lo K s' g') (hP : va_P D cl ((zws lo K E).set q (lo + q, v)) H1) : zWd D cl lo K (zN E, zM E, va_up (zS E) q s', va_up (zG E) q g') H1 := by
  subst hv
  rw [zws_set s' g' hq] at hP
  refine ⟨hP, ?_⟩
  have h0 : zN E - 1 < zN (zN E, zM E, va_up (zS E) q s', va_up (zG E) q g') := by show zN E - 1 < zN E; omega
  have h1 := (hP _ _ (zws_get h0)).lt
  show lo + zN E ≤ H1.size
  dsimp only at h1
  omega
theorem zup_self {α : Type} (f : Nat → α) (k : Nat) : va_up f k (f k) = f := by
  funext j
  by_cases h : j = k
  · subst h; simp [va_up]
  · simp [va_up, h]
theorem zWd.putG {E : zHp} {H1 : Heap} {q : Nat} {g' : Nat → Int32} {v : va_E} (hq : q < zN E) (hv : v = zcell lo K (zS E q) g') (hP : va_P D cl ((zws lo K E).set q (lo + q, v)) H1) : zWd D cl lo K (zwr E q g') H1 := by
  have h := zWd.put hq hv hP
  rw [zup_self] at h
  exact h
theorem zW_sz {cells slots : Nat} {g : JFrame} (k : H.size ≤ s.heap.size + cells → W p l e R s mi args below meth c H locs cells slots Q g) : W p l e R s mi args below meth c H locs cells slots Q g := fun T hT X => k (by rw [← hT]; exact X.same.2.2.1) T hT X
/-- a new cell lies at the end -/
theorem zWd.new {nb : Option Nat} {E : zHp} {H1 : Heap} {q : Nat} {s' : zSh} {n : Nat} {v : va_E} (hv : v = zcell lo K s' (fun _ => 0)) (hP : va_P D cl (zws lo K E ++ [(q, v)]) H1) (hD : va_D (zA lo nb) (zws lo K E ++ [(q, v)])) (hz : H1.size ≤ lo + zN E + 1) : q = lo + zN E ∧ zWd D cl lo K (znw E s' n) H1 := by
  subst hv
  have hl : (zws lo K E).length = zN E := by simp [zws]
  have hat : (zws lo K E ++ [(q, zcell lo K s' (fun _ => 0))])[zN E]? = some (q, zcell lo K s' (fun _ => 0)) := by
    rw [List.getElem?_append_right (by omega), hl, Nat.sub_self]; rfl
  have h1 := (hP _ _ hat).lt
  have h2 := hD.2 _ _ hat
  have hq : q = lo + zN E := by
    apply Classical.byContradiction
    intro ne
    dsimp only at h1
    have h3 : lo ≤ q := h2.1
    have h4 : q - lo < zN E := by omega
    have h5 : (zws lo K E ++ [(q, zcell lo K s' (fun _ => 0))])[q - lo]? = some (lo + (q - lo), zcell lo K (zS E (q - lo)) (zG E (q - lo))) := by
      rw [List.getElem?_append_left (by omega)]; exact zws_get h4
    have h6 := hD.1 (q - lo) (zN E) _ _ h5 hat (by dsimp only; omega)
    omega
  subst hq
  rw [zws_push lo K E s' n] at hP
  refine ⟨rfl, hP, ?_⟩
  have h3 := (hP (zN E) _ (zws_get (by show zN E < zN E + 1; omega))).lt
  dsimp only at h3
  show lo + (zN E + 1) ≤ H1.size
  omega
end ZSTEP2
