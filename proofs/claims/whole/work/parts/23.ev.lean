/-! ===== the walk, an equation an instruction ===== -/
section ZEVS
def zLI (v : Value) (f : Int32 → Prop) : Prop := match v with
  | .int x => f x
  | _ => False
def zLR (v : Value) (f : Nat → Prop) : Prop := match v with
  | .ref x => f x
  | _ => False
def zOV {α : Type} (x : Option α) (f : α → Prop) : Prop := match x with
  | some a => f a
  | none => False
theorem zLI_i (x : Int32) (f : Int32 → Prop) : zLI (.int x) f = f x := rfl
theorem zLR_r (x : Nat) (f : Nat → Prop) : zLR (.ref x) f = f x := rfl
theorem zOV_s {α : Type} (a : α) (f : α → Prop) : zOV (some a) f = f a := rfl
variable {T : Nat → zCd × Nat} {M c : zCd} {ls st : List Value} {E : zHp} {o : zRt × zHp} {pc len : Nat}
theorem zEv_no (h : zst M c ls st E = none) : zEv T M c ls st E o = False := by
  refine propext ⟨fun ⟨n, hn⟩ => ?_, False.elim⟩
  cases n with
  | zero => cases hn
  | succ n => rw [zrun, h] at hn; cases hn
theorem ev_iload {k : Nat} : zEv T M (zo pc len (.iload k) :: c) ls st E o = zLI (zlg ls k) (fun v => zEv T M c ls (.int v :: st) E o) := by
  cases h : zlg ls k
  case int v => exact zEv_nx (by simp [zo, zst, h, znx])
  all_goals exact zEv_no (by simp [zo, zst, h])
theorem ev_aload {k : Nat} : zEv T M (zo pc len (.aload k) :: c) ls st E o = zLR (zlg ls k) (fun v => zEv T M c ls (.ref v :: st) E o) := by
  cases h : zlg ls k
  case ref v => exact zEv_nx (by simp [zo, zst, h, znx])
  all_goals exact zEv_no (by simp [zo, zst, h])
theorem ev_istore {k : Nat} {v : Int32} : zEv T M (zo pc len (.istore k) :: c) ls (.int v :: st) E o = (k < ls.length ∧ zEv T M c (zls ls k (.int v)) st E o) := by
  by_cases h : k < ls.length
  · rw [zEv_nx (by simp [zo, zst, h, znx]; exact ⟨rfl, rfl, rfl, rfl⟩)]; simp [h]
  · rw [zEv_no (by simp [zo, zst, h])]; simp [h]
theorem ev_astore {k : Nat} {v : Nat} : zEv T M (zo pc len (.astore k) :: c) ls (.ref v :: st) E o = (k < ls.length ∧ zEv T M c (zls ls k (.ref v)) st E o) := by
  by_cases h : k < ls.length
  · rw [zEv_nx (by simp [zo, zst, h, znx]; exact ⟨rfl, rfl, rfl, rfl⟩)]; simp [h]
  · rw [zEv_no (by simp [zo, zst, h])]; simp [h]
theorem ev_iconst {k : Int} {y : Int32} : zEv T M (zk pc len (.iconst k) y :: c) ls st E o = zEv T M c ls (.int y :: st) E o := zEv_nx (by simp [zk, zst, znx])
theorem ev_null : zEv T M (zo pc len .aconst_null :: c) ls st E o = zEv T M c ls (.null :: st) E o := zEv_nx (by simp [zo, zst, znx])
theorem ev_iinc {k : Nat} {n : Int} {y : Int32} : zEv T M (zk pc len (.iinc k n) y :: c) ls st E o = zLI (zlg ls k) (fun v => k < ls.length ∧ zEv T M c (zls ls k (.int (v + y))) st E o) := by
  cases h : zlg ls k
  case int v =>
    by_cases hk : k < ls.length
    · rw [zEv_nx (by simp [zk, zst, h, hk, znx]; exact ⟨rfl, rfl, rfl, rfl⟩)]; simp [zLI, hk]
    · rw [zEv_no (by simp [zk, zst, h, hk])]; simp [zLI, hk]
  all_goals exact zEv_no (by simp [zk, zst, h])
theorem ev_iadd {a b : Int32} : zEv T M (zo pc len .iadd :: c) ls (.int b :: .int a :: st) E o = zEv T M c ls (.int (a + b) :: st) E o := zEv_nx (by simp [zo, zst, zbin, znx])
theorem ev_isub {a b : Int32} : zEv T M (zo pc len .isub :: c) ls (.int b :: .int a :: st) E o = zEv T M c ls (.int (a - b) :: st) E o := zEv_nx (by simp [zo, zst, zbin, znx])
theorem ev_imul {a b : Int32} : zEv T M (zo pc len .imul :: c) ls (.int b :: .int a :: st) E o = zEv T M c ls (.int (a * b) :: st) E o := zEv_nx (by simp [zo, zst, zbin, znx])
theorem ev_iand {a b : Int32} : zEv T M (zo pc len .iand :: c) ls (.int b :: .int a :: st) E o = zEv T M c ls (.int (a &&& b) :: st) E o := zEv_nx (by simp [zo, zst, zbin, znx])
theorem ev_ior {a b : Int32} : zEv T M (zo pc len .ior :: c) ls (.int b :: .int a :: st) E o = zEv T M c ls (.int (a ||| b) :: st) E o := zEv_nx (by simp [zo, zst, zbin, znx])
theorem ev_ixor {a b : Int32} : zEv T M (zo pc len .ixor :: c) ls (.int b :: .int a :: st) E o = zEv T M c ls (.int (a ^^^ b) :: st) E o := zEv_nx (by simp [zo, zst, zbin, znx])
theorem ev_ishl {a b : Int32} : zEv T M (zo pc len .ishl :: c) ls (.int b :: .int a :: st) E o = zEv T M c ls (.int (a <<< (b &&& 31)) :: st) E o := zEv_nx (by simp [zo, zst, zbin, znx])
theorem ev_ishr {a b : Int32} : zEv T M (zo pc len .ishr :: c) ls (.int b :: .int a :: st) E o = zEv T M c ls (.int (a >>> (b &&& 31)) :: st) E o := zEv_nx (by simp [zo, zst, zbin, znx])
theorem ev_iushr {a b : Int32} : zEv T M (zo pc len .iushr :: c) ls (.int b :: .int a :: st) E o = zEv T M c ls (.int ((a.toUInt32 >>> (b.toUInt32 &&& Int32.toUInt32 31)).toInt32) :: st) E o := zEv_nx (by simp [zo, zst, zbin, znx])
theorem ev_idiv {a b : Int32} : zEv T M (zo pc len .idiv :: c) ls (.int b :: .int a :: st) E o = (¬ b = 0 ∧ zEv T M c ls (.int (a / b) :: st) E o) := by
  by_cases h : b = 0
  · rw [zEv_no (by simp [zo, zst, zbin, h])]; simp [h]
  · rw [zEv_nx (by simp [zo, zst, zbin, h, znx]; exact ⟨rfl, rfl, rfl, rfl⟩)]; simp [h]
theorem ev_irem {a b : Int32} : zEv T M (zo pc len .irem :: c) ls (.int b :: .int a :: st) E o = (¬ b = 0 ∧ zEv T M c ls (.int (a - a / b * b) :: st) E o) := by
  by_cases h : b = 0
  · rw [zEv_no (by simp [zo, zst, zbin, h])]; simp [h]
  · rw [zEv_nx (by simp [zo, zst, zbin, h, znx]; exact ⟨rfl, rfl, rfl, rfl⟩)]; simp [h]
theorem ev_icmp {cd : ClassFile.Cond} {n : Int} {t : Nat} {a b : Int32} : zEv T M (zx pc len (.if_icmp cd n) t :: c) ls (.int b :: .int a :: st) E o = if zcd cd a b = true then zEv T M (zjp M t) ls st E o else zEv T M c ls st E o := by
  by_cases h : zcd cd a b = true
  · rw [if_pos h]; exact zEv_nx (by simp [zx, zst, h, znx])
  · rw [if_neg h]; exact zEv_nx (by simp [zx, zst, h, znx])
theorem ev_if {cd : ClassFile.Cond} {n : Int} {t : Nat} {a : Int32} : zEv T M (zx pc len (.ifCond cd n) t :: c) ls (.int a :: st) E o = if zcd cd a 0 = true then zEv T M (zjp M t) ls st E o else zEv T M c ls st E o := by
  by_cases h : zcd cd a 0 = true
  · rw [if_pos h]; exact zEv_nx (by simp [zx, zst, h, znx])
  · rw [if_neg h]; exact zEv_nx (by simp [zx, zst, h, znx])
theorem ev_ifnull {n : Int} {t a : Nat} : zEv T M (zx pc len (.ifnull n) t :: c) ls (.ref a :: st) E o = zEv T M c ls st E o := zEv_nx (by simp [zx, zst, znx])
theorem ev_ifnullN {n : Int} {t : Nat} : zEv T M (zx pc len (.ifnull n) t :: c) ls (.null :: st) E o = zEv T M (zjp M t) ls st E o := zEv_nx (by simp [zx, zst, znx])
theorem ev_goto {n : Int} {t : Nat} : zEv T M (zx pc len (.goto n) t :: c) ls st E o = zEv T M (zjp M t) ls st E o := zEv_nx (by simp [zx, zst, znx])
theorem ev_dupi {v : Int32} : zEv T M (zo pc len .dup :: c) ls (.int v :: st) E o = zEv T M c ls (.int v :: .int v :: st) E o := zEv_nx (by simp [zo, zst, znx])
theorem ev_dupr {v : Nat} : zEv T M (zo pc len .dup :: c) ls (.ref v :: st) E o = zEv T M c ls (.ref v :: .ref v :: st) E o := zEv_nx (by simp [zo, zst, znx])
theorem ev_dup2 {b : Int32} {a : Nat} : zEv T M (zo pc len .dup2 :: c) ls (.int b :: .ref a :: st) E o = zEv T M c ls (.int b :: .ref a :: .int b :: .ref a :: st) E o := zEv_nx (by simp [zo, zst, znx])
theorem ev_pop {v : Int32} : zEv T M (zo pc len .pop :: c) ls (.int v :: st) E o = zEv T M c ls st E o := zEv_nx (by simp [zo, zst, znx])
theorem ev_getf {n ci k p : Nat} : zEv T M (zz pc len (.getfield n) ci k :: c) ls (.ref p :: st) E o = zOV (zgf E p ci k) (fun v => zEv T M c ls (v :: st) E o) := by
  cases h : zgf E p ci k with
  | some v => exact zEv_nx (by simp [zz, zst, h, znx])
  | none => exact zEv_no (by simp [zz, zst, h])
theorem ev_puti {ci k p : Nat} {v : Int32} : zEv T M (zz pc len (.putfield 0) ci k :: c) ls (.int v :: .ref p :: st) E o = zOV (zpf E p ci k (.int v)) (fun E' => zEv T M c ls st E' o) := by
  cases h : zpf E p ci k (.int v) with
  | some v => exact zEv_nx (by simp [zz, zst, h, znx])
  | none => exact zEv_no (by simp [zz, zst, h])
theorem ev_putr {ci k p v : Nat} : zEv T M (zz pc len (.putfield 1) ci k :: c) ls (.ref v :: .ref p :: st) E o = zOV (zpf E p ci k (.ref v)) (fun E' => zEv T M c ls st E' o) := by
  cases h : zpf E p ci k (.ref v) with
  | some v => exact zEv_nx (by simp [zz, zst, h, znx])
  | none => exact zEv_no (by simp [zz, zst, h])
theorem ev_iald {i : Int32} {p : Nat} : zEv T M (zo pc len .iaload :: c) ls (.int i :: .ref p :: st) E o = zOV (zar E p 0) (fun n => zi i n = true ∧ zEv T M c ls (.int (zG E p i.toNatClampNeg) :: st) E o) := by
  cases h : zar E p 0 with
  | none => exact zEv_no (by simp [zo, zst, h])
  | some n =>
    by_cases hi : zi i n = true
    · rw [zEv_nx (by simp [zo, zst, h, hi, znx]; exact ⟨rfl, rfl, rfl, rfl⟩)]; simp [zOV, hi]
    · rw [zEv_no (by simp [zo, zst, h, hi])]; simp [zOV, hi]
theorem ev_cald {i : Int32} {p : Nat} : zEv T M (zo pc len .caload :: c) ls (.int i :: .ref p :: st) E o = zOV (zar E p 1) (fun n => zi i n = true ∧ zEv T M c ls (.int (zG E p i.toNatClampNeg) :: st) E o) := by
  cases h : zar E p 1 with
  | none => exact zEv_no (by simp [zo, zst, h])
  | some n =>
    by_cases hi : zi i n = true
    · rw [zEv_nx (by simp [zo, zst, h, hi, znx]; exact ⟨rfl, rfl, rfl, rfl⟩)]; simp [zOV, hi]
    · rw [zEv_no (by simp [zo, zst, h, hi])]; simp [zOV, hi]
theorem ev_aald {i : Int32} {p : Nat} : zEv T M (zo pc len .aaload :: c) ls (.int i :: .ref p :: st) E o = zOV (zqr E p) (fun r => zi i r.1 = true ∧ zEv T M c ls (zrf (r.2 i.toNatClampNeg) :: st) E o) := by
  cases h : zqr E p with
  | none => exact zEv_no (by simp [zo, zst, h])
  | some r =>
    obtain ⟨n, f⟩ := r
    by_cases hi : zi i n = true
    · rw [zEv_nx (by simp [zo, zst, h, hi, znx]; exact ⟨rfl, rfl, rfl, rfl⟩)]; simp [zOV, hi]
    · rw [zEv_no (by simp [zo, zst, h, hi])]; simp [zOV, hi]
theorem ev_iast {v i : Int32} {p : Nat} : zEv T M (zo pc len .iastore :: c) ls (.int v :: .int i :: .ref p :: st) E o = zOV (zar E p 0) (fun n => zi i n = true ∧ zEv T M c ls st (zwr E p (upd (zG E p) i.toNatClampNeg v)) o) := by
  cases h : zar E p 0 with
  | none => exact zEv_no (by simp [zo, zst, h])
  | some n =>
    by_cases hi : zi i n = true
    · rw [zEv_nx (by simp [zo, zst, h, hi, znx]; exact ⟨rfl, rfl, rfl, rfl⟩)]; simp [zOV, hi]
    · rw [zEv_no (by simp [zo, zst, h, hi])]; simp [zOV, hi]
theorem ev_cast {v i : Int32} {p : Nat} : zEv T M (zo pc len .castore :: c) ls (.int v :: .int i :: .ref p :: st) E o = zOV (zar E p 1) (fun n => zi i n = true ∧ zEv T M c ls st (zwr E p (upd (zG E p) i.toNatClampNeg (vp_nar .char v))) o) := by
  cases h : zar E p 1 with
  | none => exact zEv_no (by simp [zo, zst, h])
  | some n =>
    by_cases hi : zi i n = true
    · rw [zEv_nx (by simp [zo, zst, h, hi, znx]; exact ⟨rfl, rfl, rfl, rfl⟩)]; simp [zOV, hi]
    · rw [zEv_no (by simp [zo, zst, h, hi])]; simp [zOV, hi]
theorem ev_alen {p : Nat} : zEv T M (zo pc len .arraylength :: c) ls (.ref p :: st) E o = zOV (zln E p) (fun n => zEv T M c ls (.int (nI n) :: st) E o) := by
  cases h : zln E p with
  | some v => exact zEv_nx (by simp [zo, zst, h, znx])
  | none => exact zEv_no (by simp [zo, zst, h])
theorem ev_tsw {a1 a2 a3 : Int} {a4 : Array Int} {x : Nat} {l : List (Int32 × Nat)} {v : Int32} : zEv T M (zs pc len (.tableswitch a1 a2 a3 a4) x l :: c) ls (.int v :: st) E o = zEv T M (zjp M (zsw l x v)) ls st E o := zEv_nx (by simp [zs, zst, znx])
theorem ev_lsw {a1 : Int} {a4 : Array (Int × Int)} {x : Nat} {l : List (Int32 × Nat)} {v : Int32} : zEv T M (zs pc len (.lookupswitch a1 a4) x l :: c) ls (.int v :: st) E o = zEv T M (zjp M (zsw l x v)) ls st E o := zEv_nx (by simp [zs, zst, znx])
theorem ev_max {a b : Int32} : zEv T M (zo pc len .f2i :: c) ls (.int b :: .int a :: st) E o = (st.length ≤ 8 ∧ zEv T M c ls (.int (if a < b then b else a) :: st) E o) := by
  by_cases h : st.length ≤ 8
  · rw [zEv_nx (by simp [zo, zst, h, znx]; exact ⟨rfl, rfl, rfl, rfl⟩)]; simp [h]
  · rw [zEv_no (by simp [zo, zst, h])]; simp [h]
theorem ev_min {a b : Int32} : zEv T M (zo pc len .d2i :: c) ls (.int b :: .int a :: st) E o = (st.length ≤ 8 ∧ zEv T M c ls (.int (if b < a then b else a) :: st) E o) := by
  by_cases h : st.length ≤ 8
  · rw [zEv_nx (by simp [zo, zst, h, znx]; exact ⟨rfl, rfl, rfl, rfl⟩)]; simp [h]
  · rw [zEv_no (by simp [zo, zst, h])]; simp [h]
theorem ev_obj {a : Nat} : zEv T M (zo pc len .monitorexit :: c) ls (.ref a :: st) E o = (st.length ≤ 8 ∧ zEv T M c ls st E o) := by
  by_cases h : st.length ≤ 8
  · rw [zEv_nx (by simp [zo, zst, h, znx]; exact ⟨rfl, rfl, rfl, rfl⟩)]; simp [h]
  · rw [zEv_no (by simp [zo, zst, h])]; simp [h]
theorem ev_cp {n dp sp : Int32} {p q : Nat} {z : Nat} : zEv T M (zo pc len (.invokedynamic z) :: c) ls (.int n :: .int dp :: .ref q :: .int sp :: .ref p :: st) E o = (st.length ≤ 8 ∧ zOV (zcp E p sp q dp n) (fun E' => zEv T M c ls st E' o)) := by
  cases h : zcp E p sp q dp n with
  | none => rw [zEv_no (by simp [zo, zst, h])]; simp [zOV]
  | some E' =>
    by_cases h8 : st.length ≤ 8
    · rw [zEv_nx (by simp [zo, zst, h, h8, znx]; exact ⟨rfl, rfl, rfl, rfl⟩)]; simp [h8, zOV]
    · rw [zEv_no (by simp [zo, zst, h, h8])]; simp [h8]
theorem ev_throw {k : Nat} : zEv T M (zx pc len .athrow k :: c) ls [] E o = (o = (.inr k, E)) := zEv_rt (by simp [zx, zst])
theorem ev_iret {x : Nat} {v : Int32} : zEv T M (zx pc len .ireturn x :: c) ls [.int v] E o = ((x = 0 ∨ v = 0 ∨ v = 1) ∧ o = (.inl (some (.int v)), E)) := by
  by_cases h : x = 0 ∨ v = 0 ∨ v = 1
  · rw [zEv_rt (by simp [zx, zst, h]; rfl)]; simp [h]
  · rw [zEv_no (by simp only [zx, zst]; exact if_neg h)]; simp [h]
theorem ev_aret {v : Nat} : zEv T M (zo pc len .areturn :: c) ls [.ref v] E o = (o = (.inl (some (.ref v)), E)) := zEv_rt (by simp [zo, zst])
theorem ev_aretN : zEv T M (zo pc len .areturn :: c) ls [.null] E o = (o = (.inl (some .null), E)) := zEv_rt (by simp [zo, zst])
theorem ev_ret : zEv T M (zo pc len .return_ :: c) ls [] E o = (o = (.inl none, E)) := zEv_rt (by simp [zo, zst])
theorem ev_new {n x : Nat} {l : List (Int32 × Nat)} : zEv T M (zs pc len (.new n) x l :: c) ls st E o = zEv T M c ls (.ref (zN E) :: st) (znw E (.inr (.inr (x, l.map (fun e => if e.2 = 0 then none else some none)))) l.length) o := zEv_nx (by simp [zs, zst, znx])
theorem ev_newa {at0 : ArrayType} {x : Nat} {n : Int32} : zEv T M (zx pc len (.newarray at0) x :: c) ls (.int n :: st) E o = ((¬ n < 0 ∧ n.toNatClampNeg ≤ 4096) ∧ zEv T M c ls (.ref (zN E) :: st) (znw E (.inl (x, n.toNatClampNeg)) n.toNatClampNeg) o) := by
  by_cases h : ¬ n < 0 ∧ n.toNatClampNeg ≤ 4096
  · rw [zEv_nx (by simp only [zx, zst, if_pos h]; rfl)]; simp [h]
  · rw [zEv_no (by simp only [zx, zst, if_neg h])]; simp only [h, false_and]
theorem ev_anew {z : Nat} {n : Int32} : zEv T M (zo pc len (.anewarray z) :: c) ls (.int n :: st) E o = ((¬ n < 0 ∧ n.toNatClampNeg ≤ 4096) ∧ zEv T M c ls (.ref (zN E) :: st) (znw E (.inr (.inl (n.toNatClampNeg, fun _ => none))) n.toNatClampNeg) o) := by
  by_cases h : ¬ n < 0 ∧ n.toNatClampNeg ≤ 4096
  · rw [zEv_nx (by simp only [zo, zst, if_pos h]; rfl)]; simp [h]
  · rw [zEv_no (by simp only [zo, zst, if_neg h])]; simp only [h, false_and]
/-- a call, of n arguments -/
theorem ev_call {j n : Nat} {c' : zCd} {as st' : List Value} (h : zst M c ls st E = zcl j n c' ls st) (ha : st = as.reverse ++ st') (hn : as.length = n) : zEv T M c ls st E o = (st'.length ≤ 8 ∧ zOV (zcal T j as E) (fun r => zEv T M c' ls (r.1.toList ++ st') r.2 o)) := by
  subst hn
  subst ha
  have e1 : ((as.reverse ++ st').take as.length).reverse = as := by rw [← List.length_reverse (as := as), List.take_left, List.reverse_reverse]
  have e2 : (as.reverse ++ st').drop as.length = st' := by rw [← List.length_reverse (as := as), List.drop_left]
  have e3 : (as.reverse ++ st').length = as.length + st'.length := by rw [List.length_append, List.length_reverse]
  rw [zcl, e1, e2, e3] at h
  by_cases h8 : st'.length ≤ 8
  · rw [if_pos ⟨by omega, by omega⟩] at h
    rw [zEv_cl h]
    cases zcal T j as E with
    | none => simp [zOV]
    | some r => simp [zOV, h8]
  · rw [if_neg (by omega)] at h
    rw [zEv_no h]
    simp [h8]
theorem ev_is0 {q j : Nat} : zEv T M (zz pc len (.invokestatic q) j 0 :: c) ls (st) E o = (st.length ≤ 8 ∧ zOV (zcal T j [] E) (fun r => zEv T M c ls (r.1.toList ++ st) r.2 o)) := ev_call (n := 0) (by simp only [zz, zst]) rfl rfl
theorem ev_is1 {q j : Nat} {v1 : Value} : zEv T M (zz pc len (.invokestatic q) j 1 :: c) ls (v1 :: st) E o = (st.length ≤ 8 ∧ zOV (zcal T j [v1] E) (fun r => zEv T M c ls (r.1.toList ++ st) r.2 o)) := ev_call (n := 1) (by simp only [zz, zst]) rfl rfl
theorem ev_is2 {q j : Nat} {v1 v2 : Value} : zEv T M (zz pc len (.invokestatic q) j 2 :: c) ls (v2 :: v1 :: st) E o = (st.length ≤ 8 ∧ zOV (zcal T j [v1, v2] E) (fun r => zEv T M c ls (r.1.toList ++ st) r.2 o)) := ev_call (n := 2) (by simp only [zz, zst]) rfl rfl
theorem ev_is3 {q j : Nat} {v1 v2 v3 : Value} : zEv T M (zz pc len (.invokestatic q) j 3 :: c) ls (v3 :: v2 :: v1 :: st) E o = (st.length ≤ 8 ∧ zOV (zcal T j [v1, v2, v3] E) (fun r => zEv T M c ls (r.1.toList ++ st) r.2 o)) := ev_call (n := 3) (by simp only [zz, zst]) rfl rfl
theorem ev_is4 {q j : Nat} {v1 v2 v3 v4 : Value} : zEv T M (zz pc len (.invokestatic q) j 4 :: c) ls (v4 :: v3 :: v2 :: v1 :: st) E o = (st.length ≤ 8 ∧ zOV (zcal T j [v1, v2, v3, v4] E) (fun r => zEv T M c ls (r.1.toList ++ st) r.2 o)) := ev_call (n := 4) (by simp only [zz, zst]) rfl rfl
theorem ev_iv1 {ci j p : Nat} : zEv T M (zz pc len (.invokevirtual ci) j 1 :: c) ls (.ref p :: st) E o = (zob E p ci = true ∧ st.length ≤ 8 ∧ zOV (zcal T j [.ref p] E) (fun r => zEv T M c ls (r.1.toList ++ st) r.2 o)) := by
  by_cases h : zob E p ci = true
  · exact (ev_call (n := 1) (as := [.ref p]) (st' := st) (j := j) (c' := c) (by simp [zz, zst, h]) rfl rfl).trans (by simp [h])
  · rw [zEv_no (by simp [zz, zst, h])]; simp [h]
theorem ev_iv2 {ci j p : Nat} {v1 : Value} : zEv T M (zz pc len (.invokevirtual ci) j 2 :: c) ls (v1 :: .ref p :: st) E o = (zob E p ci = true ∧ st.length ≤ 8 ∧ zOV (zcal T j [.ref p, v1] E) (fun r => zEv T M c ls (r.1.toList ++ st) r.2 o)) := by
  by_cases h : zob E p ci = true
  · exact (ev_call (n := 2) (as := [.ref p, v1]) (st' := st) (j := j) (c' := c) (by simp [zz, zst, h]) rfl rfl).trans (by simp [h])
  · rw [zEv_no (by simp [zz, zst, h])]; simp [h]
theorem ev_iv3 {ci j p : Nat} {v1 v2 : Value} : zEv T M (zz pc len (.invokevirtual ci) j 3 :: c) ls (v2 :: v1 :: .ref p :: st) E o = (zob E p ci = true ∧ st.length ≤ 8 ∧ zOV (zcal T j [.ref p, v1, v2] E) (fun r => zEv T M c ls (r.1.toList ++ st) r.2 o)) := by
  by_cases h : zob E p ci = true
  · exact (ev_call (n := 3) (as := [.ref p, v1, v2]) (st' := st) (j := j) (c' := c) (by simp [zz, zst, h]) rfl rfl).trans (by simp [h])
  · rw [zEv_no (by simp [zz, zst, h])]; simp [h]
theorem ev_iv4 {ci j p : Nat} {v1 v2 v3 : Value} : zEv T M (zz pc len (.invokevirtual ci) j 4 :: c) ls (v3 :: v2 :: v1 :: .ref p :: st) E o = (zob E p ci = true ∧ st.length ≤ 8 ∧ zOV (zcal T j [.ref p, v1, v2, v3] E) (fun r => zEv T M c ls (r.1.toList ++ st) r.2 o)) := by
  by_cases h : zob E p ci = true
  · exact (ev_call (n := 4) (as := [.ref p, v1, v2, v3]) (st' := st) (j := j) (c' := c) (by simp [zz, zst, h]) rfl rfl).trans (by simp [h])
  · rw [zEv_no (by simp [zz, zst, h])]; simp [h]
theorem ev_iv5 {ci j p : Nat} {v1 v2 v3 v4 : Value} : zEv T M (zz pc len (.invokevirtual ci) j 5 :: c) ls (v4 :: v3 :: v2 :: v1 :: .ref p :: st) E o = (zob E p ci = true ∧ st.length ≤ 8 ∧ zOV (zcal T j [.ref p, v1, v2, v3, v4] E) (fun r => zEv T M c ls (r.1.toList ++ st) r.2 o)) := by
  by_cases h : zob E p ci = true
  · exact (ev_call (n := 5) (as := [.ref p, v1, v2, v3, v4]) (st' := st) (j := j) (c' := c) (by simp [zz, zst, h]) rfl rfl).trans (by simp [h])
  · rw [zEv_no (by simp [zz, zst, h])]; simp [h]
theorem ev_ip1 {ci j p : Nat} : zEv T M (zz pc len (.invokespecial ci) j 1 :: c) ls (.ref p :: st) E o = (st.length ≤ 8 ∧ zOV (zcal T j [.ref p] E) (fun r => zEv T M c ls (r.1.toList ++ st) r.2 o)) := ev_call (n := 1) (as := [.ref p]) (st' := st) (by simp [zz, zst]) rfl rfl
theorem ev_ip2 {ci j p : Nat} {v1 : Value} : zEv T M (zz pc len (.invokespecial ci) j 2 :: c) ls (v1 :: .ref p :: st) E o = (st.length ≤ 8 ∧ zOV (zcal T j [.ref p, v1] E) (fun r => zEv T M c ls (r.1.toList ++ st) r.2 o)) := ev_call (n := 2) (as := [.ref p, v1]) (st' := st) (by simp [zz, zst]) rfl rfl
theorem zlg_0 {a0 : Value} {l : List Value} : zlg (a0 :: l) 0 = a0 := rfl
theorem zls_0 {a0 v : Value} {l : List Value} : zls (a0 :: l) 0 v = v :: l := rfl
theorem zlg_1 {a0 a1 : Value} {l : List Value} : zlg (a0 :: a1 :: l) 1 = a1 := rfl
theorem zls_1 {a0 a1 v : Value} {l : List Value} : zls (a0 :: a1 :: l) 1 v = a0 :: v :: l := rfl
theorem zlg_2 {a0 a1 a2 : Value} {l : List Value} : zlg (a0 :: a1 :: a2 :: l) 2 = a2 := rfl
theorem zls_2 {a0 a1 a2 v : Value} {l : List Value} : zls (a0 :: a1 :: a2 :: l) 2 v = a0 :: a1 :: v :: l := rfl
theorem zlg_3 {a0 a1 a2 a3 : Value} {l : List Value} : zlg (a0 :: a1 :: a2 :: a3 :: l) 3 = a3 := rfl
theorem zls_3 {a0 a1 a2 a3 v : Value} {l : List Value} : zls (a0 :: a1 :: a2 :: a3 :: l) 3 v = a0 :: a1 :: a2 :: v :: l := rfl
theorem zlg_4 {a0 a1 a2 a3 a4 : Value} {l : List Value} : zlg (a0 :: a1 :: a2 :: a3 :: a4 :: l) 4 = a4 := rfl
theorem zls_4 {a0 a1 a2 a3 a4 v : Value} {l : List Value} : zls (a0 :: a1 :: a2 :: a3 :: a4 :: l) 4 v = a0 :: a1 :: a2 :: a3 :: v :: l := rfl
theorem zlg_5 {a0 a1 a2 a3 a4 a5 : Value} {l : List Value} : zlg (a0 :: a1 :: a2 :: a3 :: a4 :: a5 :: l) 5 = a5 := rfl
theorem zls_5 {a0 a1 a2 a3 a4 a5 v : Value} {l : List Value} : zls (a0 :: a1 :: a2 :: a3 :: a4 :: a5 :: l) 5 v = a0 :: a1 :: a2 :: a3 :: a4 :: v :: l := rfl
theorem zlg_6 {a0 a1 a2 a3 a4 a5 a6 : Value} {l : List Value} : zlg (a0 :: a1 :: a2 :: a3 :: a4 :: a5 :: a6 :: l) 6 = a6 := rfl
theorem zls_6 {a0 a1 a2 a3 a4 a5 a6 v : Value} {l : List Value} : zls (a0 :: a1 :: a2 :: a3 :: a4 :: a5 :: a6 :: l) 6 v = a0 :: a1 :: a2 :: a3 :: a4 :: a5 :: v :: l := rfl
theorem zlg_7 {a0 a1 a2 a3 a4 a5 a6 a7 : Value} {l : List Value} : zlg (a0 :: a1 :: a2 :: a3 :: a4 :: a5 :: a6 :: a7 :: l) 7 = a7 := rfl
theorem zls_7 {a0 a1 a2 a3 a4 a5 a6 a7 v : Value} {l : List Value} : zls (a0 :: a1 :: a2 :: a3 :: a4 :: a5 :: a6 :: a7 :: l) 7 v = a0 :: a1 :: a2 :: a3 :: a4 :: a5 :: a6 :: v :: l := rfl
theorem zlg_8 {a0 a1 a2 a3 a4 a5 a6 a7 a8 : Value} {l : List Value} : zlg (a0 :: a1 :: a2 :: a3 :: a4 :: a5 :: a6 :: a7 :: a8 :: l) 8 = a8 := rfl
theorem zls_8 {a0 a1 a2 a3 a4 a5 a6 a7 a8 v : Value} {l : List Value} : zls (a0 :: a1 :: a2 :: a3 :: a4 :: a5 :: a6 :: a7 :: a8 :: l) 8 v = a0 :: a1 :: a2 :: a3 :: a4 :: a5 :: a6 :: a7 :: v :: l := rfl
theorem zlg_9 {a0 a1 a2 a3 a4 a5 a6 a7 a8 a9 : Value} {l : List Value} : zlg (a0 :: a1 :: a2 :: a3 :: a4 :: a5 :: a6 :: a7 :: a8 :: a9 :: l) 9 = a9 := rfl
theorem zls_9 {a0 a1 a2 a3 a4 a5 a6 a7 a8 a9 v : Value} {l : List Value} : zls (a0 :: a1 :: a2 :: a3 :: a4 :: a5 :: a6 :: a7 :: a8 :: a9 :: l) 9 v = a0 :: a1 :: a2 :: a3 :: a4 :: a5 :: a6 :: a7 :: a8 :: v :: l := rfl
theorem zlg_10 {a0 a1 a2 a3 a4 a5 a6 a7 a8 a9 a10 : Value} {l : List Value} : zlg (a0 :: a1 :: a2 :: a3 :: a4 :: a5 :: a6 :: a7 :: a8 :: a9 :: a10 :: l) 10 = a10 := rfl
theorem zls_10 {a0 a1 a2 a3 a4 a5 a6 a7 a8 a9 a10 v : Value} {l : List Value} : zls (a0 :: a1 :: a2 :: a3 :: a4 :: a5 :: a6 :: a7 :: a8 :: a9 :: a10 :: l) 10 v = a0 :: a1 :: a2 :: a3 :: a4 :: a5 :: a6 :: a7 :: a8 :: a9 :: v :: l := rfl
theorem zlg_11 {a0 a1 a2 a3 a4 a5 a6 a7 a8 a9 a10 a11 : Value} {l : List Value} : zlg (a0 :: a1 :: a2 :: a3 :: a4 :: a5 :: a6 :: a7 :: a8 :: a9 :: a10 :: a11 :: l) 11 = a11 := rfl
theorem zls_11 {a0 a1 a2 a3 a4 a5 a6 a7 a8 a9 a10 a11 v : Value} {l : List Value} : zls (a0 :: a1 :: a2 :: a3 :: a4 :: a5 :: a6 :: a7 :: a8 :: a9 :: a10 :: a11 :: l) 11 v = a0 :: a1 :: a2 :: a3 :: a4 :: a5 :: a6 :: a7 :: a8 :: a9 :: a10 :: v :: l := rfl
theorem ev_jif {p : Prop} [Decidable p] {a b : Nat} : zEv T M (zjp M (if p then a else b)) ls st E o = if p then zEv T M (zjp M a) ls st E o else zEv T M (zjp M b) ls st E o := by
  by_cases h : p
  · rw [if_pos h, if_pos h]
  · rw [if_neg h, if_neg h]
end ZEVS
/-- the system's table of methods -/
abbrev zTT : Nat → zCd × Nat := zT zMt
theorem zgo {j : Nat} {m : zMe} {as : List Value} {E E' : zHp} {v : Option Value} (hM : zMt j = m) (h : zEv zTT (zco m) (zco m) (zen as (zmL m)) [] E (.inl v, E')) : zcal zTT j as E = some (v, E') := zcal_of (by unfold zCal; rw [show zTT j = (zco m, zmL m) by rw [← hM]; rfl]; exact h)
