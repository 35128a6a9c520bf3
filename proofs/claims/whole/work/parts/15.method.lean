/-! ===== a method's walk is its contract ===== -/
section ZMETHOD
def zch : zCd → Bool
  | [] => true
  | [a] => !zfl a.2.2.1
  | a :: b :: l => (!zfl a.2.2.1 || Nat.beq b.1 (a.1 + a.2.1)) && zch (b :: l)
theorem zch_at {a : zEl} {l : zCd} (h : zch (a :: l) = true) (hf : zfl a.2.2.1 = true) : zpc l = a.1 + a.2.1 := by
  cases l with
  | nil => rw [zch, hf] at h; cases h
  | cons b l =>
    rw [zch, hf] at h
    simp only [Bool.not_true, Bool.false_or, Bool.and_eq_true] at h
    exact Nat.eq_of_beq_eq_true h.1
theorem zch_sfx : ∀ {M c : zCd}, zch M = true → c <:+ M → zch c = true
  | [], c, _, h => by
    have : c = [] := List.suffix_nil.mp h
    subst this; rfl
  | [a], c, h0, h => by
    rcases List.suffix_cons_iff.mp h with rfl | h
    · exact h0
    · have : c = [] := List.suffix_nil.mp h
      subst this; rfl
  | a :: b :: l, c, h0, h => by
    rcases List.suffix_cons_iff.mp h with rfl | h
    · exact h0
    · have h1 : zch (b :: l) = true := by
        rw [zch, Bool.and_eq_true] at h0
        exact h0.2
      exact zch_sfx h1 h
/-- what is known of a method -/
def zOK (Gw nst : List Jvm.Cond) (cl : List vw_C) (Mt : Nat → zMe) (m : zMe) : Prop := plainName (zy m).cls = true ∧ (∀ el ∈ zco m, zFa Gw nst cl Mt m el) ∧ zch (zco m) = true ∧ zpc (zco m) = 0
def zT (Mt : Nat → zMe) : Nat → zCd × Nat := fun j => (zco (Mt j), zmL (Mt j))
theorem zst_sfx {M c' c2 : zCd} {el : zEl} {ls st ls2 st2 : List Value} {E E2 : zHp} (h : zst M (el :: c') ls st E = some (.inl (c2, ls2, st2, E2))) : c2 = c' ∨ ∃ t, c2 = zjp M t := by
  obtain ⟨pc, len, i, x, z, y, t⟩ := el
  cases i
  all_goals (simp only [zst, znx, zcl] at h <;> repeat' (first | (cases h; done) | (simp only [Option.some.injEq, Sum.inl.injEq, Prod.mk.injEq] at h; obtain ⟨rfl, -, -, -⟩ := h; exact Or.inl rfl) | (simp only [Option.some.injEq, Sum.inl.injEq, Prod.mk.injEq] at h; obtain ⟨rfl, -, -, -⟩ := h; exact Or.inr ⟨_, rfl⟩) | split at h))
theorem zst_call {Gw nst : List Jvm.Cond} {cl : List vw_C} {Mt : Nat → zMe} {me : zMe} {M c' c2 : zCd} {el : zEl} {ls st ls2 st2 as : List Value} {E : zHp} {j : Nat} (hf : zFa Gw nst cl Mt me el) (h : zst M (el :: c') ls st E = some (.inr (.inl (j, as, c2, ls2, st2)))) : c2 = c' ∧ as.length ≤ zmL (Mt j) := by
  obtain ⟨pc, len, i, x, z, y, t⟩ := el
  unfold zFa at hf
  cases i
  case invokevirtual n =>
    simp only [zst, zcl] at h
    obtain ⟨idx, hd, rfl, -, hz, -⟩ := hf
    split at h
    · split at h
      · split at h
        · simp only [Option.some.injEq, Sum.inr.injEq, Sum.inl.injEq, Prod.mk.injEq] at h
          obtain ⟨rfl, rfl, rfl, rfl, rfl⟩ := h
          refine ⟨rfl, ?_⟩
          rw [List.length_reverse, List.length_take]
          omega
        · cases h
      · cases h
    · cases h
  case invokestatic n =>
    simp only [zst, zcl] at h
    obtain ⟨idx, hd, rfl, hz, -⟩ := hf
    split at h
    · simp only [Option.some.injEq, Sum.inr.injEq, Sum.inl.injEq, Prod.mk.injEq] at h
      obtain ⟨rfl, rfl, rfl, rfl, rfl⟩ := h
      refine ⟨rfl, ?_⟩
      rw [List.length_reverse, List.length_take]
      omega
    · cases h
  case invokespecial n =>
    simp only [zst, zcl] at h
    obtain ⟨idx, hd, rfl, -, hz, -⟩ := hf
    split at h
    · split at h
      · simp only [Option.some.injEq, Sum.inr.injEq, Sum.inl.injEq, Prod.mk.injEq] at h
        obtain ⟨rfl, rfl, rfl, rfl, rfl⟩ := h
        refine ⟨rfl, ?_⟩
        rw [List.length_reverse, List.length_take]
        omega
      · cases h
    · cases h
  all_goals (clear hf; simp only [zst, znx] at h <;> repeat' (first | (cases h; done) | split at h))
theorem zjp_sfx (M : zCd) (t : Nat) : zjp M t <:+ M := List.dropWhile_suffix _
variable {p : Program} {l : Launch} {e : Env} {R : Room} {s : State} {mi : MethodId} {args : Array Value} {below : List Frame} {meth : Method} {c : Code} {H : Heap} {locs : List Loc} {Q : State → Prop}
variable {Gw nst : List Jvm.Cond} {D : va_G} {cl : List vw_C} {K : Nat → ClassId} {lo n0 m0 : Nat} {me : zMe} {Mt : Nat → zMe} {fl : Bool} {nb : Option Nat}
/-- the walk of a body, from anywhere to its end -/
theorem zinner (hfn : fl = true → nb = none) (hg : ∀ w ∈ Gw, goodWord w = true) (C : zCx Gw nst D cl K lo me p R s mi args meth c) (hok : zOK Gw nst cl Mt me) (hex : fl = true → s.heap.size = lo + n0) {E1 : zHp} {r : zRt} (hrc : zN E1 - n0 ≤ R.cells) (hrs : zM E1 - m0 ≤ R.slots) (hal : fl = true ∨ zN E1 = n0) (hnb : ∀ n, nb = some n → zN E1 ≤ n)
    (hend : ∀ (el : zEl) (c' : zCd) (ls st : List Value) (H : Heap) (locs : List Loc) (lsC : Array Slot), (el :: c') <:+ zco me → zst (zco me) (el :: c') ls st E1 = some (.inr (.inr r)) → zLv lo (zmL me) ls lsC → zWd D cl lo K E1 H → va_S (zA lo nb) s.heap H locs → W p l e R s mi args below meth c H locs (zN E1 - n0) (zM E1 - m0) Q (F0 mi el.1 lsC (st.map (zc lo)))) :
    ∀ (n : Nat), (∀ (j : Nat) (as : List Value) (E E' : zHp) (v : Option Value) (k : Nat), k < n → as.length ≤ zmL (Mt j) → zrun (zT Mt) k (zco (Mt j)) (zco (Mt j)) (zen as (zmL (Mt j))) [] E = some (.inl v, E') → (fl = true ∨ zN E' = zN E) → (∀ n, nb = some n → zN E' ≤ n) → zMet Gw nst l D cl K lo nb fl (Mt j) as E v E') →
    ∀ (cc : zCd) (ls st : List Value) (E : zHp) (H : Heap) (locs : List Loc) (lsC : Array Slot), cc <:+ zco me → zrun (zT Mt) n (zco me) cc ls st E = some (r, E1) → n0 ≤ zN E → m0 ≤ zM E → zLv lo (zmL me) ls lsC → zWd D cl lo K E H → va_S (zA lo nb) s.heap H locs →
      W p l e R s mi args below meth c H locs (zN E - n0) (zM E - m0) Q (F0 mi (zpc cc) lsC (st.map (zc lo))) := by
  intro n
  induction n with
  | zero => intro _ cc ls st E H locs lsC _ h; cases h
  | succ n ih =>
    intro hc cc ls st E H locs lsC hsf hrun hn hm hL hW hS
    rw [zrun] at hrun
    cases cc with
    | nil => rw [show zst (zco me) [] ls st E = none from rfl] at hrun; cases hrun
    | cons el c' =>
      have hmem : el ∈ zco me := hsf.mem List.mem_cons_self
      have hf := hok.2.1 el hmem
      have hch := zch_at (zch_sfx hok.2.2.1 hsf)
      have hsf' : c' <:+ zco me := (List.suffix_cons el c').trans hsf
      split at hrun
      · rename_i c2 ls2 st2 E2 hst
        have hm1 := zst_mono hst
        have hm2 := zrun_mono n hrun
        have hsf2 : c2 <:+ zco me := by
          rcases zst_sfx hst with rfl | ⟨t, rfl⟩
          · exact hsf'
          · exact zjp_sfx _ _
        refine zstep hfn C rfl hf hch hst hL hW hS (fun n hn => Nat.le_trans (Nat.le_trans hm1.1 hm2.1) (hnb n hn)) hex (hal.imp id (fun h => by omega)) hn hm (by omega) (by omega) (fun H2 locs2 ls2C h1 h2 h3 => ?_)
        exact ih (fun j as E E' v k hk => hc j as E E' v k (by omega)) c2 ls2 st2 E2 H2 locs2 ls2C hsf2 hrun (by omega) (by omega) h1 h2 h3
      · rename_i j as c2 ls2 st2 hst
        split at hrun
        · rename_i v E2 hcl
          have hm1 := zrun_mono n hcl
          have hm2 := zrun_mono n hrun
          obtain ⟨rfl, hlen⟩ := zst_call hf hst
          refine zstepC hg C hf hch hst (hc j as E E2 v n (by omega) hlen hcl (hal.imp id (fun h => by omega)) (fun n hn => Nat.le_trans hm2.1 (hnb n hn))) hL hW hS hex hn hm hm1.1 hm1.2 (by omega) (by omega) (fun H2 locs2 h1 h2 h3 => ?_)
          exact ih (fun j as E E' v k hk => hc j as E E' v k (by omega)) c2 ls2 _ E2 H2 locs2 lsC hsf' hrun (by omega) (by omega) h1 h2 h3
        · cases hrun
      · rename_i o hst
        cases hrun
        exact hend el c' ls st H locs lsC hsf hst hL hW hS
      · cases hrun
/-- a body's return -/
theorem zreturn (C : zCx Gw nst D cl K lo me p R s mi args meth c) (hr : meth.sig.returnType = zrT me) (hlocks : meth.locks = false) {M c' : zCd} {el : zEl} {ls st : List Value} {E1 : zHp} {v : Option Value} {lsC : Array Slot} {cells slots : Nat} (hf : zFa Gw nst cl Mt me el) (h : zst M (el :: c') ls st E1 = some (.inr (.inr (.inl v)))) (hW : zWd D cl lo K E1 H) (hS : va_S (zA lo nb) s.heap H locs) :
    W p l e R s mi args below meth c H locs cells slots (MQ below (zQc D cl K lo nb E1 v) args s cells slots (zA lo nb)) (F0 mi el.1 lsC (st.map (zc lo))) := by
  obtain ⟨pc, len, i, x, z, y, t⟩ := el
  obtain ⟨hx, hb, -⟩ := C
  unfold zFa at hf
  cases i
  case ireturn =>
    simp only [zst] at h
    obtain ⟨hd, hk⟩ := hf
    split at h
    · rename_i v0
      split at h
      · rename_i hv
        cases h
        have hW1 : ∀ t : State, t.heap = H → s.WarmedH t.vm → zQc D cl K lo nb E1 (some (.int v0)) args s (.returned (some (.int v0))) t := fun t ht _ => ⟨rfl, by rw [ht]; exact hW, hS.F ht⟩
        rcases hk with ⟨hk, hrt⟩ | ⟨hk, hrt⟩
        · exact W.iret hx hb (by rw [hr, hrt]) hW1 hS.2.2 hd hlocks
        · refine W.zret hx hb (by rw [hr, hrt]) ?_ hW1 hS.2.2 hd hlocks
          subst hk
          rcases hv with hv | rfl | rfl
          · cases hv
          · rfl
          · rfl
      · cases h
    · cases h
  case areturn =>
    simp only [zst] at h
    obtain ⟨hd, hk⟩ := hf
    obtain ⟨rt, hrt, hrt2⟩ : ∃ rt, zrT me = some rt ∧ ((∃ n, rt = .object n) ∨ ∃ t, rt = .array t) := by
      rcases hk with ⟨n, h⟩ | ⟨n, h⟩
      · exact ⟨_, h, Or.inl ⟨n, rfl⟩⟩
      · exact ⟨_, h, Or.inr ⟨n, rfl⟩⟩
    split at h
    · rename_i v0
      cases h
      exact W.aret (v := .ref (lo + v0)) hx hb (by rw [hr, hrt]) hrt2 (Or.inr ⟨_, rfl⟩) (fun t ht _ => ⟨rfl, by rw [ht]; exact hW, hS.F ht⟩) hS.2.2 hd hlocks
    · cases h
      exact W.aret (v := .null) hx hb (by rw [hr, hrt]) hrt2 (Or.inl rfl) (fun t ht _ => ⟨rfl, by rw [ht]; exact hW, hS.F ht⟩) hS.2.2 hd hlocks
    · cases h
  case return_ =>
    simp only [zst] at h
    obtain ⟨hd, hrt⟩ := hf
    split at h
    · cases h
      exact W.vret hx hb (by rw [hr, hrt]) (fun t ht _ => ⟨rfl, by rw [ht]; exact hW, hS.F ht⟩) hS.2.2 hd hlocks
    · cases h
  all_goals (clear hf; simp only [zst, znx, zcl] at h <;> repeat' (first | (cases h; done) | split at h))
/-- THE CONTRACT OF EVERY METHOD: what its walk says -/
theorem zmet (hfn : fl = true → nb = none) (hg : ∀ w ∈ Gw, goodWord w = true) (hok : ∀ j, zOK Gw nst cl Mt (Mt j) ∨ zco (Mt j) = []) (hin : ∀ w ∈ nst, ∃ (a : String) (i : Nat) (x : MethodName) (h : String), w = .methodLinkNest a i x h) :
    ∀ (n : Nat) (j : Nat) (as : List Value) (E E' : zHp) (v : Option Value), as.length ≤ zmL (Mt j) → zrun (zT Mt) n (zco (Mt j)) (zco (Mt j)) (zen as (zmL (Mt j))) [] E = some (.inl v, E') → (fl = true ∨ zN E' = zN E) → (∀ n, nb = some n → zN E' ≤ n) → zMet Gw nst l D cl K lo nb fl (Mt j) as E v E' := by
  intro n
  induction n using Nat.strongRecOn with
  | _ n ih =>
    intro j as E E' v hlen hrun hal hnb
    rcases hok j with hokj | h0
    · refine Met.ofW (cc := zb (Mt j)) (maxL := zmL (Mt j)) (ret := zrT (Mt j)) hokj.1 rfl ?_
      intro p e s m args below meth c s₁ B hml hv
      obtain ⟨rfl, hWd, hKK, hex⟩ := hv
      have hts0 := atoms_spec (ws := zwl Gw (Mt j)) B.pre
      have hcode : ∃ (meth' : Method), s.vm.method? m = some meth' ∧ meth' = meth := ⟨meth, B.method, rfl⟩
      have hl := lv_entry (as.map (zc lo)) (n := zmL (Mt j)) (by rw [zlg_len]; exact hlen)
      rw [lg_entry_eq]
      generalize (lg_sl (as.map (zc lo)) ++ List.replicate (zmL (Mt j) - (lg_sl (as.map (zc lo))).length) Slot.unset).toArray = lsC at hl ⊢
      have hL : zLv lo (zmL (Mt j)) (zen as (zmL (Mt j))) lsC := zLv.entry hlen hl
      have C : zCx Gw nst D cl K lo (Mt j) p (zrm (Mt j) (zN E' - zN E) (zM E' - zM E)) s m (as.map (zc lo)).toArray meth c := ⟨B.exec, B.bytes, hml, findClass_of_methodNamed B.named, fun w hw => hts0 w (List.mem_cons_of_mem _ hw), hKK, fun h => (name_of_methodNamed B.named B.method).1.trans h, Nat.le_refl _, Nat.le_refl _, Nat.le_trans (Nat.le_add_right _ _) hWd.2⟩
      have hmo := zrun_mono n hrun
      have key := zinner hfn (l := l) (e := e) (below := below) (Q := MQ below (zQc D cl K lo nb E' v) (as.map (zc lo)).toArray s (zN E' - zN E) (zM E' - zM E) (zA lo nb)) hg C hokj hex (n0 := zN E) (m0 := zM E) (E1 := E') (r := .inl v) (Nat.le_refl _) (Nat.le_refl _) hal hnb
        (fun el c' ls st H locs lsC hsf hst hL hW hS => zreturn C B.returns B.notSynchronized (hokj.2.1 el (hsf.mem List.mem_cons_self)) hst hW hS)
        n (fun j as E E' v k hk hl hr ha hb => ih k hk j as E E' v hl hr ha hb) (zco (Mt j)) (zen as (zmL (Mt j))) [] E s.heap [] lsC List.suffix_rfl hrun (Nat.le_refl _) (Nat.le_refl _) hL hWd va_S.rf
      rw [Nat.sub_self, Nat.sub_self, hokj.2.2.2] at key
      exact key
    · exfalso
      rw [h0] at hrun
      cases n with
      | zero => cases hrun
      | succ n => rw [zrun, show ∀ ls st, zst [] [] ls st E = none from fun _ _ => rfl] at hrun; cases hrun
end ZMETHOD
