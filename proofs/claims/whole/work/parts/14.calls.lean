/-! ===== a call of the walk is a call of the machine; a method's walk is its contract ===== -/
section ZCALLS
theorem zKK.same {D : va_G} {cl : List vw_C} {K : Nat → ClassId} {nst : List Jvm.Cond} {s U : State} (hW : s.vm = U.vm) (h : zKK D cl K nst s) : zKK D cl K nst U := by
  have ha : s.vm.Alike U.vm := by rw [hW]; exact Vm.Alike.refl U.vm
  refine ⟨va_K.moved ha h.1, va_AO.moved ha h.2.1, fun w hw => ?_⟩
  obtain ⟨a, i, x, hh, rfl, h2⟩ := h.2.2 w hw
  exact ⟨a, i, x, hh, rfl, va_Nw.same rfl hW h2⟩
def zPc (fl : Bool) (nst : List Jvm.Cond) (D : va_G) (cl : List vw_C) (K : Nat → ClassId) (lo : Nat) (E : zHp) : State → Prop := fun U => zWd D cl lo K E U.heap ∧ zKK D cl K nst U ∧ (fl = true → U.heap.size = lo + zN E)
def zQc (D : va_G) (cl : List vw_C) (K : Nat → ClassId) (lo : Nat) (nb : Option Nat) (E' : zHp) (v : Option Value) : Array Value → State → Outcome → State → Prop := fun _ st o t => o = .returned (v.map (zc lo)) ∧ zWd D cl lo K E' t.heap ∧ va_F (zA lo nb) st t
def zrm (m : zMe) (mc ms : Nat) : Room := { frames := zfr m, cells := mc, slots := ms, locals := zlo m }
def zwl (Gw : List Jvm.Cond) (m : zMe) : List Jvm.Cond := .code (zy m) (zb m) (zmL m) (zrT m) :: Gw
def zMet (Gw nst : List Jvm.Cond) (l : Launch) (D : va_G) (cl : List vw_C) (K : Nat → ClassId) (lo : Nat) (nb : Option Nat) (fl : Bool) (m : zMe) (as : List Value) (E : zHp) (v : Option Value) (E' : zHp) : Prop :=
  Met l (zy m) (zwl Gw m) (zrm m (zN E' - zN E) (zM E' - zM E)) (va_Pc (as.map (zc lo)) (zPc fl nst D cl K lo E)) (zQc D cl K lo nb E' v) (zN E' - zN E) (zM E' - zM E) (zA lo nb)
theorem zBlind {fl : Bool} {nst : List Jvm.Cond} {D : va_G} {cl : List vw_C} {K : Nat → ClassId} {lo : Nat} {E : zHp} {As : List Value} : FrameBlind (va_Pc As (zPc fl nst D cl K lo E)) := fun _ U g mk q => ⟨q.1, q.2.1, zKK.same (s := U) rfl q.2.2.1, q.2.2.2⟩
variable {p : Program} {l : Launch} {e : Env} {R : Room} {s : State} {mi : MethodId} {args : Array Value} {below : List Frame} {meth : Method} {c : Code} {H : Heap} {locs : List Loc} {Q : State → Prop}
variable {Gw nst : List Jvm.Cond} {D : va_G} {cl : List vw_C} {K : Nat → ClassId} {lo n0 m0 : Nat} {me : zMe} {Mt : Nat → zMe} {fl : Bool} {nb : Option Nat}
theorem zcallW {E' : zHp} {v : Option Value} {a : Array Value} {cells slots mc ms pc : Nat} {ls : Array Slot} {st0 rest : List Value} (hr : va_Run p l e R s mi args below meth c H locs cells slots mc ms (F0 mi pc ls st0) rest (zQc D cl K lo nb E' v a) (zA lo nb)) (hS : va_S (zA lo nb) s.heap H locs)
    (kk : ∀ (H1 : Heap) (locs1 : List Loc), zWd D cl lo K E' H1 → va_S (zA lo nb) s.heap H1 locs1 → W p l e R s mi args below meth c H1 locs1 (cells + mc) (slots + ms) Q (F0 mi (pc + 3) ls ((v.map (zc lo)).toList ++ rest))) : W p l e R s mi args below meth c H locs cells slots Q (F0 mi pc ls st0) := by
  intro T hT X
  obtain ⟨v', st₀, t, T', L, h0, X', hL, e1, e2, ⟨hv, hw, hz, hk⟩, st⟩ := hr T hT X
  injection hv with hv
  subst hv
  rw [h0] at hz hk
  obtain ⟨t2, a1, b1⟩ := kk T'.heap (locs ++ L) (by rw [e1]; exact hw)
    ⟨Nat.le_trans hS.1 (by rw [e1]; exact hz), fun q h1 h2 => by rw [e1, hk q (Nat.lt_of_lt_of_le h1 hS.1) h2]; exact hS.2.1 q h1 h2, fun q hq => by
      rcases List.mem_append.mp hq with h | h
      · exact hS.2.2 q h
      · exact hL q h⟩ T' rfl X'
  exact ⟨t2, st t2 a1, b1⟩
theorem zGood (hg : ∀ w ∈ Gw, goodWord w = true) {ws : List Jvm.Cond} (h : ∀ w ∈ ws, w ∈ Gw) : GoodIn Gw ws := fun w hw => ⟨h w hw, good_of_word (hg w (h w hw))⟩
theorem zwl_in {m : zMe} (h : Jvm.Cond.code (zy m) (zb m) (zmL m) (zrT m) ∈ Gw) : ∀ w ∈ zwl Gw m, w ∈ Gw := fun w hw => by
  rcases List.mem_cons.mp hw with rfl | h2
  · exact h
  · exact h2
theorem ztake {st : List Value} {z : Nat} {v : Value} (hz : 1 ≤ z) (h : st[z - 1]? = some v) : st.take z = st.take (z - 1) ++ [v] ∧ st = st.take (z - 1) ++ v :: st.drop z := by
  obtain ⟨k, rfl⟩ : ∃ k, z = k + 1 := ⟨z - 1, by omega⟩
  rw [Nat.add_sub_cancel] at h ⊢
  have e1 : st.take (k + 1) = st.take k ++ [v] := by rw [List.take_add_one, h]; rfl
  refine ⟨e1, ?_⟩
  conv => lhs; rw [← List.take_append_drop (k + 1) st, e1]
  rw [List.append_assoc]; rfl
set_option maxHeartbeats 4000000 in
theorem zstepC (hg : ∀ w ∈ Gw, goodWord w = true) (C : zCx Gw nst D cl K lo me p R s mi args meth c) {M c' c2 : zCd} {el : zEl} {ls st ls2 st2 as : List Value} {E E1 : zHp} {v : Option Value} {j : Nat} {lsC : Array Slot} (hf : zFa Gw nst cl Mt me el) (hch : zfl el.2.2.1 = true → zpc c' = el.1 + el.2.1)
    (hst : zst M (el :: c') ls st E = some (.inr (.inl (j, as, c2, ls2, st2)))) (hMet : zMet Gw nst l D cl K lo nb fl (Mt j) as E v E1) (hL : zLv lo (zmL me) ls lsC) (hW : zWd D cl lo K E H) (hS : va_S (zA lo nb) s.heap H locs) (hex : fl = true → s.heap.size = lo + n0) (hn : n0 ≤ zN E) (hm : m0 ≤ zM E) (hn1 : zN E ≤ zN E1) (hm1 : zM E ≤ zM E1) (hrc : zN E1 - n0 ≤ R.cells) (hrs : zM E1 - m0 ≤ R.slots)
    (kk : ∀ (H2 : Heap) (locs2 : List Loc), zLv lo (zmL me) ls2 lsC → zWd D cl lo K E1 H2 → va_S (zA lo nb) s.heap H2 locs2 → W p l e R s mi args below meth c H2 locs2 (zN E1 - n0) (zM E1 - m0) Q (F0 mi (zpc c2) lsC ((v.toList ++ st2).map (zc lo)))) :
    W p l e R s mi args below meth c H locs (zN E - n0) (zM E - m0) Q (F0 mi el.1 lsC (st.map (zc lo))) := by
  obtain ⟨pc, len, i, x, z, y, t⟩ := el
  obtain ⟨hx, hb, hml, hown, hts, hKK, hin, hRf, hRl, hlo⟩ := C
  have hK := hKK.1
  have hP := hW.1
  refine zW_sz (fun hsz => ?_)
  have hsz2 : fl = true → H.size = lo + zN E := fun h => by
    have h1 := hex h
    have h2 := hW.2
    omega
  have hpre : ∀ (As : List Value) (U : State), U.heap = H → s.WarmedH U.vm → va_Pc (As.map (zc lo)) (zPc fl nst D cl K lo E) (As.map (zc lo)).toArray U := fun As U hU hW' => ⟨rfl, by rw [hU]; exact hW, zKK.moved hW' hKK, fun h => by rw [hU]; exact hsz2 h⟩
  have hfit : (zN E - n0) + (zN E1 - zN E) ≤ R.cells ∧ (zM E - m0) + (zM E1 - zM E) ≤ R.slots := ⟨by omega, by omega⟩
  have ec : (zN E - n0) + (zN E1 - zN E) = zN E1 - n0 := by omega
  have es : (zM E - m0) + (zM E1 - zM E) = zM E1 - m0 := by omega
  have hvm : (v.toList ++ st2).map (zc lo) = (v.map (zc lo)).toList ++ st2.map (zc lo) := by
    rw [List.map_append]
    cases v <;> rfl
  rw [hvm, ← ec, ← es] at kk
  have fix : CallFix p mi c (zb me) (zmL me) s args Gw (zOw me) := ⟨hx, hb, hml, hown, hts⟩
  have hroom : ∀ st' : List Value, st'.length ≤ 8 → 2 * (F0 mi pc lsC (st.map (zc lo))).monitorRoom + ((st'.map (zc lo)).map fun v => v.category).sum ≤ 8 := fun st' h => lv_room (by rw [zc_sum]; exact h)
  dsimp only at hch ⊢
  unfold zFa at hf
  cases i
  case invokevirtual ci =>
    have hch := hch rfl
    simp only [zst] at hst
    obtain ⟨idx, hd, rfl, hz1, -, ⟨hc1, hc2, hc3, hc4, hc5⟩, hlk, hinst, hsel, T, N, hcl⟩ := hf
    split at hst
    · rename_i a ha
      split at hst
      · rename_i hob
        unfold zcl at hst
        split at hst
        · rename_i hlen
          simp only [Option.some.injEq, Sum.inr.injEq, Sum.inl.injEq, Prod.mk.injEq] at hst
          obtain ⟨rfl, rfl, rfl, rfl, rfl⟩ := hst
          rw [hch] at kk
          obtain ⟨e1, e2⟩ := ztake hz1 ha
          have eas : (st.take z).reverse = .ref a :: (st.take (z - 1)).reverse := by rw [e1, List.reverse_append]; rfl
          rw [eas] at hMet
          obtain ⟨hpa, fs, hsa⟩ := zob_at hob
          have hat := zws_get (lo := lo) (K := K) hpa
          rw [hsa] at hat
          refine zcallW (va_runV (C := zOw (Mt x)) (b := lo + a) (As := ((st.take (z - 1)).reverse).map (zc lo)) (rest := (st.drop z).map (zc lo)) fix hMet (cwV (z - 1) hts (zGood hg ?_) rfl rfl rfl ⟨rfl, hc3⟩ ⟨Nat.le_trans hc4 hRf, Nat.le_trans hc5 hRl⟩) ⟨zBlind, va_recv hK hP hcl hat, fun U hU hW' => hpre (.ref a :: (st.take (z - 1)).reverse) U hU hW'⟩ rfl (by rw [List.length_map, List.length_reverse, List.length_take]; omega) hL.2.1 ?_ (hroom _ (by rw [List.length_drop]; omega)) hd hfit) hS (fun H1 L1 h1 h2 => kk H1 L1 hL h1 h2)
          · intro w hw
            rcases List.mem_append.mp hw with h | h
            · rcases List.mem_cons.mp h with rfl | h
              · exact hlk
              · rcases List.mem_cons.mp h with rfl | h
                · exact hinst
                · rcases List.mem_cons.mp h with rfl | h
                  · exact hsel
                  · rcases List.mem_cons.mp h with rfl | h
                    · exact hc2
                    · cases h
            · exact zwl_in hc1 w h
          · show st.map (zc lo) = _
            conv => lhs; rw [e2]
            rw [List.map_append, List.map_cons, ← List.map_reverse, List.reverse_reverse]
            rfl
        · cases hst
      · cases hst
    · cases hst
  case invokestatic ci =>
    have hch := hch rfl
    simp only [zst, zcl] at hst
    obtain ⟨idx, hd, rfl, -, ⟨hc1, hc2, hc3, hc4, hc5⟩, hstat, hlk⟩ := hf
    split at hst
    · rename_i hlen
      simp only [Option.some.injEq, Sum.inr.injEq, Sum.inl.injEq, Prod.mk.injEq] at hst
      obtain ⟨rfl, rfl, rfl, rfl, rfl⟩ := hst
      rw [hch] at kk
      have est : st.map (zc lo) = (((st.take z).reverse).map (zc lo)).reverse ++ (st.drop z).map (zc lo) := by
        rw [← List.map_reverse, List.reverse_reverse, ← List.map_append, List.take_append_drop]
      have hal : (((st.take z).reverse).map (zc lo)).length = z := by rw [List.length_map, List.length_reverse, List.length_take]; omega
      rcases hlk with hlk | ⟨host, hlk⟩
      · exact zcallW (va_runS (As := ((st.take z).reverse).map (zc lo)) (rest := (st.drop z).map (zc lo)) fix hMet ⟨callB_of z hts (zGood hg (zwl_in hc1)) rfl rfl rfl (hts _ hc2) (hts _ hlk) hc3 ⟨Nat.le_trans hc4 hRf, Nat.le_trans hc5 hRl⟩, hts _ hstat⟩ ⟨zBlind, fun U hU hW' => hpre _ U hU hW'⟩ rfl hal hL.2.1 est (hroom _ (by rw [List.length_drop]; omega)) hd hfit) hS (fun H1 L1 h1 h2 => kk H1 L1 hL h1 h2)
      · obtain ⟨a9, i9, x9, h9, e9, hN⟩ := hKK.2.2 _ hlk
        exact zcallW (va_runSN (host := host) (As := ((st.take z).reverse).map (zc lo)) (rest := (st.drop z).map (zc lo)) fix hMet ⟨va_cnB z hts (zGood hg (zwl_in hc1)) rfl rfl rfl hN (hts _ hc2) hc3 ⟨Nat.le_trans hc4 hRf, Nat.le_trans hc5 hRl⟩, hts _ hstat, trivial⟩ ⟨zBlind, fun U hU hW' => hpre _ U hU hW'⟩ rfl hal hL.2.1 est (hroom _ (by rw [List.length_drop]; omega)) hd hfit) hS (fun H1 L1 h1 h2 => kk H1 L1 hL h1 h2)
    · cases hst
  case invokespecial ci =>
    have hch := hch rfl
    simp only [zst, zcl] at hst
    obtain ⟨idx, hd, rfl, hz1, -, ⟨hc1, hc2, hc3, hc4, hc5⟩, hrt, hnm, hinst, hlk⟩ := hf
    split at hst
    · rename_i a ha
      split at hst
      · rename_i hlen
        simp only [Option.some.injEq, Sum.inr.injEq, Sum.inl.injEq, Prod.mk.injEq] at hst
        obtain ⟨rfl, rfl, rfl, rfl, rfl⟩ := hst
        rw [hch] at kk
        obtain ⟨e1, e2⟩ := ztake hz1 ha
        have eas : (st.take z).reverse = .ref a :: (st.take (z - 1)).reverse := by rw [e1, List.reverse_append]; rfl
        rw [eas] at hMet
        have est : st.map (zc lo) = (((st.take (z - 1)).reverse).map (zc lo)).reverse ++ .ref (lo + a) :: (st.drop z).map (zc lo) := by
          conv => lhs; rw [e2]
          rw [List.map_append, List.map_cons, ← List.map_reverse, List.reverse_reverse]
          rfl
        have hal : (((st.take (z - 1)).reverse).map (zc lo)).length = z - 1 := by rw [List.length_map, List.length_reverse, List.length_take]; omega
        have hwl : zwl Gw (Mt x) = Jvm.Cond.code (zy (Mt x)) (zb (Mt x)) (zmL (Mt x)) none :: Gw := by rw [zwl, hrt]
        rcases hlk with hlk | ⟨host, hlk⟩
        · exact zcallW (va_runI (b := lo + a) (As := ((st.take (z - 1)).reverse).map (zc lo)) (rest := (st.drop z).map (zc lo)) fix hMet (cwI (z - 1) hts (zGood hg (zwl_in hc1)) hwl rfl rfl (hts _ hc2) (hts _ hlk) (hts _ hinst) hnm hc3 ⟨Nat.le_trans hc4 hRf, Nat.le_trans hc5 hRl⟩) ⟨zBlind, fun U hU hW' => hpre (.ref a :: (st.take (z - 1)).reverse) U hU hW'⟩ rfl hal hL.2.1 est (hroom _ (by rw [List.length_drop]; omega)) hd hfit) hS (fun H1 L1 h1 h2 => kk H1 L1 hL h1 h2)
        · obtain ⟨a9, i9, x9, h9, e9, hN⟩ := hKK.2.2 _ hlk
          exact zcallW (va_runIN (host := host) (b := lo + a) (As := ((st.take (z - 1)).reverse).map (zc lo)) (rest := (st.drop z).map (zc lo)) fix hMet ⟨va_cnB (z - 1) hts (zGood hg (zwl_in hc1)) hwl rfl rfl hN (hts _ hc2) hc3 ⟨Nat.le_trans hc4 hRf, Nat.le_trans hc5 hRl⟩, hnm, hts _ hinst⟩ ⟨zBlind, fun U hU hW' => hpre (.ref a :: (st.take (z - 1)).reverse) U hU hW'⟩ rfl hal hL.2.1 est (hroom _ (by rw [List.length_drop]; omega)) hd hfit) hS (fun H1 L1 h1 h2 => kk H1 L1 hL h1 h2)
      · cases hst
    · cases hst
  all_goals (simp only [zst, znx] at hst <;> repeat' (first | (cases hst; done) | split at hst))
/-- how the heap's numbers grow along a walk -/
theorem znw_mono (E : zHp) (s : zSh) (n : Nat) : zN E ≤ zN (znw E s n) ∧ zM E ≤ zM (znw E s n) := ⟨Nat.le_succ _, Nat.le_add_right _ _⟩
theorem zpf_mono {E E' : zHp} {p ci k : Nat} {v : Value} (h : zpf E p ci k v = some E') : zN E' = zN E ∧ zM E' = zM E := by
  unfold zpf at h
  repeat' (first | (cases h; done) | (cases h; exact ⟨rfl, rfl⟩) | split at h)
theorem zcp_mono {E E' : zHp} {p q : Nat} {sp dp n : Int32} (h : zcp E p sp q dp n = some E') : zN E' = zN E ∧ zM E' = zM E := by
  unfold zcp at h
  repeat' (first | (cases h; done) | (cases h; exact ⟨rfl, rfl⟩) | split at h)
theorem zst_mono {M c c2 : zCd} {ls st ls2 st2 : List Value} {E E2 : zHp} (h : zst M c ls st E = some (.inl (c2, ls2, st2, E2))) : zN E ≤ zN E2 ∧ zM E ≤ zM E2 := by
  cases c with
  | nil => cases h
  | cons el c' =>
    obtain ⟨pc, len, i, x, z, y, t⟩ := el
    cases i
    case putfield kd =>
      simp only [zst] at h
      split at h
      · split at h
        · split at h
          · rename_i hE
            simp only [znx, Option.some.injEq, Sum.inl.injEq, Prod.mk.injEq] at h
            obtain ⟨-, -, -, rfl⟩ := h
            obtain ⟨e1, e2⟩ := zpf_mono hE
            omega
          · cases h
        · cases h
      · split at h
        · split at h
          · rename_i hE
            simp only [znx, Option.some.injEq, Sum.inl.injEq, Prod.mk.injEq] at h
            obtain ⟨-, -, -, rfl⟩ := h
            obtain ⟨e1, e2⟩ := zpf_mono hE
            omega
          · cases h
        · cases h
      · cases h
    case invokedynamic kd =>
      simp only [zst] at h
      split at h
      · split at h
        · rename_i hE
          split at h
          · simp only [znx, Option.some.injEq, Sum.inl.injEq, Prod.mk.injEq] at h
            obtain ⟨-, -, -, rfl⟩ := h
            obtain ⟨e1, e2⟩ := zcp_mono hE
            omega
          · cases h
        · cases h
      · cases h
    case new kd =>
      simp only [zst, znx, Option.some.injEq, Sum.inl.injEq, Prod.mk.injEq] at h
      obtain ⟨-, -, -, rfl⟩ := h
      exact znw_mono _ _ _
    case newarray kd =>
      simp only [zst] at h
      split at h
      · split at h
        · simp only [znx, Option.some.injEq, Sum.inl.injEq, Prod.mk.injEq] at h
          obtain ⟨-, -, -, rfl⟩ := h
          exact znw_mono _ _ _
        · cases h
      · cases h
    case anewarray kd =>
      simp only [zst] at h
      split at h
      · split at h
        · simp only [znx, Option.some.injEq, Sum.inl.injEq, Prod.mk.injEq] at h
          obtain ⟨-, -, -, rfl⟩ := h
          exact znw_mono _ _ _
        · cases h
      · cases h
    all_goals (simp only [zst, znx, zcl] at h <;> repeat' (first | (cases h; done) | (simp only [Option.some.injEq, Sum.inl.injEq, Prod.mk.injEq] at h; obtain ⟨-, -, -, rfl⟩ := h; exact ⟨Nat.le_refl _, Nat.le_refl _⟩) | split at h))
theorem zrun_mono {T : Nat → zCd × Nat} : ∀ (n : Nat) {M c : zCd} {ls st : List Value} {E E2 : zHp} {r : zRt}, zrun T n M c ls st E = some (r, E2) → zN E ≤ zN E2 ∧ zM E ≤ zM E2 := by
  intro n
  induction n with
  | zero => intro M c ls st E E2 r h; cases h
  | succ n ih =>
    intro M c ls st E E2 r h
    rw [zrun] at h
    split at h
    · rename_i he
      have h1 := zst_mono he
      have h2 := ih h
      exact ⟨Nat.le_trans h1.1 h2.1, Nat.le_trans h1.2 h2.2⟩
    · split at h
      · rename_i hc
        have h1 := ih hc
        have h2 := ih h
        exact ⟨Nat.le_trans h1.1 h2.1, Nat.le_trans h1.2 h2.2⟩
      · cases h
    · cases h
      exact ⟨Nat.le_refl _, Nat.le_refl _⟩
    · cases h
end ZCALLS
