section ZHELP
variable {l : Launch} {D : va_G} {K : Nat → ClassId} {lo : Nat} {cO : ClassId}
/-- which exceptions the law's tables must not take for others -/
def zxB : List (Nat × Nat) := [(1, 0), (1, 2), (0, 2), (3, 0), (1, 3)]
/-- the law's array of one long -/
def zlw (cO : ClassId) (lo : Nat) (f : Nat → Int64) : va_W := [(lo + 139, .inl (cO, 1, .inr (.inl f)))]
def zOu (D : va_G) (cO : ClassId) (lo : Nat) (f : Nat → Int64) (H : Heap) : Prop := va_P D vwCl (zlw cO lo f) H
def zhPc (D : va_G) (K : Nat → ClassId) (lo : Nat) (cO : ClassId) (f : Nat → Int64) (E : zHp) : State → Prop := fun U => zxPc zNs D vwCl K zxB zxSt lo (some 139) E U ∧ zOu D cO lo f U.heap ∧ va_K D vwCl [(cO, .long)] U
def zhQc (D : va_G) (K : Nat → ClassId) (lo : Nat) (cO : ClassId) (f : Nat → Int64) (E : zHp) (k : Int32) : Array Value → State → Outcome → State → Prop := fun _ st o t => o = .returned (some (.int k)) ∧ zWd D vwCl lo K E t.heap ∧ va_F (zA lo (some 140)) st t ∧ zOu D cO lo f t.heap
def zhk (c : Nat → Int32) : zRt → Int32
  | .inl _ => 0
  | .inr x => c x
def zhf (f : Nat → Int64) : zRt → Nat → Int64
  | .inl (some (.int v)) => vp_updL f (0 : Int32).toNatClampNeg v.toInt64
  | _ => f
def zhrm (m : zMe) : Room := { frames := max (zfr m) 10 + 1, cells := 1, slots := 6, locals := 8 + (zmL m + 11) + max (zlo m) 200 }
theorem zxPc_at {nst : List Jvm.Cond} {cl : List vw_C} {B : List (Nat × Nat)} {sts : List (Nat × String)} {nb : Option Nat} {E : zHp} {s U : State} (hh : U.heap = s.heap) (hW : s.WarmedH U.vm) (h : zxPc nst D cl K B sts lo nb E s) : zxPc nst D cl K B sts lo nb E U :=
  ⟨⟨by rw [hh]; exact h.1.1, zKK.moved hW h.1.2.1, fun e => by cases e⟩, zxV_warm hW h.2.1, fun q hq => va_Nc.moved hW.alike (h.2.2.1 q hq), fun q hq => by
    obtain ⟨sa, x⟩ := h.2.2.2.1 q hq
    exact ⟨sa, vk_R.warm hW x⟩, by rw [hh]; exact vx_Zq.moved hW.alike h.2.2.2.2.1, by rw [hh]; exact vx_Zq.moved hW.alike h.2.2.2.2.2⟩
theorem zxBlind {nst : List Jvm.Cond} {cl : List vw_C} {B : List (Nat × Nat)} {sts : List (Nat × String)} {nb : Option Nat} {E : zHp} {As : List Value} : FrameBlind (va_Pc As (zxPc nst D cl K B sts lo nb E)) := fun _ U _ _ q => ⟨q.1, zxPc_at (s := U) rfl (State.WarmedH.refl U) q.2⟩
theorem zhBlind {f : Nat → Int64} {E : zHp} {As : List Value} : FrameBlind (va_Pc As (zhPc D K lo cO f E)) := fun _ U _ _ q => ⟨q.1, zxPc_at (s := U) rfl (State.WarmedH.refl U) q.2.1, q.2.2.1, va_K.moved (Vm.Alike.refl U.vm) q.2.2.2⟩
theorem zlw_D {E : zHp} (f : Nat → Int64) (hN : zN E = 139) : va_D (zA lo (some 140)) (zws lo K E ++ zlw cO lo f) := by
  refine va_D.app (zws_D lo (some 140) K E (fun n hn => by cases hn; omega)) ⟨fun i j p q hi hj _ => ?_, fun k q hk => ?_⟩ (fun i j p q hi hj => ?_)
  · have h1 := (List.getElem?_eq_some_iff.mp hi).1
    have h2 := (List.getElem?_eq_some_iff.mp hj).1
    simp only [zlw, List.length_cons, List.length_nil] at h1 h2
    omega
  · have h1 := List.mem_of_getElem? hk
    simp only [zlw, List.mem_cons, List.not_mem_nil, or_false] at h1
    rw [h1]
    exact ⟨Nat.le_add_right _ _, fun n hn => by cases hn; show lo + 139 < lo + 140; omega⟩
  · obtain ⟨h0, rfl⟩ := zws_at hi
    have h1 := List.mem_of_getElem? hj
    simp only [zlw, List.mem_cons, List.not_mem_nil, or_false] at h1
    rw [h1]
    show lo + i ≠ lo + 139
    omega
theorem zws_len {E : zHp} : (zws lo K E).length = zN E := by rw [zws, List.length_map, List.length_range]
section
variable {p : Program} {e : Env} {R : Room} {s : State} {m : MethodId} {args : Array Value} {below : List Frame} {meth : Method} {c : Code} {H : Heap} {locs : List Loc} {Q : State → Prop} {cc : ByteArray} {nL : Nat}
theorem zw_S {n k : Nat} (h : n ≤ k) {H0 : Heap} (hS : va_S (zA lo (some n)) H0 H locs) : va_S (zA lo (some k)) H0 H locs := ⟨hS.1, fun q h1 h2 => hS.2.1 q h1 (fun h3 => h2 ⟨h3.1, fun n9 h9 => by cases h9; have := h3.2 n rfl; omega⟩), fun z hz => ⟨(hS.2.2 z hz).1, fun n9 h9 => by cases h9; have := (hS.2.2 z hz).2 n rfl; omega⟩⟩
/-- the call of a face method inside a helper -/
theorem zhcall {me : zMe} {as : List Value} {E E' : zHp} {r : zRt} {ix pc n : Nat} {ls : Array Slot} {rest : List Value} (hM : zxM zGw zNs l D vwCl K zxB zxSt lo (some 139) me (.ref 0 :: as) E r E') (fix : CallFix p m c cc nL s args zGw "ShardRebalancerLaw") (hX : zxPc zNs D vwCl K zxB zxSt lo (some 139) E s) {ci : Nat} {Ty : u_T} {Nm : Nat} (hob : zob E 0 ci = true) (hci : vwCl[ci]? = some ("ShardRebalancer", Ty, Nm))
    (hn : as.length = n) (hsize : ls.size = nL) (hcl : zOw me = "ShardRebalancer") (hws : ∀ w ∈ wsV "ShardRebalancerLaw" ix "ShardRebalancer" (zy me) (zwl zGw me), w ∈ zGw) (hd : (zy me).cls = "ShardRebalancer" ∧ (parseMethodDescriptor (zy me).desc).map (fun d => d.parameters.length) = some n) (hR : R = zhrm me)
    (hW : (rest.map fun v => v.category).sum ≤ 8) (hdg : decode cc pc = .ok (.invokevirtual ix, 3))
    (k1 : ∀ (v : Option Value) (H1 : Heap) (locs1 : List Loc), r = .inl v → zWd D vwCl lo K E' H1 → va_S (zA lo (some 139)) s.heap H1 locs1 → W p l e R s m args below meth c H1 locs1 1 6 Q (F0 m (pc + 3) ls ((v.map (zc lo)).toList ++ rest)))
    (k2 : ∀ (x : Nat) (H1 : Heap) (locs1 : List Loc) (q : Addr) (ce : Cell), r = .inr x → zWd D vwCl lo K E' H1 → va_S (zA lo (some 139)) s.heap H1 locs1 → H1[q]? = some ce → ce.vm = .none → s.vm.findClass (zxE x) = some ce.cls → vx_W p l e R s m args below meth c H1 locs1 1 6 Q (F0 m pc ls rest) q) :
    W p l e R s m args below meth c s.heap [] 0 0 Q (F0 m pc ls ((as.map (zc lo)).reverse ++ .ref lo :: rest)) := by
  subst hR
  have hts := fix.2.2.2.2
  obtain ⟨hpa, fs, hsa⟩ := zob_at hob
  have hat := zws_get (lo := lo) (K := K) hpa
  rw [hsa] at hat
  have hr := vx_runV (R := zhrm me) (l := l) (e := e) (below := below) (meth := meth) (H := s.heap) (locs := []) (cells := 0) (slots := 0) (C := "ShardRebalancer") (b := lo) (As := as.map (zc lo)) (rest := rest) (g := F0 m pc ls ((as.map (zc lo)).reverse ++ .ref lo :: rest)) fix hM
    (cwV n hts (zGood zGw_good hws) rfl rfl rfl ⟨hd.1, by rw [hd.1]; decide, by rw [hd.1]; decide, hd.2⟩ ⟨Nat.le_refl _, Nat.le_refl _⟩)
    ⟨zxBlind, va_recv hX.1.2.1.1 hX.1.1.1 hci hat, fun U hU hW' => ⟨rfl, zxPc_at hU hW' hX⟩⟩ rfl (by rw [List.length_map]; exact hn) hsize rfl (by show 2 * 0 + _ ≤ 8; omega) hdg ⟨Nat.le_refl _, Nat.le_refl _⟩
  intro T hT X
  rcases hr T hT X with ⟨v', st₀, t, T', L, h0, X', hL, e1, e2, hq, st⟩ | ⟨q, st₀, t, T', L, E1, ce, h0, X', hL, e1, e2, hxc, hce, hcv, hcl, st⟩
  · cases r with
    | inr x => exact hq.elim
    | inl v =>
      obtain ⟨hv, hw, hz, hk⟩ := hq
      injection hv with hv
      subst hv
      rw [h0] at hz hk
      obtain ⟨t2, a1, b1⟩ := k1 v T'.heap ([] ++ L) rfl (by rw [e1]; exact hw) ⟨by rw [e1]; exact hz, fun q h1 h2 => by rw [e1]; exact hk q h1 h2, fun q hq => hL q hq⟩ T' rfl X'
      exact ⟨t2, st t2 a1, b1⟩
  · cases r with
    | inl v => exact hxc.elim
    | inr x =>
      obtain ⟨rfl, hw, hz, hk⟩ := hxc
      rw [h0] at hz hk
      obtain ⟨t2, a1, b1⟩ := k2 x T'.heap ([] ++ L) q ce rfl (by rw [e1]; exact hw) ⟨by rw [e1]; exact hz, fun q h1 h2 => by rw [e1]; exact hk q h1 h2, fun q hq => hL q hq⟩ (by rw [e1]; exact hce) hcv hcl T' rfl X'
      exact ⟨t2, st.trans a1, b1⟩
theorem zOu_kept {f : Nat → Int64} {H0 : Heap} (hS : va_S (zA lo (some 139)) H0 H locs) (h : zOu D cO lo f H0) : zOu D cO lo f H := va_P.kept h fun k q hk => by
  have h1 := vx_lt h hk
  have h2 := List.mem_of_getElem? hk
  simp only [zlw, List.mem_cons, List.not_mem_nil, or_false] at h2
  rw [h2] at h1 ⊢
  exact hS.2.1 _ h1 fun h3 => by have h4 := h3.2 139 rfl; simp only at h4; omega
/-- the answer goes into out -/
theorem zhend {pc e9 : Nat} {off : Int} {f : Nat → Int64} {E : zHp} {v k : Int32} {ls : Array Slot} (hx : p.tables.exec = Jvm.exec) (hb : c.code = cc) (d1 : decode cc pc = .ok (.i2l, 1)) (d2 : decode cc (pc + 1) = .ok (.lastore, 1)) (d3 : decode cc (pc + 1 + 1) = .ok (.goto off, 3)) (he : ((pc + 1 + 1 : Nat) : Int) + off = (e9 : Int)) (d4 : decode cc e9 = .ok (.iconst 0, 1)) (d5 : decode cc (e9 + 1) = .ok (.ireturn, 1))
    (hk : Int32.ofInt 0 = k) (hret : meth.sig.returnType = some .int) (hlk : meth.locks = false) (hw : zWd D vwCl lo K E H) (hN : zN E = 139) (hsz : lo + zN E ≤ s.heap.size) (hs : va_S (zA lo (some 139)) s.heap H locs) (hO : zOu D cO lo f s.heap) (hKO : va_K D vwCl [(cO, .long)] s) :
    W p l e R s m args below meth c H locs 1 6 (vx_MQ below (zhQc D K lo cO (vp_updL f (0 : Int32).toNatClampNeg v.toInt64) E k) (fun _ _ _ => False) args s 1 6 (zA lo (some 140))) (F0 m pc ls (.int v :: .int 0 :: .ref (lo + 139) :: [])) := by
  have hO1 := zOu_kept hs hO
  have hlen : (zws lo K E).length = 139 := by rw [zws_len, hN]
  refine lv_i2l hx hb d1 rfl ?_
  refine va_last (ws := zws lo K E ++ zlw cO lo f) hx hb hKO (va_P.app hw.1 hO1) (zlw_D f hN) (zw_S (by omega) hs) 139 0 (by rw [List.getElem?_append_right (by omega), hlen]; rfl) rfl (by unfold vp_in; decide) d2 (fun H1 L1 h1 h2 h3 => ?_)
  rw [show (zws lo K E ++ zlw cO lo f).set 139 (lo + 139, .inl (cO, 1, .inr (.inl (vp_updL f (0 : Int32).toNatClampNeg v.toInt64)))) = zws lo K E ++ zlw cO lo (vp_updL f (0 : Int32).toNatClampNeg v.toInt64) by rw [List.set_append_right _ _ (by omega), hlen]; rfl] at h1
  have hw1 : zWd D vwCl lo K E H1 := ⟨fun k q hk => h1 k q (by rw [List.getElem?_append_left (List.getElem?_eq_some_iff.mp hk).1]; exact hk), Nat.le_trans hsz h3.1⟩
  have hO2 : zOu D cO lo (vp_updL f (0 : Int32).toNatClampNeg v.toInt64) H1 := fun k q hk => h1 (139 + k) q (by rw [List.getElem?_append_right (by omega), hlen, Nat.add_sub_cancel_left]; exact hk)
  refine lv_goto hx hb d3 he ?_
  refine lv_iconst hx hb d4 hk ?_
  refine vx_ret ?_
  exact W.iret hx hb hret (fun t ht _ => ⟨rfl, by rw [ht]; exact hw1, h3.F ht, by rw [ht]; exact hO2⟩) h3.2.2 d5 hlk
theorem zhcatN {k9 : Fin 4} {h9 i : Nat} {z : Int} {q : Addr} {f : Nat → Int64} {E : zHp} {k : Int32} {ls : Array Slot} {lv : List (Nat × Value)} (hx : p.tables.exec = Jvm.exec) (hb : c.code = cc) (d1 : decode cc h9 = .ok (.astore_n k9, 1)) (hi : (k9 : Nat) = i) (hlv : lv_has ls nL lv) (hn : i < nL) (d2 : decode cc (h9 + 1) = .ok (.iconst z, 1)) (hk : Int32.ofInt z = k) (d3 : decode cc (h9 + 1 + 1) = .ok (.ireturn, 1))
    (hret : meth.sig.returnType = some .int) (hlk : meth.locks = false) (hw : zWd D vwCl lo K E H) (hs : va_S (zA lo (some 139)) s.heap H locs) (hO : zOu D cO lo f s.heap) :
    W p l e R s m args below meth c H locs 1 6 (vx_MQ below (zhQc D K lo cO f E k) (fun _ _ _ => False) args s 1 6 (zA lo (some 140))) (F0 m h9 ls [.ref q]) := by
  have hO1 := zOu_kept hs hO
  have hs1 := zw_S (show 139 ≤ 140 by omega) hs
  refine lv_astore_n hx hb d1 hi hlv hn rfl (fun ls' h' => ?_)
  refine lv_iconst hx hb d2 hk ?_
  refine vx_ret ?_
  exact W.iret hx hb hret (fun t ht _ => ⟨rfl, by rw [ht]; exact hw, hs1.F ht, by rw [ht]; exact hO1⟩) hs1.2.2 d3 hlk
theorem zhcatW {h9 i : Nat} {z : Int} {q : Addr} {f : Nat → Int64} {E : zHp} {k : Int32} {ls : Array Slot} {lv : List (Nat × Value)} (hx : p.tables.exec = Jvm.exec) (hb : c.code = cc) (d1 : decode cc h9 = .ok (.astore i, 2)) (hlv : lv_has ls nL lv) (hn : i < nL) (d2 : decode cc (h9 + 2) = .ok (.iconst z, 1)) (hk : Int32.ofInt z = k) (d3 : decode cc (h9 + 2 + 1) = .ok (.ireturn, 1))
    (hret : meth.sig.returnType = some .int) (hlk : meth.locks = false) (hw : zWd D vwCl lo K E H) (hs : va_S (zA lo (some 139)) s.heap H locs) (hO : zOu D cO lo f s.heap) :
    W p l e R s m args below meth c H locs 1 6 (vx_MQ below (zhQc D K lo cO f E k) (fun _ _ _ => False) args s 1 6 (zA lo (some 140))) (F0 m h9 ls [.ref q]) := by
  have hO1 := zOu_kept hs hO
  have hs1 := zw_S (show 139 ≤ 140 by omega) hs
  refine lv_astore hx hb d1 hlv hn rfl (fun ls' h' => ?_)
  refine lv_iconst hx hb d2 hk ?_
  refine vx_ret ?_
  exact W.iret hx hb hret (fun t ht _ => ⟨rfl, by rw [ht]; exact hw, hs1.F ht, by rw [ht]; exact hO1⟩) hs1.2.2 d3 hlk
end
end ZHELP
