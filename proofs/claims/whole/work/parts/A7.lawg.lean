/-! ===== the law's helper for greatestFill ===== -/
section ZLAWG
variable {l : Launch} {D : va_G} {K : Nat → ClassId} {lo : Nat} {cO cD : ClassId}
/-- the law's array of one double -/
def zdw (cD : ClassId) (lo : Nat) (f : Nat → UInt64) : va_W := [(lo + 140, .inl (cD, 1, .inr (.inr (.inr (.inl f)))))]
def zOd (D : va_G) (cD : ClassId) (lo : Nat) (f : Nat → UInt64) (H : Heap) : Prop := va_P D vwCl (zdw cD lo f) H
def zAdd (lo : Nat) : Nat → Prop := fun q => zA lo (some 139) q ∨ q = lo + 140
theorem zOu_fr {f : Nat → Int64} {H H1 : Heap} (hk : ∀ q : Nat, q < H.size → q = lo + 139 → H1[q]? = H[q]?) (h : zOu D cO lo f H) : zOu D cO lo f H1 := va_P.kept h fun k q hq => by
  have h1 := vx_lt h hq
  have h2 := List.mem_of_getElem? hq
  simp only [zlw, List.mem_cons, List.not_mem_nil, or_false] at h2
  rw [h2] at h1 ⊢
  exact hk _ h1 rfl
theorem zOd_fr {f : Nat → UInt64} {H H1 : Heap} (hk : ∀ q : Nat, q < H.size → q = lo + 140 → H1[q]? = H[q]?) (h : zOd D cD lo f H) : zOd D cD lo f H1 := va_P.kept h fun k q hq => by
  have h1 := vx_lt h hq
  have h2 := List.mem_of_getElem? hq
  simp only [zdw, List.mem_cons, List.not_mem_nil, or_false] at h2
  rw [h2] at h1 ⊢
  exact hk _ h1 rfl
theorem zdw_D {E : zHp} (f : Nat → UInt64) (hN : zN E = 139) : va_D (zAdd lo) (zws lo K E ++ zdw cD lo f) := by
  refine va_D.app ((zws_D lo (some 139) K E (fun n hn => by cases hn; omega)).weaken (fun _ _ _ h => Or.inl h)) ⟨fun i j p q hi hj _ => ?_, fun k q hk => ?_⟩ (fun i j p q hi hj => ?_)
  · have h1 := (List.getElem?_eq_some_iff.mp hi).1
    have h2 := (List.getElem?_eq_some_iff.mp hj).1
    simp only [zdw, List.length_cons, List.length_nil] at h1 h2
    omega
  · have h1 := List.mem_of_getElem? hk
    simp only [zdw, List.mem_cons, List.not_mem_nil, or_false] at h1
    rw [h1]
    exact Or.inr rfl
  · obtain ⟨h0, rfl⟩ := zws_at hi
    have h1 := List.mem_of_getElem? hj
    simp only [zdw, List.mem_cons, List.not_mem_nil, or_false] at h1
    rw [h1]
    show lo + i ≠ lo + 140
    omega
section
variable {p : Program} {e : Env} {R : Room} {s : State} {m : MethodId} {args : Array Value} {below : List Frame} {meth : Method} {c : Code} {H : Heap} {locs : List Loc} {Q : State → Prop} {cc : ByteArray} {nL : Nat}
theorem zAdd_S {H0 : Heap} (hS : va_S (zA lo (some 139)) H0 H locs) : va_S (zAdd lo) H0 H locs := ⟨hS.1, fun q h1 h2 => hS.2.1 q h1 (fun h3 => h2 (Or.inl h3)), fun z hz => Or.inl (hS.2.2 z hz)⟩
theorem zhcallG {G G' : Nat → Nat → Int32} {A : zCA} {pc : Nat} {ls : Array Slot} {rest : List Value} (hM : vx_Met l yX6_greatestFill (zwl zGw mC_gf) (zxrm mC_gf) (va_Pc [.ref lo] (zxPc zNs D vwCl K zxB zxSt lo (some 139) (zhp G))) (fun _ st o t => ¬ (cR A).length = 0 ∧ o = .returned (some (.double (zGF (cS A) 8))) ∧ zWd D vwCl lo K (zhp G') t.heap ∧ va_F (zA lo (some 139)) st t) (fun C st t => (cR A).length = 0 ∧ C = zxE 4 ∧ zWd D vwCl lo K (zhp G') t.heap ∧ va_F (zA lo (some 139)) st t) 1 6 (zA lo (some 139)))
    (fix : CallFix p m c cc nL s args zGw "ShardRebalancerLaw") (hX : zxPc zNs D vwCl K zxB zxSt lo (some 139) (zhp G) s) (hsize : ls.size = nL) (hR : R = zhrm mC_gf) (hW : (rest.map fun v => v.category).sum ≤ 8) (hdg : decode cc pc = .ok (.invokevirtual 62, 3))
    (k1 : ∀ (H1 : Heap) (locs1 : List Loc), ¬ (cR A).length = 0 → zWd D vwCl lo K (zhp G') H1 → va_S (zA lo (some 139)) s.heap H1 locs1 → W p l e R s m args below meth c H1 locs1 1 6 Q (F0 m (pc + 3) ls (.double (zGF (cS A) 8) :: rest)))
    (k2 : ∀ (H1 : Heap) (locs1 : List Loc) (q : Addr) (ce : Cell), (cR A).length = 0 → zWd D vwCl lo K (zhp G') H1 → va_S (zA lo (some 139)) s.heap H1 locs1 → H1[q]? = some ce → ce.vm = .none → s.vm.findClass (zxE 4) = some ce.cls → vx_W p l e R s m args below meth c H1 locs1 1 6 Q (F0 m pc ls rest) q) :
    W p l e R s m args below meth c s.heap [] 0 0 Q (F0 m pc ls (.ref lo :: rest)) := by
  subst hR
  have hts := fix.2.2.2.2
  have hws : ∀ w ∈ wsV "ShardRebalancerLaw" 62 "ShardRebalancer" yX6_greatestFill (zwl zGw mC_gf), w ∈ zGw := List.forall_mem_cons.mpr ⟨gw_of 742 (by decide +kernel), List.forall_mem_cons.mpr ⟨gw_of 743 (by decide +kernel), List.forall_mem_cons.mpr ⟨gw_of 744 (by decide +kernel), List.forall_mem_cons.mpr ⟨gw_of 1 (by decide +kernel), zwl_in (gw_of 745 (by decide +kernel))⟩⟩⟩⟩
  obtain ⟨hpa, fs, hsa⟩ := zob_at (E := zhp G) (q := 0) (ci := 7) (zob_o (by decide) rfl)
  have hat := zws_get (lo := lo) (K := K) hpa
  rw [hsa] at hat
  have hr := vx_runV (R := zhrm mC_gf) (l := l) (e := e) (below := below) (meth := meth) (H := s.heap) (locs := []) (cells := 0) (slots := 0) (C := "ShardRebalancer") (b := lo) (As := []) (rest := rest) (g := F0 m pc ls (.ref lo :: rest)) fix hM
    (cwV 0 hts (zGood zGw_good hws) rfl rfl rfl ⟨rfl, by decide, by decide, by decide +kernel⟩ ⟨Nat.le_refl _, Nat.le_refl _⟩)
    ⟨zxBlind, va_recv hX.1.2.1.1 hX.1.1.1 (ci := 7) rfl hat, fun U hU hW' => ⟨rfl, zxPc_at hU hW' hX⟩⟩ rfl rfl hsize rfl (by show 2 * 0 + _ ≤ 8; omega) hdg ⟨Nat.le_refl _, Nat.le_refl _⟩
  intro T hT X
  rcases hr T hT X with ⟨v', st₀, t, T', L, h0, X', hL, e1, e2, hq, st⟩ | ⟨q, st₀, t, T', L, E1, ce, h0, X', hL, e1, e2, hxc, hce, hcv, hcl, st⟩
  · obtain ⟨hne, hv, hw, hz, hk⟩ := hq
    injection hv with hv
    subst hv
    rw [h0] at hz hk
    obtain ⟨t2, a1, b1⟩ := k1 T'.heap ([] ++ L) hne (by rw [e1]; exact hw) ⟨by rw [e1]; exact hz, fun q h1 h2 => by rw [e1]; exact hk q h1 h2, fun q hq => hL q hq⟩ T' rfl X'
    exact ⟨t2, st t2 a1, b1⟩
  · obtain ⟨hne, rfl, hw, hz, hk⟩ := hxc
    rw [h0] at hz hk
    obtain ⟨t2, a1, b1⟩ := k2 T'.heap ([] ++ L) q ce hne (by rw [e1]; exact hw) ⟨by rw [e1]; exact hz, fun q h1 h2 => by rw [e1]; exact hk q h1 h2, fun q hq => hL q hq⟩ (by rw [e1]; exact hce) hcv hcl T' rfl X'
    exact ⟨t2, st.trans a1, b1⟩
end
def zgPc (D : va_G) (K : Nat → ClassId) (lo : Nat) (cD : ClassId) (f : Nat → UInt64) (E : zHp) : State → Prop := fun U => zxPc zNs D vwCl K zxB zxSt lo (some 139) E U ∧ zOd D cD lo f U.heap ∧ va_K D vwCl [(cD, .double)] U
def zgQc (D : va_G) (K : Nat → ClassId) (lo : Nat) (cD : ClassId) (f : Nat → UInt64) (E : zHp) (k : Int32) : Array Value → State → Outcome → State → Prop := fun _ st o t => o = .returned (some (.int k)) ∧ zWd D vwCl lo K E t.heap ∧ va_F (zAdd lo) st t ∧ zOd D cD lo f t.heap
theorem zgBlind {f : Nat → UInt64} {E : zHp} {As : List Value} : FrameBlind (va_Pc As (zgPc D K lo cD f E)) := fun _ U _ _ q => ⟨q.1, zxPc_at (s := U) rfl (State.WarmedH.refl U) q.2.1, q.2.2.1, va_K.moved (Vm.Alike.refl U.vm) q.2.2.2⟩
theorem dL_greatestFill_0 : decode cL_greatestFill 0 = .ok (.aload_n 1, 1) := by decide +kernel
theorem dL_greatestFill_1 : decode cL_greatestFill 1 = .ok (.iconst 0, 1) := by decide +kernel
theorem dL_greatestFill_2 : decode cL_greatestFill 2 = .ok (.aload_n 0, 1) := by decide +kernel
theorem dL_greatestFill_3 : decode cL_greatestFill 3 = .ok (.invokevirtual 62, 3) := by decide +kernel
theorem dL_greatestFill_6 : decode cL_greatestFill 6 = .ok (.dastore, 1) := by decide +kernel
theorem dL_greatestFill_7 : decode cL_greatestFill 7 = .ok (.goto 6, 3) := by decide +kernel
theorem dL_greatestFill_10 : decode cL_greatestFill 10 = .ok (.astore_n 2, 1) := by decide +kernel
theorem dL_greatestFill_11 : decode cL_greatestFill 11 = .ok (.iconst 1, 1) := by decide +kernel
theorem dL_greatestFill_12 : decode cL_greatestFill 12 = .ok (.ireturn, 1) := by decide +kernel
theorem dL_greatestFill_13 : decode cL_greatestFill 13 = .ok (.iconst 0, 1) := by decide +kernel
theorem dL_greatestFill_14 : decode cL_greatestFill 14 = .ok (.ireturn, 1) := by decide +kernel
theorem zh_greatestFill (hst : l.stackTraces = false) {f : Nat → UInt64} {G : Nat → Nat → Int32} {A : zCA} (h : zCP G A) (hg : zGo (cS A)) : ∃ G', zCP G' A ∧ (∀ a, 102 ≤ a → (a ≤ 106 ∨ 122 ≤ a) → G' a = G a) ∧
    vx_Met l yL_greatestFill (Jvm.Cond.codeWith yL_greatestFill cL_greatestFill 3 (some .int) [(0, 7, 10, 66)] :: zGw) (zhrm mC_gf) (va_Pc [Value.ref lo, Value.ref (lo + 140)] (zgPc D K lo cD f (zhp G))) (zgQc D K lo cD (if (cR A).length = 0 then f else vf_upd f (0 : Int32).toNatClampNeg (zGF (cS A) 8)) (zhp G') (if (cR A).length = 0 then 1 else 0)) (fun _ _ _ => False) 1 6 (zAdd lo) := by
  obtain ⟨G', h1, f1, hM⟩ := zx_greatestFill (l := l) (D := D) (K := K) (lo := lo) hst h hg
  refine ⟨G', h1, f1, ?_⟩
  refine vx_ofWH (cc := cL_greatestFill) (maxL := 3) (ret := some .int) (hh := [(0, 7, 10, 66)]) (ws' := zGw) (by decide) rfl ?_
  intro p e s m args below meth c s₁ BL hml hv
  obtain ⟨rfl, hX, hO, hKO⟩ := hv
  have hts0 := atoms_spec (ws := Jvm.Cond.codeWith yL_greatestFill cL_greatestFill 3 (some .int) [(0, 7, 10, 66)] :: zGw) BL.pre
  have hts : ∀ w ∈ zGw, w.before ([Value.ref lo, Value.ref (lo + 140)]).toArray s = true := fun w hw => hts0 w (List.mem_cons_of_mem _ hw)
  have htab : c.exceptionTable.toList = tableOf [(0, 7, 10, 66)] := vx_table (x := yL_greatestFill) BL (hts0 _ List.mem_cons_self)
  have hown : s.vm.findClass "ShardRebalancerLaw" = some m.cls := findClass_of_methodNamed BL.named
  have hlv := lv_entry [Value.ref lo, Value.ref (lo + 140)] (n := 3) (Nat.le_of_ble_eq_true rfl)
  rw [lg_entry_eq]
  generalize (lg_sl [Value.ref lo, Value.ref (lo + 140)] ++ List.replicate (3 - (lg_sl [Value.ref lo, Value.ref (lo + 140)]).length) Slot.unset).toArray = ls at hlv ⊢
  have hx := BL.exec
  have hb := BL.bytes
  have hret := BL.returns
  have hlk := BL.notSynchronized
  refine lv_aload_n hx hb dL_greatestFill_0 rfl (hlv.2.2 (1, .ref (lo + 140)) (List.mem_of_getElem? (i := 1) rfl)) ?_
  refine lv_iconst (v := 0) hx hb dL_greatestFill_1 rfl ?_
  refine lv_aload_n hx hb dL_greatestFill_2 rfl (hlv.2.2 (0, .ref lo) (List.mem_of_getElem? (i := 0) rfl)) ?_
  refine zhcallG hM ⟨hx, hb, hml, hown, hts⟩ hX hlv.1 rfl (Nat.le_of_ble_eq_true rfl) dL_greatestFill_3 (fun H1 L1 hne hw hs => ?_) (fun H1 L1 q ce hne hw hs hce hcv hcl => ?_)
  · rw [if_neg hne, if_neg hne]
    have hN : zN (zhp G') = 139 := rfl
    have hlen : (zws lo K (zhp G')).length = 139 := by rw [zws_len]; rfl
    have hO1 : zOd D cD lo f H1 := zOd_fr (fun q h1 h2 => hs.2.1 q h1 (fun h3 => by have h4 := h3.2 139 rfl; omega)) hO
    refine va_dast (ws := zws lo K (zhp G') ++ zdw cD lo f) hx hb hKO (va_P.app hw.1 hO1) (zdw_D f hN) (zAdd_S hs) 139 0 (by rw [List.getElem?_append_right (by omega), hlen]; rfl) rfl (by unfold vp_in; decide) dL_greatestFill_6 (fun H2 L2 h1 h2 h3 => ?_)
    rw [show (zws lo K (zhp G') ++ zdw cD lo f).set 139 (lo + 140, .inl (cD, 1, .inr (.inr (.inr (.inl (vf_upd f (0 : Int32).toNatClampNeg (zGF (cS A) 8))))))) = zws lo K (zhp G') ++ zdw cD lo (vf_upd f (0 : Int32).toNatClampNeg (zGF (cS A) 8)) by rw [List.set_append_right _ _ (by omega), hlen]; rfl] at h1
    have hw1 : zWd D vwCl lo K (zhp G') H2 := ⟨fun k q hk => h1 k q (by rw [List.getElem?_append_left (List.getElem?_eq_some_iff.mp hk).1]; exact hk), Nat.le_trans hX.1.1.2 h3.1⟩
    have hO2 : zOd D cD lo (vf_upd f (0 : Int32).toNatClampNeg (zGF (cS A) 8)) H2 := fun k q hk => h1 (139 + k) q (by rw [List.getElem?_append_right (by omega), hlen, Nat.add_sub_cancel_left]; exact hk)
    refine lv_goto (tgt := 13) hx hb dL_greatestFill_7 (by decide) ?_
    refine lv_iconst (v := 0) hx hb dL_greatestFill_13 rfl ?_
    refine vx_ret ?_
    exact W.iret hx hb hret (fun t ht _ => ⟨rfl, by rw [ht]; exact hw1, h3.F ht, by rw [ht]; exact hO2⟩) h3.2.2 dL_greatestFill_14 hlk
  · rw [if_pos hne, if_pos hne]
    have hO1 : zOd D cD lo f H1 := zOd_fr (fun q h1 h2 => hs.2.1 q h1 (fun h3 => by have h4 := h3.2 139 rfl; omega)) hO
    have hs1 := zAdd_S hs
    refine vx_catch (own := "ShardRebalancerLaw") (name := zxE 4) (E := zxE 4) hown [] ⟨0, 7, 10, 66⟩ [] htab (fun z hz => nomatch hz) (by decide) (by decide) (hts _ (gw_of 728 (by decide +kernel))) (va_Nw.use rfl (hX.2.1 (.castable (zxE 4) (zxE 4)) (List.mem_of_getElem? (i := 7) rfl))) hce hcv hcl ?_
    refine lv_astore_n hx hb dL_greatestFill_10 rfl hlv (by decide) rfl (fun ls' h' => ?_)
    refine lv_iconst (v := 1) hx hb dL_greatestFill_11 rfl ?_
    refine vx_ret ?_
    exact W.iret hx hb hret (fun t ht _ => ⟨rfl, by rw [ht]; exact hw, hs1.F ht, by rw [ht]; exact hO1⟩) hs1.2.2 dL_greatestFill_12 hlk
end ZLAWG
