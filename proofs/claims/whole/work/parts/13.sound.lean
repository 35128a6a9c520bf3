section ZSOUND
variable {p : Program} {l : Launch} {e : Env} {R : Room} {s : State} {mi : MethodId} {args : Array Value} {below : List Frame} {meth : Method} {c : Code} {H : Heap} {locs : List Loc} {Q : State → Prop}
variable {Gw nst : List Jvm.Cond} {D : va_G} {cl : List vw_C} {K : Nat → ClassId} {lo n0 m0 : Nat} {me : zMe} {Mt : Nat → zMe} {fl : Bool} {nb : Option Nat}
set_option maxHeartbeats 4000000 in
set_option maxRecDepth 100000 in
theorem zstep (hfn : fl = true → nb = none) (C : zCx Gw nst D cl K lo me p R s mi args meth c) {M c' c2 : zCd} {el : zEl} {ls st ls2 st2 : List Value} {E E2 : zHp} {lsC : Array Slot} (hM : M = zco me) (hf : zFa Gw nst cl Mt me el) (hch : zfl el.2.2.1 = true → zpc c' = el.1 + el.2.1)
    (hst : zst M (el :: c') ls st E = some (.inl (c2, ls2, st2, E2))) (hL : zLv lo (zmL me) ls lsC) (hW : zWd D cl lo K E H) (hS : va_S (zA lo nb) s.heap H locs) (hnb : ∀ n, nb = some n → zN E ≤ n) (hex : fl = true → s.heap.size = lo + n0) (hal : fl = true ∨ zN E2 = zN E) (hn : n0 ≤ zN E) (hm : m0 ≤ zM E) (hrc : zN E2 - n0 ≤ R.cells) (hrs : zM E2 - m0 ≤ R.slots)
    (kk : ∀ (H2 : Heap) (locs2 : List Loc) (ls2C : Array Slot), zLv lo (zmL me) ls2 ls2C → zWd D cl lo K E2 H2 → va_S (zA lo nb) s.heap H2 locs2 → W p l e R s mi args below meth c H2 locs2 (zN E2 - n0) (zM E2 - m0) Q (F0 mi (zpc c2) ls2C (st2.map (zc lo)))) :
    W p l e R s mi args below meth c H locs (zN E - n0) (zM E - m0) Q (F0 mi el.1 lsC (st.map (zc lo))) := by
  obtain ⟨pc, len, i, x, z, y, t⟩ := el
  obtain ⟨hx, hb, hml, hown, hts, ⟨hK, hAO, hnst⟩, hin, hRf, hRl, hlo⟩ := C
  have hA : fl = true → ∀ q, s.heap.size ≤ q → zA lo nb q := fun h9 q h => ⟨Nat.le_trans hlo h, fun n hn => by rw [hfn h9] at hn; cases hn⟩
  have hD := zws_D lo nb K E hnb
  have hP := hW.1
  dsimp only at hch ⊢
  unfold zFa at hf
  cases i
  case iload k =>
    have hch := hch rfl
    simp only [zst] at hst
    split at hst
    · rename_i v hv
      simp only [znx, Option.some.injEq, Sum.inl.injEq, Prod.mk.injEq] at hst
      obtain ⟨rfl, rfl, rfl, rfl⟩ := hst
      rw [hch] at kk
      rcases hf with ⟨hd, rfl⟩ | ⟨f, hd, hk, rfl⟩
      · exact lv_iload hx hb hd (hL.int hv) (kk H locs lsC hL hW hS)
      · exact lv_iload_n hx hb hd hk (hL.int hv) (kk H locs lsC hL hW hS)
    · cases hst
  case aload k =>
    have hch := hch rfl
    simp only [zst] at hst
    split at hst
    · rename_i v hv
      simp only [znx, Option.some.injEq, Sum.inl.injEq, Prod.mk.injEq] at hst
      obtain ⟨rfl, rfl, rfl, rfl⟩ := hst
      rw [hch] at kk
      rcases hf with ⟨hd, rfl⟩ | ⟨f, hd, hk, rfl⟩
      · exact lv_aload hx hb hd (hL.ref hv) (kk H locs lsC hL hW hS)
      · exact lv_aload_n hx hb hd hk (hL.ref hv) (kk H locs lsC hL hW hS)
    · cases hst
  case istore k =>
    have hch := hch rfl
    simp only [zst] at hst
    split at hst
    · rename_i v s0
      split at hst
      · rename_i hk0
        simp only [znx, Option.some.injEq, Sum.inl.injEq, Prod.mk.injEq] at hst
        obtain ⟨rfl, rfl, rfl, rfl⟩ := hst
        rw [hch] at kk
        have hk1 : k < zmL me := by rw [← hL.1]; exact hk0
        rcases hf with ⟨hd, rfl⟩ | ⟨f, hd, hk, rfl⟩
        · exact lv_istore hx hb hd hL.2 hk1 rfl (fun ls' h' => kk H locs ls' (hL.set hk0 (Or.inl ⟨v, rfl, rfl⟩) h') hW hS)
        · exact lv_istore_n hx hb hd hk hL.2 hk1 rfl (fun ls' h' => kk H locs ls' (hL.set hk0 (Or.inl ⟨v, rfl, rfl⟩) h') hW hS)
      · cases hst
    · cases hst
  case astore k =>
    have hch := hch rfl
    simp only [zst] at hst
    split at hst
    · rename_i v s0
      split at hst
      · rename_i hk0
        simp only [znx, Option.some.injEq, Sum.inl.injEq, Prod.mk.injEq] at hst
        obtain ⟨rfl, rfl, rfl, rfl⟩ := hst
        rw [hch] at kk
        have hk1 : k < zmL me := by rw [← hL.1]; exact hk0
        rcases hf with ⟨hd, rfl⟩ | ⟨f, hd, hk, rfl⟩
        · exact lv_astore hx hb hd hL.2 hk1 rfl (fun ls' h' => kk H locs ls' (hL.set hk0 (Or.inr ⟨v, rfl, rfl⟩) h') hW hS)
        · exact lv_astore_n hx hb hd hk hL.2 hk1 rfl (fun ls' h' => kk H locs ls' (hL.set hk0 (Or.inr ⟨v, rfl, rfl⟩) h') hW hS)
      · cases hst
    · cases hst
  case iconst k =>
    have hch := hch rfl
    simp only [zst, znx, Option.some.injEq, Sum.inl.injEq, Prod.mk.injEq] at hst
    obtain ⟨rfl, rfl, rfl, rfl⟩ := hst
    rw [hch] at kk
    rcases hf with ⟨n, hd, hv, rfl⟩ | ⟨n, hd, hv, rfl⟩ | ⟨n, hd, hv, rfl⟩ | ⟨n, hd, hv, rfl⟩ | ⟨n, hd, hv, rfl⟩
    · exact lv_iconst hx hb hd hv (kk H locs lsC hL hW hS)
    · exact lv_bipush hx hb hd hv (kk H locs lsC hL hW hS)
    · exact lv_sipush hx hb hd hv (kk H locs lsC hL hW hS)
    · exact lv_ldc hx hb hown (hts _ hv) hd (kk H locs lsC hL hW hS)
    · exact lv_ldcw hx hb hown (hts _ hv) hd (kk H locs lsC hL hW hS)
  case aconst_null =>
    have hch := hch rfl
    simp only [zst, znx, Option.some.injEq, Sum.inl.injEq, Prod.mk.injEq] at hst
    obtain ⟨rfl, rfl, rfl, rfl⟩ := hst
    obtain ⟨hd, rfl⟩ := hf
    rw [hch] at kk
    exact lv_null hx hb hd (kk H locs lsC hL hW hS)
  case iinc k n =>
    have hch := hch rfl
    simp only [zst] at hst
    split at hst
    · rename_i v hv
      split at hst
      · rename_i hk0
        simp only [znx, Option.some.injEq, Sum.inl.injEq, Prod.mk.injEq] at hst
        obtain ⟨rfl, rfl, rfl, rfl⟩ := hst
        rw [hch] at kk
        have hk1 : k < zmL me := by rw [← hL.1]; exact hk0
        obtain ⟨n, hd, hv2, rfl⟩ := hf
        have hmem : (k, Value.int v) ∈ zlL lo ls := zlf_mem.mpr ⟨hk0, by simp [zlf, hv]⟩
        obtain ⟨k2, hk2⟩ := List.getElem?_of_mem hmem
        exact lv_iinc hx hb hd hL.2 hk2 (by rw [hv2]) hk1 rfl (fun ls' h' => kk H locs ls' (hL.set hk0 (Or.inl ⟨v + y, rfl, rfl⟩) h') hW hS)
      · cases hst
    · cases hst
  case iadd =>
    have hch := hch rfl
    simp only [zst] at hst
    split at hst
    · rename_i b a s0
      split at hst
      · rename_i v hv
        simp only [znx, Option.some.injEq, Sum.inl.injEq, Prod.mk.injEq] at hst
        obtain ⟨rfl, rfl, rfl, rfl⟩ := hst
        rw [hch] at kk
        obtain ⟨hd, rfl⟩ := hf
        cases hv
        exact lv_iadd hx hb hd (kk H locs lsC hL hW hS)
      · cases hst
    · cases hst
  case isub =>
    have hch := hch rfl
    simp only [zst] at hst
    split at hst
    · rename_i b a s0
      split at hst
      · rename_i v hv
        simp only [znx, Option.some.injEq, Sum.inl.injEq, Prod.mk.injEq] at hst
        obtain ⟨rfl, rfl, rfl, rfl⟩ := hst
        rw [hch] at kk
        obtain ⟨hd, rfl⟩ := hf
        cases hv
        exact lv_isub hx hb hd (kk H locs lsC hL hW hS)
      · cases hst
    · cases hst
  case imul =>
    have hch := hch rfl
    simp only [zst] at hst
    split at hst
    · rename_i b a s0
      split at hst
      · rename_i v hv
        simp only [znx, Option.some.injEq, Sum.inl.injEq, Prod.mk.injEq] at hst
        obtain ⟨rfl, rfl, rfl, rfl⟩ := hst
        rw [hch] at kk
        obtain ⟨hd, rfl⟩ := hf
        cases hv
        exact lv_imul hx hb hd (kk H locs lsC hL hW hS)
      · cases hst
    · cases hst
  case idiv =>
    have hch := hch rfl
    simp only [zst] at hst
    split at hst
    · rename_i b a s0
      split at hst
      · rename_i v hv
        simp only [znx, Option.some.injEq, Sum.inl.injEq, Prod.mk.injEq] at hst
        obtain ⟨rfl, rfl, rfl, rfl⟩ := hst
        rw [hch] at kk
        obtain ⟨hd, rfl⟩ := hf
        simp only [zbin] at hv
        split at hv
        · cases hv
        · rename_i hne
          cases hv
          exact lv_idiv hx hb hd hne (kk H locs lsC hL hW hS)
      · cases hst
    · cases hst
  case irem =>
    have hch := hch rfl
    simp only [zst] at hst
    split at hst
    · rename_i b a s0
      split at hst
      · rename_i v hv
        simp only [znx, Option.some.injEq, Sum.inl.injEq, Prod.mk.injEq] at hst
        obtain ⟨rfl, rfl, rfl, rfl⟩ := hst
        rw [hch] at kk
        obtain ⟨hd, rfl⟩ := hf
        simp only [zbin] at hv
        split at hv
        · cases hv
        · rename_i hne
          cases hv
          exact lv_irem hx hb hd hne (kk H locs lsC hL hW hS)
      · cases hst
    · cases hst
  case iand =>
    have hch := hch rfl
    simp only [zst] at hst
    split at hst
    · rename_i b a s0
      split at hst
      · rename_i v hv
        simp only [znx, Option.some.injEq, Sum.inl.injEq, Prod.mk.injEq] at hst
        obtain ⟨rfl, rfl, rfl, rfl⟩ := hst
        rw [hch] at kk
        obtain ⟨hd, rfl⟩ := hf
        cases hv
        exact lv_iand hx hb hd (kk H locs lsC hL hW hS)
      · cases hst
    · cases hst
  case ior =>
    have hch := hch rfl
    simp only [zst] at hst
    split at hst
    · rename_i b a s0
      split at hst
      · rename_i v hv
        simp only [znx, Option.some.injEq, Sum.inl.injEq, Prod.mk.injEq] at hst
        obtain ⟨rfl, rfl, rfl, rfl⟩ := hst
        rw [hch] at kk
        obtain ⟨hd, rfl⟩ := hf
        cases hv
        exact lv_ior hx hb hd (kk H locs lsC hL hW hS)
      · cases hst
    · cases hst
  case ixor =>
    have hch := hch rfl
    simp only [zst] at hst
    split at hst
    · rename_i b a s0
      split at hst
      · rename_i v hv
        simp only [znx, Option.some.injEq, Sum.inl.injEq, Prod.mk.injEq] at hst
        obtain ⟨rfl, rfl, rfl, rfl⟩ := hst
        rw [hch] at kk
        obtain ⟨hd, rfl⟩ := hf
        cases hv
        exact lv_ixor hx hb hd (kk H locs lsC hL hW hS)
      · cases hst
    · cases hst
  case ishl =>
    have hch := hch rfl
    simp only [zst] at hst
    split at hst
    · rename_i b a s0
      split at hst
      · rename_i v hv
        simp only [znx, Option.some.injEq, Sum.inl.injEq, Prod.mk.injEq] at hst
        obtain ⟨rfl, rfl, rfl, rfl⟩ := hst
        rw [hch] at kk
        obtain ⟨hd, rfl⟩ := hf
        cases hv
        exact lv_ishl hx hb hd (kk H locs lsC hL hW hS)
      · cases hst
    · cases hst
  case ishr =>
    have hch := hch rfl
    simp only [zst] at hst
    split at hst
    · rename_i b a s0
      split at hst
      · rename_i v hv
        simp only [znx, Option.some.injEq, Sum.inl.injEq, Prod.mk.injEq] at hst
        obtain ⟨rfl, rfl, rfl, rfl⟩ := hst
        rw [hch] at kk
        obtain ⟨hd, rfl⟩ := hf
        cases hv
        exact lv_ishr hx hb hd (kk H locs lsC hL hW hS)
      · cases hst
    · cases hst
  case iushr =>
    have hch := hch rfl
    simp only [zst] at hst
    split at hst
    · rename_i b a s0
      split at hst
      · rename_i v hv
        simp only [znx, Option.some.injEq, Sum.inl.injEq, Prod.mk.injEq] at hst
        obtain ⟨rfl, rfl, rfl, rfl⟩ := hst
        rw [hch] at kk
        obtain ⟨hd, rfl⟩ := hf
        cases hv
        exact lv_iushr hx hb hd rfl (kk H locs lsC hL hW hS)
      · cases hst
    · cases hst
  case if_icmp cd n =>
    have hch := hch rfl
    simp only [zst] at hst
    split at hst
    · rename_i b a s0
      obtain ⟨off, hd, ht, rfl, hz⟩ := hf
      subst hM
      split at hst
      · rename_i hc
        simp only [znx, Option.some.injEq, Sum.inl.injEq, Prod.mk.injEq] at hst
        obtain ⟨rfl, rfl, rfl, rfl⟩ := hst
        rw [zpc_jp hz] at kk
        have k2 := kk H locs lsC hL hW hS
        cases cd <;> simp only [zcd, decide_eq_true_eq] at hc
        · exact lv_icmp_eq hx hb hd ht (fun _ => k2) (fun h => absurd hc h)
        · exact lv_icmp_ne hx hb hd ht (fun _ => k2) (fun h => absurd h hc)
        · exact lv_icmp_lt hx hb hd ht (fun _ => k2) (fun h => absurd hc h)
        · exact lv_icmp_ge hx hb hd ht (fun _ => k2) (fun h => absurd hc h)
        · exact lv_icmp_gt hx hb hd ht (fun _ => k2) (fun h => absurd hc h)
        · exact lv_icmp_le hx hb hd ht (fun _ => k2) (fun h => absurd hc h)
      · rename_i hc
        simp only [znx, Option.some.injEq, Sum.inl.injEq, Prod.mk.injEq] at hst
        obtain ⟨rfl, rfl, rfl, rfl⟩ := hst
        rw [hch] at kk
        have k2 := kk H locs lsC hL hW hS
        cases cd <;> simp only [zcd, decide_eq_true_eq] at hc
        · exact lv_icmp_eq hx hb hd ht (fun h => absurd h hc) (fun _ => k2)
        · exact lv_icmp_ne hx hb hd ht (fun h => absurd h hc) (fun _ => k2)
        · exact lv_icmp_lt hx hb hd ht (fun h => absurd h hc) (fun _ => k2)
        · exact lv_icmp_ge hx hb hd ht (fun h => absurd h hc) (fun _ => k2)
        · exact lv_icmp_gt hx hb hd ht (fun h => absurd h hc) (fun _ => k2)
        · exact lv_icmp_le hx hb hd ht (fun h => absurd h hc) (fun _ => k2)
    · cases hst
  case ifCond cd n =>
    have hch := hch rfl
    simp only [zst] at hst
    split at hst
    · rename_i a s0
      obtain ⟨off, hd, ht, rfl, hz⟩ := hf
      subst hM
      split at hst
      · rename_i hc
        simp only [znx, Option.some.injEq, Sum.inl.injEq, Prod.mk.injEq] at hst
        obtain ⟨rfl, rfl, rfl, rfl⟩ := hst
        rw [zpc_jp hz] at kk
        have k2 := kk H locs lsC hL hW hS
        cases cd <;> simp only [zcd, decide_eq_true_eq] at hc
        · exact lv_if_eq hx hb hd ht (fun _ => k2) (fun h => absurd hc h)
        · exact lv_if_ne hx hb hd ht (fun _ => k2) (fun h => absurd h hc)
        · exact lv_if_lt hx hb hd ht (fun _ => k2) (fun h => absurd hc h)
        · exact lv_if_ge hx hb hd ht (fun _ => k2) (fun h => absurd hc h)
        · exact lv_if_gt hx hb hd ht (fun _ => k2) (fun h => absurd hc h)
        · exact lv_if_le hx hb hd ht (fun _ => k2) (fun h => absurd hc h)
      · rename_i hc
        simp only [znx, Option.some.injEq, Sum.inl.injEq, Prod.mk.injEq] at hst
        obtain ⟨rfl, rfl, rfl, rfl⟩ := hst
        rw [hch] at kk
        have k2 := kk H locs lsC hL hW hS
        cases cd <;> simp only [zcd, decide_eq_true_eq] at hc
        · exact lv_if_eq hx hb hd ht (fun h => absurd h hc) (fun _ => k2)
        · exact lv_if_ne hx hb hd ht (fun h => absurd h hc) (fun _ => k2)
        · exact lv_if_lt hx hb hd ht (fun h => absurd h hc) (fun _ => k2)
        · exact lv_if_ge hx hb hd ht (fun h => absurd h hc) (fun _ => k2)
        · exact lv_if_gt hx hb hd ht (fun h => absurd h hc) (fun _ => k2)
        · exact lv_if_le hx hb hd ht (fun h => absurd h hc) (fun _ => k2)
    · cases hst
  case ifnull n =>
    have hch := hch rfl
    simp only [zst] at hst
    obtain ⟨off, hd, ht, rfl, hz⟩ := hf
    subst hM
    split at hst
    · rename_i a s0
      simp only [znx, Option.some.injEq, Sum.inl.injEq, Prod.mk.injEq] at hst
      obtain ⟨rfl, rfl, rfl, rfl⟩ := hst
      rw [hch] at kk
      exact lv_ifnull hx hb hd (kk H locs lsC hL hW hS)
    · rename_i s0
      simp only [znx, Option.some.injEq, Sum.inl.injEq, Prod.mk.injEq] at hst
      obtain ⟨rfl, rfl, rfl, rfl⟩ := hst
      rw [zpc_jp hz] at kk
      exact lv_ifnullN hx hb hd ht (kk H locs lsC hL hW hS)
    · cases hst
  case goto n =>
    simp only [zst, znx, Option.some.injEq, Sum.inl.injEq, Prod.mk.injEq] at hst
    obtain ⟨rfl, rfl, rfl, rfl⟩ := hst
    obtain ⟨off, hd, ht, hz⟩ := hf
    subst hM
    rw [zpc_jp hz] at kk
    exact lv_goto hx hb hd ht (kk H locs lsC hL hW hS)
  case dup =>
    have hch := hch rfl
    simp only [zst] at hst
    obtain ⟨hd, rfl⟩ := hf
    split at hst
    · rename_i v s0
      simp only [znx, Option.some.injEq, Sum.inl.injEq, Prod.mk.injEq] at hst
      obtain ⟨rfl, rfl, rfl, rfl⟩ := hst
      rw [hch] at kk
      exact lv_dup hx hb hd rfl (kk H locs lsC hL hW hS)
    · rename_i v s0
      simp only [znx, Option.some.injEq, Sum.inl.injEq, Prod.mk.injEq] at hst
      obtain ⟨rfl, rfl, rfl, rfl⟩ := hst
      rw [hch] at kk
      exact lv_dup hx hb hd rfl (kk H locs lsC hL hW hS)
    · cases hst
  case dup2 =>
    have hch := hch rfl
    simp only [zst] at hst
    obtain ⟨hd, rfl⟩ := hf
    split at hst
    · rename_i b a s0
      simp only [znx, Option.some.injEq, Sum.inl.injEq, Prod.mk.injEq] at hst
      obtain ⟨rfl, rfl, rfl, rfl⟩ := hst
      rw [hch] at kk
      exact lv_dup2_11 hx hb hd rfl rfl (kk H locs lsC hL hW hS)
    · cases hst
  case pop =>
    have hch := hch rfl
    simp only [zst] at hst
    obtain ⟨hd, rfl⟩ := hf
    split at hst
    · rename_i v s0
      simp only [znx, Option.some.injEq, Sum.inl.injEq, Prod.mk.injEq] at hst
      obtain ⟨rfl, rfl, rfl, rfl⟩ := hst
      rw [hch] at kk
      exact lv_pop hx hb hd rfl (kk H locs lsC hL hW hS)
    · cases hst
  case getfield n =>
    have hch := hch rfl
    simp only [zst] at hst
    obtain ⟨idx, hd, rfl, C, T, N, hc, hk, hlk, hu⟩ := hf
    split at hst
    · rename_i a s0
      split at hst
      · rename_i v hv
        simp only [znx, Option.some.injEq, Sum.inl.injEq, Prod.mk.injEq] at hst
        obtain ⟨rfl, rfl, rfl, rfl⟩ := hst
        rw [hch] at kk
        obtain ⟨hp, fs, hs, hv2⟩ := zgf_at hv
        have hat := zws_get (lo := lo) (K := K) hp
        rw [hs] at hat
        exact va_get hx hb hts hu hown hK hP a hat hc z hk (hts _ hlk) (fun _ h => h) (hv2 lo) hd (kk H locs lsC hL hW hS)
      · cases hst
    · cases hst
  case putfield kd =>
    have hch2 := hch rfl
    clear hch
    simp only [zst] at hst
    obtain ⟨idx, hd, rfl, C, T, N, hc, hk, hlk, hu, ⟨ty0, hty, hk2⟩, hnm, hfin⟩ := hf
    split at hst
    · rename_i v a s0
      split at hst
      · rename_i hkd
        subst hkd
        split at hst
        · rename_i E' hE
          simp only [znx, Option.some.injEq, Sum.inl.injEq, Prod.mk.injEq] at hst
          obtain ⟨rfl, rfl, rfl, rfl⟩ := hst
          rw [hch2] at kk
          unfold zpf at hE
          split at hE
          · rename_i hp
            split at hE
            · rename_i ci fs hs
              split at hE
              · rename_i hci
                subst hci
                split at hE
                · rename_i x0 x1 x2 hf1 hf2
                  injection hf2 with hf2
                  subst hf2
                  split at hE
                  · cases hE
                  · rename_i hz
                    simp only [Option.some.injEq] at hE
                    subst hE
                    have hat := zws_get (lo := lo) (K := K) hp
                    rw [hs] at hat
                    have hfl : z < (zfs lo (zG E a) fs 0).length := by rw [zfs_len]; exact (List.getElem?_eq_some_iff.mp hf1).1
                    have hnf : narrow (ty0 z) (.int v) = .int v ∧ fits (ty0 z) (.int v) = true := by
                      rcases hk2 with ⟨-, ⟨h1, -⟩ | ⟨h1, h2⟩⟩ | ⟨h1, -⟩
                      · rw [h1]; exact ⟨rfl, rfl⟩
                      · rw [h1]
                        have h3 : v = 0 ∨ v = 1 := by
                          apply Classical.byContradiction
                          intro q; exact hz ⟨h2, q⟩
                        rcases h3 with rfl | rfl <;> exact ⟨rfl, rfl⟩
                      · cases h1
                    by_cases hfn : (T z).2.2.2 = true
                    · refine va_putF hx hb hts hu ty0 hty hnm hown hK hP hD hS a hat hc z hk (hts _ hlk) (fun _ h => h) hfn (hin (hfin hfn).1) (hfin hfn).2 (hty z hk) hnf.1 hnf.2 hfl hd (fun H1 L1 hP1 hD1 hS1 => ?_)
                      exact kk H1 L1 lsC hL (zWd.putG (g' := upd (zG E a) z v) hp (by rw [hs]; show Sum.inr (ci, (zfs lo (zG E a) fs 0).set z (Value.int v)) = _; rw [zfs_int hf1]; rfl) hP1) hS1
                    · refine va_put hx hb hts hu ty0 hty hnm hown hK hP hD hS a hat hc z hk (hts _ hlk) (fun _ h => h) ((Bool.not_eq_true _).mp hfn) (hty z hk) hnf.1 hnf.2 hfl hd (fun H1 L1 hP1 hD1 hS1 => ?_)
                      exact kk H1 L1 lsC hL (zWd.putG (g' := upd (zG E a) z v) hp (by rw [hs]; show Sum.inr (ci, (zfs lo (zG E a) fs 0).set z (Value.int v)) = _; rw [zfs_int hf1]; rfl) hP1) hS1
                · rename_i hf2; cases hf2
                · cases hE
              · cases hE
            · cases hE
          · cases hE
        · cases hst
      · cases hst
    · rename_i v a s0
      split at hst
      · rename_i hkd
        subst hkd
        split at hst
        · rename_i E' hE
          simp only [znx, Option.some.injEq, Sum.inl.injEq, Prod.mk.injEq] at hst
          obtain ⟨rfl, rfl, rfl, rfl⟩ := hst
          rw [hch2] at kk
          unfold zpf at hE
          split at hE
          · rename_i hp
            split at hE
            · rename_i ci fs hs
              split at hE
              · rename_i hci
                subst hci
                split at hE
                · rename_i hf2; cases hf2
                · rename_i x0 x1 x2 x3 hf1 hf2
                  injection hf2 with hf2
                  subst hf2
                  split at hE
                  · rename_i hq
                    simp only [Option.some.injEq] at hE
                    subst hE
                    have hat := zws_get (lo := lo) (K := K) hp
                    rw [hs] at hat
                    have hfl0 : z < fs.length := (List.getElem?_eq_some_iff.mp hf1).1
                    have hfl : z < (zfs lo (zG E a) fs 0).length := by rw [zfs_len]; exact hfl0
                    have hnf : narrow (ty0 z) (.ref (lo + v)) = .ref (lo + v) ∧ fits (ty0 z) (.ref (lo + v)) = true := by
                      rcases hk2 with ⟨h1, -⟩ | ⟨-, ⟨n, h1⟩ | ⟨n, h1⟩⟩
                      · cases h1
                      · rw [h1]; exact ⟨rfl, rfl⟩
                      · rw [h1]; exact ⟨rfl, rfl⟩
                    have hput : ∀ H1 : Heap, va_P D cl ((zws lo K E).set a (lo + a, .inr (ci, (zfs lo (zG E a) fs 0).set z (.ref (lo + v))))) H1 → zWd D cl lo K (zN E, zM E, va_up (zS E) a (.inr (.inr (ci, fs.set z (some (some v))))), zG E) H1 := fun H1 hP1 => by
                      have h := zWd.put (s' := .inr (.inr (ci, fs.set z (some (some v))))) (g' := zG E a) hp (by rw [zfs_ref hfl0]; rfl) hP1
                      rw [zup_self] at h
                      exact h
                    by_cases hfn : (T z).2.2.2 = true
                    · refine va_putF hx hb hts hu ty0 hty hnm hown hK hP hD hS a hat hc z hk (hts _ hlk) (fun _ h => h) hfn (hin (hfin hfn).1) (hfin hfn).2 (hty z hk) hnf.1 hnf.2 hfl hd (fun H1 L1 hP1 hD1 hS1 => ?_)
                      exact kk H1 L1 lsC hL (hput H1 hP1) hS1
                    · refine va_put hx hb hts hu ty0 hty hnm hown hK hP hD hS a hat hc z hk (hts _ hlk) (fun _ h => h) ((Bool.not_eq_true _).mp hfn) (hty z hk) hnf.1 hnf.2 hfl hd (fun H1 L1 hP1 hD1 hS1 => ?_)
                      exact kk H1 L1 lsC hL (hput H1 hP1) hS1
                  · cases hE
                · cases hE
              · cases hE
            · cases hE
          · cases hE
        · cases hst
      · cases hst
    · cases hst
  case iaload =>
    have hch := hch rfl
    simp only [zst] at hst
    obtain ⟨hd, rfl⟩ := hf
    split at hst
    · rename_i i a s0
      split at hst
      · rename_i n hn0
        split at hst
        · rename_i hi
          simp only [znx, Option.some.injEq, Sum.inl.injEq, Prod.mk.injEq] at hst
          obtain ⟨rfl, rfl, rfl, rfl⟩ := hst
          rw [hch] at kk
          obtain ⟨hp, hs⟩ := zar_at hn0
          have hat := zws_get (lo := lo) (K := K) hp
          rw [hs] at hat
          exact va_iald hx hb hK hP a 0 hat rfl (zi_in hi) hd (kk H locs lsC hL hW hS)
        · cases hst
      · cases hst
    · cases hst
  case caload =>
    have hch := hch rfl
    simp only [zst] at hst
    obtain ⟨hd, rfl⟩ := hf
    split at hst
    · rename_i i a s0
      split at hst
      · rename_i n hn0
        split at hst
        · rename_i hi
          simp only [znx, Option.some.injEq, Sum.inl.injEq, Prod.mk.injEq] at hst
          obtain ⟨rfl, rfl, rfl, rfl⟩ := hst
          rw [hch] at kk
          obtain ⟨hp, hs⟩ := zar_at hn0
          have hat := zws_get (lo := lo) (K := K) hp
          rw [hs] at hat
          exact va_cald hx hb hK hP a 1 hat rfl (zi_in hi) hd (kk H locs lsC hL hW hS)
        · cases hst
      · cases hst
    · cases hst
  case iastore =>
    have hch := hch rfl
    simp only [zst] at hst
    obtain ⟨hd, rfl⟩ := hf
    split at hst
    · rename_i v i a s0
      split at hst
      · rename_i n hn0
        split at hst
        · rename_i hi
          simp only [znx, Option.some.injEq, Sum.inl.injEq, Prod.mk.injEq] at hst
          obtain ⟨rfl, rfl, rfl, rfl⟩ := hst
          rw [hch] at kk
          obtain ⟨hp, hs⟩ := zar_at hn0
          have hat := zws_get (lo := lo) (K := K) hp
          rw [hs] at hat
          exact va_iast hx hb hK hP hD hS a 0 hat rfl (zi_in hi) hd (fun H1 L1 hP1 hD1 hS1 => kk H1 L1 lsC hL (zWd.putG (g' := upd (zG E a) i.toNatClampNeg v) hp (by rw [hs]; rfl) hP1) hS1)
        · cases hst
      · cases hst
    · cases hst
  case castore =>
    have hch := hch rfl
    simp only [zst] at hst
    obtain ⟨hd, rfl⟩ := hf
    split at hst
    · rename_i v i a s0
      split at hst
      · rename_i n hn0
        split at hst
        · rename_i hi
          simp only [znx, Option.some.injEq, Sum.inl.injEq, Prod.mk.injEq] at hst
          obtain ⟨rfl, rfl, rfl, rfl⟩ := hst
          rw [hch] at kk
          obtain ⟨hp, hs⟩ := zar_at hn0
          have hat := zws_get (lo := lo) (K := K) hp
          rw [hs] at hat
          exact va_cast hx hb hK hP hD hS a 1 hat rfl (zi_in hi) hd (fun H1 L1 hP1 hD1 hS1 => kk H1 L1 lsC hL (zWd.putG (g' := upd (zG E a) i.toNatClampNeg (vp_nar .char v)) hp (by rw [hs]; rfl) hP1) hS1)
        · cases hst
      · cases hst
    · cases hst
  case arraylength =>
    have hch := hch rfl
    simp only [zst] at hst
    obtain ⟨hd, rfl⟩ := hf
    split at hst
    · rename_i a s0
      split at hst
      · rename_i n hn0
        simp only [znx, Option.some.injEq, Sum.inl.injEq, Prod.mk.injEq] at hst
        obtain ⟨rfl, rfl, rfl, rfl⟩ := hst
        rw [hch] at kk
        unfold zln at hn0
        split at hn0
        · rename_i hp
          have hat := zws_get (lo := lo) (K := K) hp
          split at hn0
          · rename_i k n' hs
            split at hn0
            · rename_i hk1
              cases hn0
              rw [hs] at hat
              by_cases h0 : k = 0
              · subst h0
                exact va_alen hx hb hK hP a 0 hat (ty := .int) rfl rfl hd (kk H locs lsC hL hW hS)
              · have h1 : k = 1 := by omega
                subst h1
                exact va_alen hx hb hK hP a 1 hat (ty := .char) rfl rfl hd (kk H locs lsC hL hW hS)
            · cases hn0
          · rename_i n' f hs
            cases hn0
            rw [hs] at hat
            exact va_alen hx hb hK hP a 2 hat (ty := .object "ShardRebalancer$Store") rfl rfl hd (kk H locs lsC hL hW hS)
          · cases hn0
        · cases hn0
      · cases hst
    · cases hst
  case aaload =>
    have hch := hch rfl
    simp only [zst] at hst
    obtain ⟨hd, rfl⟩ := hf
    split at hst
    · rename_i i a s0
      split at hst
      · rename_i n f hn0
        split at hst
        · rename_i hi
          simp only [znx, Option.some.injEq, Sum.inl.injEq, Prod.mk.injEq] at hst
          obtain ⟨rfl, rfl, rfl, rfl⟩ := hst
          rw [hch] at kk
          obtain ⟨hp, hs⟩ := zqr_at hn0
          have hat := zws_get (lo := lo) (K := K) hp
          rw [hs] at hat
          have k2 := kk H locs lsC hL hW hS
          rw [List.map_cons, zc_rf] at k2
          exact va_aldq hx hb hK hP a 2 hat rfl (zi_in hi) hd k2
        · cases hst
      · cases hst
    · cases hst
  case aastore =>
    have hch := hch rfl
    simp only [zst] at hst
    obtain ⟨hd, rfl, T6, N6, hc6⟩ := hf
    split at hst
    · rename_i v i a s0
      split at hst
      · rename_i n f hn0
        split at hst
        · rename_i hi
          simp only [znx, Option.some.injEq, Sum.inl.injEq, Prod.mk.injEq] at hst
          obtain ⟨rfl, rfl, rfl, rfl⟩ := hst
          rw [hch] at kk
          obtain ⟨hp, hs⟩ := zqr_at hn0
          obtain ⟨hpv, fsv, hsv⟩ := zob_at hi.2
          have hat := zws_get (lo := lo) (K := K) hp
          rw [hs] at hat
          have hav := zws_get (lo := lo) (K := K) hpv
          rw [hsv] at hav
          refine va_astq hx hb hK hP hD hS a 2 v 6 (r := ("ShardRebalancer$Store", T6, N6)) hat rfl hav hc6 (zi_in hi.1) hd (fun H1 L1 hP1 hD1 hS1 => ?_)
          refine kk H1 L1 lsC hL ?_ hS1
          have h := zWd.put (s' := .inr (.inl (n, va_up f i.toNatClampNeg (some v)))) (g' := zG E a) hp (by rw [zcell, zc_up]) hP1
          rw [zup_self] at h
          exact h
        · cases hst
      · cases hst
    · cases hst
  case tableswitch a1 a2 a3 a4 =>
    simp only [zst] at hst
    obtain ⟨dflt, lo', hi, offs, hd, htb, hhi, hdf, hz, hbl⟩ := hf
    subst hM
    split at hst
    · rename_i v s0
      simp only [znx, Option.some.injEq, Sum.inl.injEq, Prod.mk.injEq] at hst
      obtain ⟨rfl, rfl, rfl, rfl⟩ := hst
      rw [zpc_jp (hz v)] at kk
      have k2 := kk H locs lsC hL hW hS
      by_cases h1 : v.toInt < lo'
      · exact lv_tableOut hx hb hd (Or.inl h1) (by rw [hbl v h1]; exact hdf) k2
      · have h3 := ztb_sw (d := x) htb (by omega : lo' + ((0 : Nat) : Int) ≤ v.toInt)
        by_cases h2 : hi < v.toInt
        · exact lv_tableOut hx hb hd (Or.inr h2) (by rw [h3.2 (by omega)]; exact hdf) k2
        · obtain ⟨off, ho, ht⟩ := h3.1 (by omega)
          exact lv_tableIn hx hb hd h1 h2 ho ht k2
    · cases hst
  case lookupswitch a1 a2 =>
    simp only [zst] at hst
    obtain ⟨dflt, ps, hd, hps, hdf, hpl, hz⟩ := hf
    subst hM
    split at hst
    · rename_i v s0
      simp only [znx, Option.some.injEq, Sum.inl.injEq, Prod.mk.injEq] at hst
      obtain ⟨rfl, rfl, rfl, rfl⟩ := hst
      rw [zpc_jp (hz v)] at kk
      have k2 := kk H locs lsC hL hW hS
      exact lv_lookup hx hb hd hps rfl (by rw [hpl]; exact zlk_sw hdf t) k2
    · cases hst
  case invokedynamic idx0 =>
    have hch := hch rfl
    simp only [zst] at hst
    obtain ⟨idx, hd, rfl, hlk, hnat, hstt, hini, hf1, hf2⟩ := hf
    split at hst
    · rename_i n dp q sp a s0
      split at hst
      · rename_i E' hE
        split at hst
        · rename_i hlen
          simp only [znx, Option.some.injEq, Sum.inl.injEq, Prod.mk.injEq] at hst
          obtain ⟨rfl, rfl, rfl, rfl⟩ := hst
          rw [hch] at kk
          unfold zcp at hE
          split at hE
          · rename_i n1 n2 hn1 hn2
            split at hE
            · rename_i hcond
              cases hE
              obtain ⟨h1, h2, h3, h4, h5⟩ := hcond
              obtain ⟨hp1, hs1⟩ := zar_at hn1
              obtain ⟨hp2, hs2⟩ := zar_at hn2
              have hat1 := zws_get (lo := lo) (K := K) hp1
              rw [hs1] at hat1
              have hat2 := zws_get (lo := lo) (K := K) hp2
              rw [hs2] at hat2
              refine va_copyi hx hb (hml.trans hL.2.1.symm) hown (hts _ hlk) (hts _ hnat) (hts _ hstt) (hts _ hini) hK hP hD hS a q 0 0 hat1 hat2 rfl rfl rfl h1 h2 h3 h4 h5 (fun _ _ => rfl) (by omega) ?_ hd (fun H1 L1 hP1 hD1 hS1 => ?_)
              · rw [zc_sum]
                have : nativeFrameWords "java/lang/System" "arraycopy" 5 ≤ 7 := by decide
                omega
              · exact kk H1 L1 lsC hL (zWd.putG hp2 (by rw [hs2]; rfl) hP1) hS1
            · cases hE
          · cases hE
        · cases hst
      · cases hst
    · cases hst
  case monitorexit =>
    have hch := hch rfl
    simp only [zst] at hst
    obtain ⟨idx, hd, rfl, hlk, hinst, hcode, hf1, hf2⟩ := hf
    split at hst
    · rename_i a s0
      split at hst
      · rename_i hlen
        simp only [znx, Option.some.injEq, Sum.inl.injEq, Prod.mk.injEq] at hst
        obtain ⟨rfl, rfl, rfl, rfl⟩ := hst
        rw [hch] at kk
        refine W.objInit hx hb hown (hts _ hlk) (hts _ hinst) (hts _ hcode) rfl (by rw [hml]; exact hL.2.1) rfl hd (by omega) ?_ ?_
        · show 2 * 0 + _ + 12 ≤ _
          rw [zc_sum]
          omega
        · exact W.eq (g2 := F0 mi (pc + 3) lsC (s0.map (zc lo))) rfl (kk H locs lsC hL hW hS)
      · cases hst
    · cases hst
  case new idx0 =>
    have hch := hch rfl
    simp only [zst, znx, Option.some.injEq, Sum.inl.injEq, Prod.mk.injEq] at hst
    obtain ⟨rfl, rfl, rfl, rfl⟩ := hst
    obtain ⟨idx, C, T, N, ty, hd, rfl, hc, hty, hdv, hlen, hlk, hinst, hini, hu⟩ := hf
    rw [hch] at kk
    generalize hks : (t.map (fun e => if e.2 = 0 then (none : Option (Option Nat)) else some none)) = kd at *
    have hfl : fl = true := by
      rcases hal with h | h
      · exact h
      · exact absurd h (Nat.succ_ne_self _)
    have hexx : s.heap.size = lo + n0 := by
      rcases hal with h | h
      · exact hex h
      · exact absurd h (Nat.succ_ne_self _)
    have e1 : zN (znw E (.inr (.inr (x, kd))) t.length) - n0 = zN E - n0 + 1 := by show zN E + 1 - n0 = _; omega
    have e2 : zM (znw E (.inr (.inr (x, kd))) t.length) - m0 = zM E - m0 + N := by rw [hlen]; show zM E + N - m0 = _; omega
    rw [e1] at hrc
    rw [e2] at hrs
    rw [e1, e2] at kk
    refine va_new (ci := x) (fs := zfs lo (fun _ => 0) kd 0) hx hb hts hu ty hty hown (hts _ hlk) (hts _ hinst) (hts _ hini) hK hP hD hS (hA hfl) hc (fun j hj => hdv lo _ j hj rfl) hrc hrs hd (fun q H1 hP1 hD1 hS1 => ?_)
    refine zW_sz (fun hz => ?_)
    obtain ⟨rfl, hW1⟩ := zWd.new (s' := .inr (.inr (x, kd))) (n := t.length) rfl hP1 hD1 (by omega)
    exact kk H1 _ lsC hL hW1 hS1
  case newarray at0 =>
    have hch := hch rfl
    simp only [zst] at hst
    obtain ⟨rfl, hf⟩ := hf
    split at hst
    · rename_i n s0
      split at hst
      · rename_i hnn
        simp only [znx, Option.some.injEq, Sum.inl.injEq, Prod.mk.injEq] at hst
        obtain ⟨rfl, rfl, rfl, rfl⟩ := hst
        rw [hch] at kk
        have hfl : fl = true := by
          rcases hal with h | h
          · exact h
          · exact absurd h (Nat.succ_ne_self _)
        have hexx : s.heap.size = lo + n0 := by
          rcases hal with h | h
          · exact hex h
          · exact absurd h (Nat.succ_ne_self _)
        have e1 : zN (znw E (.inl (x, n.toNatClampNeg)) n.toNatClampNeg) - n0 = zN E - n0 + 1 := by show zN E + 1 - n0 = _; omega
        have e2 : zM (znw E (.inl (x, n.toNatClampNeg)) n.toNatClampNeg) - m0 = zM E - m0 + n.toNatClampNeg := by show zM E + n.toNatClampNeg - m0 = _; omega
        rw [e1] at hrc
        rw [e2] at hrs
        rw [e1, e2] at kk
        rcases hf with ⟨rfl, hd, harr⟩ | ⟨rfl, hd, harr⟩
        · refine va_newa (atype := .int) (N' := n.toNatClampNeg) (a0 := (n.toNatClampNeg, .inl (fun _ => 0))) hx hb (hts _ harr) rfl hK hP hD hS (hA hfl) (fun _ => rfl) hnn.1 rfl (by show n.toNatClampNeg * 4 ≤ _; omega) hrc hrs hd (fun q cA H1 hK1 hP1 hD1 hS1 => ?_)
          have hcA : cA = K 0 := by
            have h1 : va_RA s cA .int := (hK1.2 3 (cA, .int) rfl).2
            have h2 : va_RA s (K 0) .int := (hK.2 0 (K 0, .int) rfl).2
            exact Option.some.inj (Eq.trans (Eq.symm h1) h2)
          subst hcA
          refine zW_sz (fun hz => ?_)
          obtain ⟨rfl, hW1⟩ := zWd.new (s' := .inl (0, n.toNatClampNeg)) (n := n.toNatClampNeg) rfl hP1 hD1 (by omega)
          exact kk H1 _ lsC hL hW1 hS1
        · refine va_newa (atype := .char) (N' := n.toNatClampNeg) (a0 := (n.toNatClampNeg, .inl (fun _ => 0))) hx hb (hts _ harr) rfl hK hP hD hS (hA hfl) (fun _ => rfl) hnn.1 rfl (by show n.toNatClampNeg * 2 ≤ _; omega) hrc hrs hd (fun q cA H1 hK1 hP1 hD1 hS1 => ?_)
          have hcA : cA = K 1 := by
            have h1 : va_RA s cA .char := (hK1.2 3 (cA, .char) rfl).2
            have h2 : va_RA s (K 1) .char := (hK.2 1 (K 1, .char) rfl).2
            exact Option.some.inj (Eq.trans (Eq.symm h1) h2)
          subst hcA
          refine zW_sz (fun hz => ?_)
          obtain ⟨rfl, hW1⟩ := zWd.new (s' := .inl (1, n.toNatClampNeg)) (n := n.toNatClampNeg) rfl hP1 hD1 (by omega)
          exact kk H1 _ lsC hL hW1 hS1
      · cases hst
    · cases hst
  case anewarray idx0 =>
    have hch := hch rfl
    simp only [zst] at hst
    obtain ⟨idx, hd, rfl, hlk⟩ := hf
    split at hst
    · rename_i n s0
      split at hst
      · rename_i hnn
        simp only [znx, Option.some.injEq, Sum.inl.injEq, Prod.mk.injEq] at hst
        obtain ⟨rfl, rfl, rfl, rfl⟩ := hst
        rw [hch] at kk
        have hfl : fl = true := by
          rcases hal with h | h
          · exact h
          · exact absurd h (Nat.succ_ne_self _)
        have hexx : s.heap.size = lo + n0 := by
          rcases hal with h | h
          · exact hex h
          · exact absurd h (Nat.succ_ne_self _)
        have e1 : zN (znw E (.inr (.inl (n.toNatClampNeg, fun _ => none))) n.toNatClampNeg) - n0 = zN E - n0 + 1 := by show zN E + 1 - n0 = _; omega
        have e2 : zM (znw E (.inr (.inl (n.toNatClampNeg, fun _ => none))) n.toNatClampNeg) - m0 = zM E - m0 + n.toNatClampNeg := by show zM E + n.toNatClampNeg - m0 = _; omega
        rw [e1] at hrc
        rw [e2] at hrs
        rw [e1, e2] at kk
        refine va_newq (C := "ShardRebalancer$Store") (N' := n.toNatClampNeg) hx hb hown (hts _ hlk) hAO hK hP hD hS (hA hfl) hnn.1 rfl (by omega) hrc hrs hd (fun q cA H1 hK1 hP1 hD1 hS1 => ?_)
        have hcA : cA = K 2 := by
          have h1 : va_RA s cA (.object "ShardRebalancer$Store") := (hK1.2 3 (cA, .object "ShardRebalancer$Store") rfl).2
          have h2 : va_RA s (K 2) (.object "ShardRebalancer$Store") := (hK.2 2 (K 2, .object "ShardRebalancer$Store") rfl).2
          obtain ⟨_, _, _, _, _, h1⟩ := h1
          obtain ⟨_, _, _, _, _, h2⟩ := h2
          exact Option.some.inj (Eq.trans (Eq.symm h1) h2)
        subst hcA
        refine zW_sz (fun hz => ?_)
        obtain ⟨rfl, hW1⟩ := zWd.new (s' := .inr (.inl (n.toNatClampNeg, fun _ => none))) (n := n.toNatClampNeg) rfl hP1 hD1 (by omega)
        exact kk H1 _ lsC hL hW1 hS1
      · cases hst
    · cases hst
  case f2i =>
    have hch := hch rfl
    simp only [zst] at hst
    obtain ⟨idx, hd, rfl, hlk, hstt, hini, hcode, hf1, hf2⟩ := hf
    split at hst
    · rename_i b a s0
      split at hst
      · rename_i hlen
        simp only [znx, Option.some.injEq, Sum.inl.injEq, Prod.mk.injEq] at hst
        obtain ⟨rfl, rfl, rfl, rfl⟩ := hst
        rw [hch] at kk
        exact va_mmax hx hb (hml.trans hL.2.1.symm) hown (hts _ hlk) (hts _ hstt) (hts _ hini) (hts _ hcode) (by omega) (by rw [zc_sum]; omega) hrc hrs hd (kk H locs lsC hL hW hS)
      · cases hst
    · cases hst
  case d2i =>
    have hch := hch rfl
    simp only [zst] at hst
    obtain ⟨idx, hd, rfl, hlk, hstt, hini, hcode, hf1, hf2⟩ := hf
    split at hst
    · rename_i b a s0
      split at hst
      · rename_i hlen
        simp only [znx, Option.some.injEq, Sum.inl.injEq, Prod.mk.injEq] at hst
        obtain ⟨rfl, rfl, rfl, rfl⟩ := hst
        rw [hch] at kk
        exact va_mmin hx hb (hml.trans hL.2.1.symm) hown (hts _ hlk) (hts _ hstt) (hts _ hini) (hts _ hcode) (by omega) (by rw [zc_sum]; omega) hrc hrs hd (kk H locs lsC hL hW hS)
      · cases hst
    · cases hst
  case invokevirtual ci =>
    simp only [zst, zcl] at hst
    split at hst
    · split at hst
      · split at hst <;> cases hst
      · cases hst
    · cases hst
  case invokestatic n =>
    simp only [zst, zcl] at hst
    split at hst <;> cases hst
  case invokespecial n =>
    simp only [zst, zcl] at hst
    split at hst
    · split at hst <;> cases hst
    · cases hst
  case ireturn =>
    simp only [zst] at hst
    split at hst
    · split at hst <;> cases hst
    · cases hst
  case areturn =>
    simp only [zst] at hst
    split at hst <;> cases hst
  case return_ =>
    simp only [zst] at hst
    split at hst <;> cases hst
  case athrow =>
    simp only [zst] at hst
    split at hst <;> cases hst
  all_goals exact absurd hst (by intro h; simp only [zst] at h; cases h)
end ZSOUND
