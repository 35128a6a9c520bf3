/-! ===== greatestFill, of both (printed by wip/whole/gen_fill.py) ===== -/
section ZFILL
/-- a fill: owned shards through capacity -/
def zFL (a b : Nat) : UInt64 := FP.ddiv (FP.i2d (nI a)) (FP.i2d (nI b))
theorem zFL_n : ∀ a, a ≤ 32 → ∀ b, b ≤ 65 → (1 ≤ b → zFL a b &&& 0x7fffffffffffffff ≤ 0x7ff0000000000000) := by decide +kernel
theorem zFL_0 : ∀ a, a ≤ 32 → ∀ b, b ≤ 65 → (1 ≤ b → Op.cmpValue (FP.dcmp FP.dconst0 (zFL a b)) .l ≤ 0) := by decide +kernel
theorem zFL_e : ∀ a, a ≤ 32 → ∀ b, b ≤ 65 → (1 ≤ b → Op.cmpValue (FP.dcmp (zFL a b) (zFL a b)) .l = 0) := by decide +kernel
def zFv (x : UInt64) : Prop := x = FP.dconst0 ∨ ∃ a b, a ≤ 32 ∧ b ≤ 65 ∧ 1 ≤ b ∧ x = zFL a b
theorem zFv.z {x : UInt64} (h : zFv x) : Op.cmpValue (FP.dcmp FP.dconst0 x) .l ≤ 0 := by
  rcases h with rfl | ⟨a, b, h1, h2, h3, rfl⟩
  · decide +kernel
  · exact zFL_0 a h1 b h2 h3
theorem zFv.e {x : UInt64} (h : zFv x) : Op.cmpValue (FP.dcmp x x) .l = 0 := by
  rcases h with rfl | ⟨a, b, h1, h2, h3, rfl⟩
  · decide +kernel
  · exact zFL_e a h1 b h2 h3
def zMx (x y : UInt64) : UInt64 := if Op.cmpValue (FP.dcmp x y) .l ≤ 0 then y else x
def zca (S : zSt) (n : Nat) : Nat := (zCp (sN S) (sW S) (sC S 0) n).toNatClampNeg
/-- the greatest of the first n nodes -/
def zGF (S : zSt) : Nat → UInt64
  | 0 => FP.dconst0
  | n + 1 => if sN S n = 1 then zMx (zFL (zOwd S (nI n)) (zca S n)) (zGF S n) else zGF S n
theorem zca_b {S : zSt} (hg : zGo S) {n : Nat} (hn : n < 8) (hN : sN S n = 1) : zCp (sN S) (sW S) (sC S 0) n = nI (zca S n) ∧ 1 ≤ zca S n ∧ zca S n ≤ 65 := by
  obtain ⟨h1, h2⟩ := zCp_n hg.2.1 (sC S 0) hn hN
  obtain ⟨w, hw, e, -⟩ := hg.2.1 n hn
  obtain ⟨q, hq, eq⟩ := hg.2.2.2.1
  have h3 := zaw_ge hN hw e 8 hn
  have hb := zaw_b (N := sN S) hg.2.1.w 8 (Nat.le_refl _)
  have hm : 32 * w * (100 + q) ≤ 64 * (100 * zaw (sN S) (sW S) 8) := by
    have a1 : 32 * w * (100 + q) ≤ 32 * w * 200 := Nat.mul_le_mul_left _ (by omega)
    omega
  have hd : 32 * w * (100 + q) / (100 * zaw (sN S) (sW S) 8) ≤ 64 := Nat.div_le_of_le_mul (by rw [Nat.mul_comm (100 * _) 64]; exact hm)
  have hm2 : 32 * w * (100 + q) < 2 ^ 31 := by omega
  have e2 : zCp (sN S) (sW S) (sC S 0) n = nI (1 + 32 * w * (100 + q) / (100 * zaw (sN S) (sW S) 8)) := by
    rw [h2, e, eq, zmul, nI_add, zmul, zmul, zdiv (a := 32 * w * (100 + q)) (b := 100 * zaw (sN S) (sW S) 8) (by omega) (by omega) (by omega), show (1 : Int32) = nI 1 from rfl, nI_add]
  have e3 : zca S n = 1 + 32 * w * (100 + q) / (100 * zaw (sN S) (sW S) 8) := by
    unfold zca
    rw [e2]
    exact zcl_n (by omega)
  rw [e3]
  exact ⟨e2, Nat.le_add_right 1 _, Nat.add_le_add_left hd 1⟩
theorem zOwd_b (S : zSt) (x : Int32) : zOwd S x ≤ 32 := zct_le _ 32
theorem zFL_v {S : zSt} (hg : zGo S) {n : Nat} (hn : n < 8) (hN : sN S n = 1) : zFv (zFL (zOwd S (nI n)) (zca S n)) := Or.inr ⟨_, _, zOwd_b S _, (zca_b hg hn hN).2.2, (zca_b hg hn hN).2.1, rfl⟩
theorem zGF_v {S : zSt} (hg : zGo S) : ∀ n, n ≤ 8 → zFv (zGF S n)
  | 0, _ => Or.inl rfl
  | n + 1, h => by
    have ih := zGF_v hg n (by omega)
    rw [zGF]
    split
    · rename_i hN
      unfold zMx
      split
      · exact ih
      · exact zFL_v hg (by omega) hN
    · exact ih
theorem zGF_1 {S : zSt} {n : Nat} (hN : sN S n = 1) (h : Op.cmpValue (FP.dcmp (zFL (zOwd S (nI n)) (zca S n)) (zGF S n)) .l ≤ 0) : zGF S (n + 1) = zGF S n := by rw [zGF, if_pos hN, zMx, if_pos h]
theorem zGF_2 {S : zSt} {n : Nat} (hN : sN S n = 1) (h : ¬ Op.cmpValue (FP.dcmp (zFL (zOwd S (nI n)) (zca S n)) (zGF S n)) .l ≤ 0) : zGF S (n + 1) = zFL (zOwd S (nI n)) (zca S n) := by rw [zGF, if_pos hN, zMx, if_neg h]
theorem zGF_3 {S : zSt} {n : Nat} (hN : ¬ sN S n = 1) : zGF S (n + 1) = zGF S n := by rw [zGF, if_neg hN]
section
variable {p : Program} {l : Launch} {e : Env} {R : Room} {s : State} {m : MethodId} {args : Array Value} {below : List Frame} {meth : Method} {c : Code} {H : Heap} {locs : List Loc} {Q : State → Prop} {cc : ByteArray} {nL cells slots : Nat}
variable {D : va_G} {K : Nat → ClassId} {lo : Nat} {nb : Option Nat} {A0 : Nat → Prop} {H0 : Heap}
theorem zmetC {j : Nat} {as : List Value} {E E' : zHp} {v : Option Value} (h : zcal zTT j as E = some (v, E')) (hlen : as.length ≤ zmL (zMt j)) (hN : zN E' = zN E) (hnb : ∀ n, nb = some n → zN E' ≤ n) : zMet zGw zNs l D vwCl K lo nb false (zMt j) as E v E' := by
  obtain ⟨n, hn⟩ := zcal_to h
  exact zmet (fun h => absurd h (by decide)) zGw_good zok zNs_in n j as E E' v hlen hn (Or.inr hN) hnb
theorem zmet0 {j : Nat} {as : List Value} {G G' : Nat → Nat → Int32} {v : Option Value} (h : zcal zTT j as (zhp G) = some (v, zhp G')) (hlen : as.length ≤ zmL (zMt j)) (hnb : ∀ n, nb = some n → 139 ≤ n) : Met l (zy (zMt j)) (zwl zGw (zMt j)) (zrm (zMt j) 0 0) (va_Pc (as.map (zc lo)) (zPc false zNs D vwCl K lo (zhp G))) (zQc D vwCl K lo nb (zhp G') v) 0 0 (zA lo nb) := by
  have h1 := zmetC (l := l) (D := D) (K := K) (lo := lo) (nb := nb) h hlen rfl hnb
  unfold zMet at h1
  rw [show zN (zhp G') - zN (zhp G) = 0 from Nat.sub_self 139, show zM (zhp G') - zM (zhp G) = 0 from Nat.sub_self 7103] at h1
  exact h1
theorem zcallL {E' : zHp} {v : Option Value} {a : Array Value} {mc ms pc : Nat} {ls : Array Slot} {st0 rest : List Value} (hr : va_Run p l e R s m args below meth c H locs cells slots mc ms (F0 m pc ls st0) rest (zQc D vwCl K lo nb E' v a) (zA lo nb)) (hS : va_S A0 H0 H locs) (hA : ∀ q, zA lo nb q → A0 q)
    (kk : ∀ (H1 : Heap) (locs1 : List Loc), zWd D vwCl lo K E' H1 → H.size ≤ H1.size → (∀ q : Nat, q < H.size → ¬ zA lo nb q → H1[q]? = H[q]?) → va_S A0 H0 H1 locs1 → W p l e R s m args below meth c H1 locs1 (cells + mc) (slots + ms) Q (F0 m (pc + 3) ls ((v.map (zc lo)).toList ++ rest))) : W p l e R s m args below meth c H locs cells slots Q (F0 m pc ls st0) := by
  intro T hT X
  obtain ⟨v', st₀, t, T', L, h0, X', hL, e1, e2, ⟨hv, hw, hz, hk⟩, st⟩ := hr T hT X
  injection hv with hv
  subst hv
  rw [h0] at hz hk
  obtain ⟨t2, a1, b1⟩ := kk T'.heap (locs ++ L) (by rw [e1]; exact hw) (by rw [e1]; exact hz) (fun q h1 h2 => by rw [e1]; exact hk q h1 h2)
    ⟨Nat.le_trans hS.1 (by rw [e1]; exact hz), fun q h1 h2 => by rw [e1, hk q (Nat.lt_of_lt_of_le h1 hS.1) (fun h3 => h2 (hA q h3))]; exact hS.2.1 q h1 h2, fun q hq => by
      rcases List.mem_append.mp hq with h | h
      · exact hS.2.2 q h
      · exact hA _ (hL q h)⟩ T' rfl X'
  exact ⟨t2, st t2 a1, b1⟩
/-- the call of a method of the walk, by hand -/
theorem zhV {own : String} {j : Nat} {as : List Value} {G G' : Nat → Nat → Int32} {v : Option Value} {ix pc n a ci : Nat} {ls : Array Slot} {rest : List Value} {fs : List (Option (Option Nat))} (h : zcal zTT j (.ref a :: as) (zhp G) = some (v, zhp G')) (hlen : as.length < zmL (zMt j)) (hnb : ∀ n, nb = some n → 139 ≤ n) (fix : CallFix p m c cc nL s args zGw own)
    (hW : zWd D vwCl lo K (zhp G) H) (hKK : zKK D vwCl K zNs s) (hS : va_S A0 H0 H locs) (hA : ∀ q, zA lo nb q → A0 q) (ha : a < 139) (hsa : zSP a = .inr (.inr (ci, fs))) {Ty : u_T} {Nm : Nat} (hci : vwCl[ci]? = some (zOw (zMt j), Ty, Nm)) (hn : as.length = n) (hsize : ls.size = nL)
    (hws : ∀ w ∈ wsV own ix (zOw (zMt j)) (zy (zMt j)) (zwl zGw (zMt j)), w ∈ zGw) (hd : (zy (zMt j)).cls = zOw (zMt j) ∧ zOw (zMt j) ≠ "java/lang/invoke/MethodHandle" ∧ zOw (zMt j) ≠ "java/lang/invoke/VarHandle" ∧ (parseMethodDescriptor (zy (zMt j)).desc).map (fun d => d.parameters.length) = some n) (hfr : zfr (zMt j) + 1 ≤ R.frames) (hlo : 8 + (zmL (zMt j) + 11) + zlo (zMt j) ≤ R.locals) (hcs : cells ≤ R.cells ∧ slots ≤ R.slots)
    (hsum : (rest.map fun v => v.category).sum ≤ 8) (hdg : decode cc pc = .ok (.invokevirtual ix, 3))
    (kk : ∀ (H1 : Heap) (locs1 : List Loc), zWd D vwCl lo K (zhp G') H1 → H.size ≤ H1.size → (∀ q : Nat, q < H.size → ¬ zA lo nb q → H1[q]? = H[q]?) → va_S A0 H0 H1 locs1 → W p l e R s m args below meth c H1 locs1 cells slots Q (F0 m (pc + 3) ls ((v.map (zc lo)).toList ++ rest))) :
    W p l e R s m args below meth c H locs cells slots Q (F0 m pc ls ((as.map (zc lo)).reverse ++ .ref (lo + a) :: rest)) := by
  have hM := zmet0 (l := l) (D := D) (K := K) (lo := lo) (nb := nb) h (by rw [List.length_cons]; omega) hnb
  have hts := fix.2.2.2.2
  have hat := zws_get (lo := lo) (K := K) (E := zhp G) (p := a) ha
  rw [show zS (zhp G) a = _ from hsa] at hat
  exact zcallL (va_runV (C := zOw (zMt j)) (b := lo + a) (As := as.map (zc lo)) (rest := rest) fix hM
    (cwV n hts (zGood zGw_good hws) rfl rfl rfl hd ⟨hfr, hlo⟩)
    ⟨zBlind, va_recv hKK.1 hW.1 hci hat, fun U hU hW' => ⟨rfl, by rw [hU]; exact hW, zKK.moved hW' hKK, fun h => absurd h (by decide)⟩⟩ rfl (by rw [List.length_map]; exact hn) hsize rfl (lv_room hsum) hdg hcs) hS hA kk
/-- a field is read, by hand -/
theorem zhG {own C : String} {T : u_T} {N ci idx a z pc : Nat} {ls : Array Slot} {rest : List Value} {E : zHp} {v : Value} (fix : CallFix p m c cc nL s args zGw own) (hu : ∀ w ∈ u_ws C T N, w ∈ zGw) (hW : zWd D vwCl lo K E H) (hKK : zKK D vwCl K zNs s) (hc : vwCl[ci]? = some (C, T, N)) (hk : z < N) (hlk : Jvm.Cond.fieldLink own idx (T z).1 (T z).2.1 (T z).2.2.1 ∈ zGw) (hv : zgf E a ci z = some v) (hd : decode cc pc = .ok (.getfield idx, 3))
    (kk : W p l e R s m args below meth c H locs cells slots Q (F0 m (pc + 3) ls (zc lo v :: rest))) : W p l e R s m args below meth c H locs cells slots Q (F0 m pc ls (.ref (lo + a) :: rest)) := by
  obtain ⟨hx, hb, hml, hown, hts⟩ := fix
  obtain ⟨hp, fs, hs, hv2⟩ := zgf_at hv
  have hat := zws_get (lo := lo) (K := K) hp
  rw [hs] at hat
  exact va_get hx hb hts hu hown hKK.1 hW.1 a hat hc z hk (hts _ hlk) (fun _ h => h) (hv2 lo) hd kk
/-- an int field is written, by hand -/
theorem zhP {own C : String} {T : u_T} {N ci idx a z pc : Nat} {ls : Array Slot} {rest : List Value} {G : Nat → Nat → Int32} {x : Int32} {fs : List (Option (Option Nat))} {ty0 : Nat → FieldType} (fix : CallFix p m c cc nL s args zGw own) (hu : ∀ w ∈ u_ws C T N, w ∈ zGw) (hW : zWd D vwCl lo K (zhp G) H) (hKK : zKK D vwCl K zNs s) (hS : va_S (zA lo nb) H0 H locs) (hnb : ∀ n, nb = some n → 139 ≤ n) (hc : vwCl[ci]? = some (C, T, N)) (hk : z < N) (hlk : Jvm.Cond.fieldLink own idx (T z).1 (T z).2.1 (T z).2.2.1 ∈ zGw)
    (ha : a < 139) (hs : zSP a = .inr (.inr (ci, fs))) (hf1 : fs[z]? = some none) (hty : ∀ k, k < N → parseFieldDescriptor (T k).2.2.1 = some (ty0 k)) (hnm : ∀ a, a < N → ∀ b, b < N → a ≠ b → (T a).2.1 ≠ (T b).2.1) (ht0 : ty0 z = .int) (hfn : (T z).2.2.2 = false) (hd : decode cc pc = .ok (.putfield idx, 3))
    (kk : ∀ (H1 : Heap) (locs1 : List Loc), zWd D vwCl lo K (zhp (zw G a z x)) H1 → va_S (zA lo nb) H0 H1 locs1 → W p l e R s m args below meth c H1 locs1 cells slots Q (F0 m (pc + 3) ls rest)) : W p l e R s m args below meth c H locs cells slots Q (F0 m pc ls (.int x :: .ref (lo + a) :: rest)) := by
  obtain ⟨hx, hb, hml, hown, hts⟩ := fix
  have hp : a < zN (zhp G) := ha
  have hs : zS (zhp G) a = .inr (.inr (ci, fs)) := hs
  have hat := zws_get (lo := lo) (K := K) hp
  rw [hs] at hat
  have hfl : z < (zfs lo (zG (zhp G) a) fs 0).length := by rw [zfs_len]; exact (List.getElem?_eq_some_iff.mp hf1).1
  have hnf : narrow (ty0 z) (.int x) = .int x ∧ fits (ty0 z) (.int x) = true := by rw [ht0]; exact ⟨rfl, rfl⟩
  refine va_put hx hb hts hu ty0 hty hnm hown hKK.1 hW.1 (zws_D lo nb K (zhp G) hnb) hS a hat hc z hk (hts _ hlk) (fun _ h => h) hfn (hty z hk) hnf.1 hnf.2 hfl hd (fun H1 L1 hP1 hD1 hS1 => ?_)
  exact kk H1 L1 (zWd.putG (g' := upd (zG (zhp G) a) z x) hp (by rw [hs]; show Sum.inr (ci, (zfs lo (zG (zhp G) a) fs 0).set z (Value.int x)) = _; rw [zfs_int hf1]; rfl) hP1) hS1
end
end ZFILL
