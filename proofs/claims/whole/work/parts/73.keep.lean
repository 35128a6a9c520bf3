section ZKEEP
variable {S : zSt} {tg : Nat → Int32}
/-- no owner, no lease -/
def zLe (S : zSt) : Prop := ∀ s, s < 32 → sO S s = -1 → sL S s = -1
/-- all that holds of a state -/
def zGo (S : zSt) : Prop := zGd S ∧ zWk (sN S) (sW S) ∧ (∃ B, 1 ≤ B ∧ B ≤ 8 ∧ sC S 1 = nI B) ∧ (∃ q, q ≤ 100 ∧ sC S 0 = nI q) ∧ (∀ n, n < 8 → ∃ k, k ≤ 3 ∧ sN S n = nI k) ∧ (∀ n, n < 8 → sN S n = 0 → sW S n = 0) ∧ zLe S
/-- what is the same of two states: nodes, weights, settings -/
def zsm3 (S T : zSt) : Prop := sN T = sN S ∧ sW T = sW S ∧ sC T = sC S
theorem zsm3.rf : zsm3 S S := ⟨rfl, rfl, rfl⟩
theorem zsm3.tr {T U : zSt} (h : zsm3 S T) (h2 : zsm3 T U) : zsm3 S U := ⟨h2.1.trans h.1, h2.2.1.trans h.2.1, h2.2.2.trans h.2.2⟩
theorem zLs_sm (s : Nat) : zsm3 S (zLs s S) := by
  unfold zLs
  split
  · exact ⟨rfl, rfl, rfl⟩
  · split
    · exact ⟨rfl, rfl, rfl⟩
    · exact zsm3.rf
theorem zfd_sm {f : Nat → zSt → zSt} (hf : ∀ i S, zsm3 S (f i S)) : ∀ n, zsm3 S (zfd f S n)
  | 0 => zsm3.rf
  | n + 1 => (zfd_sm hf n).tr (hf n _)
theorem zAd_sm : ∀ (ms : List zMv) (i : Nat) (S : zSt), zsm3 S (zAd tg ms i S)
  | [], _, _ => zsm3.rf
  | m :: ms, i, S => by
    rw [zAd]
    split
    · exact (show zsm3 S (zCanc S i m) from ⟨rfl, rfl, rfl⟩).tr (zAd_sm ms i _)
    · split
      · exact (show zsm3 S (zEndm S i m) from ⟨rfl, rfl, rfl⟩).tr (zAd_sm ms i _)
      · exact (show zsm3 S (zStp S i m) from ⟨rfl, rfl, rfl⟩).tr (zAd_sm ms (i + 1) _)
theorem zBg_sm : ∀ (n : Nat) (S : zSt), zsm3 S (zBg tg n S)
  | 0, _ => zsm3.rf
  | n + 1, S => by
    rw [zBg]
    split
    · exact zsm3.rf
    · exact (show zsm3 S (zBeg tg S _) from ⟨rfl, rfl, rfl⟩).tr (zBg_sm n _)
theorem zLs_gd (h : zGd S) (s : Nat) : zGd (zLs s S) := by
  unfold zLs
  split
  · exact h
  · split
    · refine ⟨fun i hi => ?_, h.2.1, h.2.2⟩
      show zow (upd (sO S) s (-1) i)
      unfold upd
      split
      · exact Or.inl rfl
      · exact h.1 i hi
    · exact h
theorem zun_era {l : List zMv} (h : zun l) (i : Nat) : zun (l.eraseIdx i) := by
  unfold zun at *
  exact h.sublist ((List.eraseIdx_sublist l i).map _)
theorem zAd_gd : ∀ (ms kept : List zMv) (S : zSt), sM S = kept ++ ms → zGd S → zGd (zAd tg ms kept.length S)
  | [], _, _, _, h => h
  | m :: ms, kept, S, hl, h => by
    have hera : (sM S).eraseIdx kept.length = kept ++ ms := by rw [hl, List.eraseIdx_append_of_length_le (Nat.le_refl _), Nat.sub_self]; rfl
    have hset : (sM S).set kept.length (m.1, m.2.1, m.2.2.1, m.2.2.2 + 1) = (kept ++ [(m.1, m.2.1, m.2.2.1, m.2.2.2 + 1)]) ++ ms := by rw [hl]; simp
    have hl2 : (kept ++ [(m.1, m.2.1, m.2.2.1, m.2.2.2 + 1)]).length = kept.length + 1 := by simp
    have hm : zgm m := h.2.1 m (by rw [hl]; exact List.mem_append_right _ List.mem_cons_self)
    have hun := zun_era h.2.2 kept.length
    have hmem : ∀ x, x ∈ (sM S).eraseIdx kept.length → zgm x := fun x hx => h.2.1 x (List.mem_of_mem_eraseIdx hx)
    rw [zAd]
    split
    · exact zAd_gd ms kept _ hera ⟨h.1, hmem, hun⟩
    · rename_i h1
      split
      · refine zAd_gd ms kept _ hera ⟨fun i hi => ?_, hmem, hun⟩
        show zow (upd (sO S) m.1.toNatClampNeg m.2.2.1 i)
        unfold upd
        split
        · obtain ⟨s, a, hs, e1, hw, hd, ha, e3⟩ := hm
          exact Or.inr hd
        · exact h.1 i hi
      · rename_i h2
        have ih := zAd_gd ms (kept ++ [(m.1, m.2.1, m.2.2.1, m.2.2.2 + 1)]) (zStp S kept.length m) hset ⟨h.1, fun x hx => ?_, ?_⟩
        · rw [hl2] at ih; exact ih
        · rcases List.mem_or_eq_of_mem_set hx with h3 | h3
          · exact h.2.1 x h3
          · obtain ⟨s, a, hs, e1, hw, hd, ha, e3⟩ := hm
            have hz := zsz_r s hs
            refine ⟨s, a + 1, hs, by rw [h3]; exact e1, by rw [h3]; exact hw, by rw [h3]; exact hd, ?_, by rw [h3]; show m.2.2.2 + 1 = _; rw [e3, nI_1]⟩
            rw [e1, e3, hz.2.2, nI_1] at h2
            rcases Nat.lt_or_ge (a + 1) (zsz s) with h | h
            · exact h
            · exact absurd (nI_le h (by omega)) h2
        · show zun ((sM S).set kept.length _)
          unfold zun
          rw [hset]
          have := h.2.2
          unfold zun at this
          rw [hl] at this
          simpa using this
theorem zBg_gd (htg : ∀ s, s < 32 → zow (tg s)) {B : Nat} (hB : B ≤ 8) : ∀ (n : Nat) (S : zSt), n + (sM S).length ≤ B ∨ n = 0 → zGd S → zGd (zBg tg n S)
  | 0, _, _, h => h
  | n + 1, S, hl, h => by
    have hl : n + 1 + (sM S).length ≤ B := by rcases hl with h | h; exact h; exact absurd h (by omega)
    rw [zBg]
    rcases zBr_bes tg S 32 (Nat.le_refl _) with ⟨g1, g2⟩ | ⟨s, hs, g1, g2, g3⟩
    · rw [if_pos g1]; exact h
    · have g1' : (zBes tg S 32).1 = nI s := by rw [g1]
      rw [if_neg (by rw [g1', zeq_m1 (by omega)]; exact id), g1', zcl_n (by omega)]
      obtain ⟨h1, h2⟩ := zBeg_gd h htg hs g3 (by omega)
      exact zBg_gd htg hB n _ (Or.inl (by rw [h2, List.length_append, List.length_singleton]; omega)) h1
theorem zDm_gd (h : zGd S) (n : Nat) : zGd (zDm n S) := by
  unfold zDm
  split
  · exact h
  · exact h
/-- what a node's leaving leaves -/
theorem zDm_N (n : Nat) : sN (zDm n S) = (if sN S n = nI 2 ∧ zct (fun s => decide (sO S s = nI n)) 32 = 0 then upd (sN S) n 0 else sN S) ∧ sW (zDm n S) = (if sN S n = nI 2 ∧ zct (fun s => decide (sO S s = nI n)) 32 = 0 then upd (sW S) n 0 else sW S) ∧ sC (zDm n S) = sC S := by
  unfold zDm
  split
  · exact ⟨rfl, rfl, rfl⟩
  · exact ⟨rfl, rfl, rfl⟩
/-- active nodes and their weights stay -/
def zac (S T : zSt) : Prop := (∀ n, (sN T n = 1) = (sN S n = 1)) ∧ (∀ n, sN S n = 1 → sW T n = sW S n) ∧ sC T = sC S
theorem zac.rf : zac S S := ⟨fun _ => rfl, fun _ _ => rfl, rfl⟩
theorem zac.tr {T U : zSt} (h : zac S T) (h2 : zac T U) : zac S U := ⟨fun n => (h2.1 n).trans (h.1 n), fun n hn => (h2.2.1 n (by rw [h.1 n]; exact hn)).trans (h.2.1 n hn), h2.2.2.trans h.2.2⟩
theorem zsm3.ac {T : zSt} (h : zsm3 S T) : zac S T := ⟨fun n => by rw [h.1], fun n _ => by rw [h.2.1], h.2.2⟩
theorem zDm_ac (n : Nat) : zac S (zDm n S) := by
  obtain ⟨h1, h2, h3⟩ := zDm_N (S := S) n
  refine ⟨fun k => ?_, fun k hk => ?_, h3⟩
  · rw [h1]
    split
    · rename_i hc
      unfold upd
      split
      · rename_i e; subst e; rw [hc.1]; decide
      · rfl
    · rfl
  · rw [h2]
    split
    · rename_i hc
      unfold upd
      split
      · rename_i e; subst e; rw [hc.1] at hk; exact absurd hk (by decide)
      · rfl
    · rfl
theorem zLs_le (h : zLe S) (i : Nat) : zLe (zLs i S) := by
  unfold zLs
  split
  · rename_i hc
    intro s hs ho
    show upd (sL S) i _ s = -1
    have ho : sO S s = -1 := ho
    unfold upd
    by_cases e : s = i
    · subst e; exact absurd ho hc.1
    · rw [if_neg e]; exact h s hs ho
  · split
    · intro s hs ho
      have ho : upd (sO S) i (-1) s = -1 := ho
      show upd (sL S) i (-1) s = -1
      unfold upd at ho ⊢
      by_cases e : s = i
      · rw [if_pos e]
      · rw [if_neg e] at ho ⊢; exact h s hs ho
    · exact h
theorem zAd_le : ∀ (ms : List zMv) (i : Nat) (S : zSt), (∀ m, m ∈ ms → zgm m) → zLe S → zLe (zAd tg ms i S)
  | [], _, _, _, h => h
  | m :: ms, i, S, hm, h => by
    have hm' : ∀ m', m' ∈ ms → zgm m' := fun m' h' => hm m' (List.mem_cons_of_mem _ h')
    rw [zAd]
    split
    · exact zAd_le ms i _ hm' h
    · split
      · refine zAd_le ms i _ hm' (fun s hs ho => ?_)
        have ho : upd (sO S) m.1.toNatClampNeg m.2.2.1 s = -1 := ho
        show upd (sL S) m.1.toNatClampNeg _ s = -1
        obtain ⟨_, _, _, _, _, ⟨d, hd, e2⟩, _, _⟩ := hm m List.mem_cons_self
        unfold upd at ho ⊢
        by_cases e : s = m.1.toNatClampNeg
        · rw [if_pos e, e2, zeq_m1 (by omega)] at ho; exact absurd ho id
        · rw [if_neg e] at ho ⊢; exact h s hs ho
      · exact zAd_le ms (i + 1) _ hm' h
theorem zBg_le : ∀ (n : Nat) (S : zSt), zLe S → zLe (zBg tg n S)
  | 0, _, h => h
  | n + 1, S, h => by
    rw [zBg]
    split
    · exact h
    · exact zBg_le n _ h
theorem zDm_le (h : zLe S) (n : Nat) : zLe (zDm n S) := by
  unfold zDm
  split
  · exact h
  · exact h
theorem zDm_ok (h : zGo S) (n : Nat) : zGo (zDm n S) := by
  obtain ⟨g1, g2, g3, g4, g5, g6, g7⟩ := h
  obtain ⟨h1, h2, h3⟩ := zDm_N (S := S) n
  refine ⟨zDm_gd g1 n, ?_, by rw [h3]; exact g3, by rw [h3]; exact g4, ?_, ?_, zDm_le g7 n⟩
  · rw [h1, h2]
    split
    · intro k hk
      unfold upd
      by_cases e : k = n
      · rw [if_pos e, if_pos e]; exact ⟨0, by omega, rfl, fun h => absurd rfl h⟩
      · rw [if_neg e, if_neg e]; exact g2 k hk
    · exact g2
  · rw [h1]
    split
    · intro k hk
      unfold upd
      by_cases e : k = n
      · rw [if_pos e]; exact ⟨0, by omega, rfl⟩
      · rw [if_neg e]; exact g5 k hk
    · exact g5
  · rw [h1, h2]
    split
    · intro k hk
      unfold upd
      by_cases e : k = n
      · rw [if_pos e, if_pos e]; exact fun _ => rfl
      · rw [if_neg e, if_neg e]; exact g6 k hk
    · exact g6
theorem zGo.sm {T : zSt} (h : zGo S) (h2 : zsm3 S T) (hg : zGd T) (hl : zLe T) : zGo T := by
  obtain ⟨g1, g2, g3, g4, g5, g6, g7⟩ := h
  obtain ⟨e1, e2, e3⟩ := h2
  exact ⟨hg, by rw [e1, e2]; exact g2, by rw [e3]; exact g3, by rw [e3]; exact g4, by rw [e1]; exact g5, by rw [e1, e2]; exact g6, hl⟩
theorem zRi_ac {T : zSt} (h : zac S T) : zRi (sN T) (sW T) = zRi (sN S) (sW S) := by
  unfold zRi
  refine List.filter_congr fun c _ => ?_
  unfold zKe
  by_cases h1 : sN S (c / 32 % 8) = 1
  · rw [h.2.1 _ h1, show sN T (c / 32 % 8) = 1 by rw [h.1]; exact h1, h1]
  · have h2 : ¬ sN T (c / 32 % 8) = 1 := by rw [h.1]; exact h1
    simp [h1, h2]
theorem zTf_ac {T : zSt} (h : zac S T) : (zTf (sN T) (sW T) (sC T 0)).2 = (zTf (sN S) (sW S) (sC S 0)).2 := by
  unfold zTf
  rw [h.2.2, zRi_ac h]
  refine (zTs_cg (fun n hn => ?_) zAg.rf 32).2
  unfold zCp
  rw [zRi_ac h]
  by_cases h1 : sN S n = 1
  · rw [if_pos h1, if_pos (by rw [h.1]; exact h1), h.2.1 n h1]
  · rw [if_neg h1, if_neg (by rw [h.1]; exact h1)]
theorem zSk_ow (R : List Nat) (cp : Nat → Int32) : ∀ (k a : Nat) (ld : Nat → Int32) (ps : Int32), zow (zSk R cp ld k a ps).1
  | 0, _, _, _ => Or.inl rfl
  | k + 1, a, ld, ps => by
    rw [zSk]
    split
    · exact Or.inr ⟨_, zNd_lt R a, rfl⟩
    · exact zSk_ow R cp k _ _ _
theorem zTf_ow (N W : Nat → Int32) (sl : Int32) (s : Nat) : zow ((zTf N W sl).2.1 s) := by
  unfold zTf
  generalize zRi N W = R
  generalize zCp N W sl = cp
  have : ∀ n, zow ((zTs R cp (fun _ => 0) (fun _ => -1) (fun _ => 0) n).2.1 s) := by
    intro n
    induction n with
    | zero => exact Or.inl rfl
    | succ n ih =>
      rw [zTs_s]
      show zow (upd _ n _ s)
      unfold upd
      split
      · exact zSk_ow R cp _ _ _ _
      · exact ih
  exact this 32
theorem zTk_ok {B : Nat} (hB : B ≤ 8) (htg : ∀ s, s < 32 → zow (tg s)) (h : zGo S) : zGd (zTa S) ∧ zGd (zTb tg S) ∧ zGd (zTc tg B S) ∧ zGo (zTc tg B S) ∧ zGo (zTd tg B S) ∧ zGo (zTk tg B S) := by
  have h0 : zGd (uT S (upd (sT S) 0 (sT S 0 + 1))) := h.1
  have h1 : zGd (zTa S) := zfd_iv (P := zGd) (fun i s hs => zLs_gd hs i) h0 32
  have s1 : zsm3 S (zTa S) := (show zsm3 S (uT S (upd (sT S) 0 (sT S 0 + 1))) from ⟨rfl, rfl, rfl⟩).tr (zfd_sm (fun i S => zLs_sm i) 32)
  have h2 : zGd (zTb tg S) := by unfold zTb; generalize zTa S = U at h1 ⊢; exact zAd_gd (sM U) [] U rfl h1
  have s2 : zsm3 S (zTb tg S) := s1.tr (zAd_sm _ _ _)
  have h3 : zGd (zTc tg B S) := zBg_gd htg hB _ _ (by omega) h2
  have s3 : zsm3 S (zTc tg B S) := s2.tr (zBg_sm _ _)
  have l1 : zLe (zTa S) := zfd_iv (P := zLe) (fun i s hs => zLs_le hs i) (show zLe (uT S (upd (sT S) 0 (sT S 0 + 1))) from h.2.2.2.2.2.2) 32
  have l2 : zLe (zTb tg S) := by unfold zTb; exact zAd_le _ _ _ h1.2.1 l1
  have l3 : zLe (zTc tg B S) := by unfold zTc; exact zBg_le _ _ l2
  have h4 : zGo (zTc tg B S) := h.sm s3 h3 l3
  have h5 : zGo (zTd tg B S) := zfd_iv (P := zGo) (fun i s hs => zDm_ok hs i) h4 8
  refine ⟨h1, h2, h3, h4, h5, ?_⟩
  unfold zTk
  generalize zTd tg B S = D at h5 ⊢
  exact h5
theorem zTk_ac {B : Nat} : zac S (zTk tg B S) := by
  have s3 : zsm3 S (zTc tg B S) := (((show zsm3 S (uT S (upd (sT S) 0 (sT S 0 + 1))) from ⟨rfl, rfl, rfl⟩).tr (zfd_sm (fun i S => zLs_sm i) 32)).tr (zAd_sm _ _ _)).tr (zBg_sm _ _)
  have h4 : zac S (zTd tg B S) := zfd_iv (P := zac S) (fun i s hs => hs.tr (zDm_ac i)) s3.ac 8
  unfold zTk
  generalize zTd tg B S = D at h4 ⊢
  exact h4
end ZKEEP
