/-! ===== a sheet taken over inside the history ===== -/
def pm_ub (B : Nat → Nat → Nat → Nat) (j : Nat) (S : Nat → Nat → Nat) : Nat → Nat → Nat → Nat := fun i => if i = j then S else B i
theorem pm_sh_ad {y : Nat → ClassId} {q : Nat → Nat} {S : Nat → Nat → Nat} {k : Nat} (hk : k < 13) : q k ∈ (pm_shS y q S).map Prod.fst := by
  rw [pm_sh_fst]
  exact List.mem_map_of_mem (List.mem_range.mpr hk)
theorem pm_shs_ad {y : Nat → ClassId} {b : Nat → Nat → Nat} {B : Nat → Nat → Nat → Nat} {n i k : Nat} (hi : i < n) (hk : k < 13) : b i k ∈ (pm_shs y b B n).map Prod.fst := by
  obtain ⟨z, hz, e⟩ := List.mem_map.mp (pm_sh_ad (y := y) (q := b i) (S := B i) hk)
  rw [← e]
  exact List.mem_map_of_mem (pm_shs_in.mpr ⟨i, hi, hz⟩)
theorem pm_shs_dj {y : Nat → ClassId} {b : Nat → Nat → Nat} {B : Nat → Nat → Nat → Nat} : ∀ {n i j : Nat}, ((pm_shs y b B n).map Prod.fst).Nodup → i < n → j < n → ¬ i = j → ∀ k k', k < 13 → k' < 13 → ¬ b i k = b j k'
  | 0, i, j, h, hi, hj, hij => absurd hi (Nat.not_lt_zero i)
  | n + 1, i, j, h, hi, hj, hij => by
    rw [pm_shs, List.map_append, List.nodup_append] at h
    obtain ⟨h1, h2, h3⟩ := h
    intro k k' hk hk'
    by_cases e1 : i = n
    · subst e1
      exact fun e => h3 _ (pm_shs_ad (show j < i by omega) hk') _ (pm_sh_ad hk) e.symm
    · by_cases e2 : j = n
      · subst e2
        exact h3 _ (pm_shs_ad (show i < j by omega) hk) _ (pm_sh_ad hk')
      · exact pm_shs_dj h1 (by omega) (by omega) hij k k' hk hk'
theorem pm_shs_sub {y : Nat → ClassId} {b : Nat → Nat → Nat} {B : Nat → Nat → Nat → Nat} : ∀ {n j : Nat}, j < n → (pm_shS y (b j) (B j)).Sublist (pm_shs y b B n)
  | 0, j, h => absurd h (Nat.not_lt_zero j)
  | n + 1, j, h => by
    rw [pm_shs]
    by_cases e : j = n
    · subst e
      exact List.sublist_append_right _ _
    · exact (pm_shs_sub (by omega)).trans (List.sublist_append_left _ _)
/-- the history beside the sheet -/
def pm_hc (y : Nat → ClassId) (h : Nat → Nat) (b : Nat → Nat → Nat) (B : Nat → Nat → Nat → Nat) (f : Nat → Option Nat) (kn : Nat) (q : Nat → Nat) (S : Nat → Nat → Nat) : va_W := pm_hi y h b B f kn ++ pm_shS y q S
theorem pm_hc_fst (y : Nat → ClassId) (h : Nat → Nat) (b : Nat → Nat → Nat) (B B2 : Nat → Nat → Nat → Nat) (f f2 : Nat → Option Nat) (kn kn2 : Nat) (q : Nat → Nat) (S S2 : Nat → Nat → Nat) : (pm_hc y h b B f kn q S).map Prod.fst = (pm_hc y h b B2 f2 kn2 q S2).map Prod.fst := by
  unfold pm_hc pm_hi
  rw [List.map_append, List.map_append, List.map_append, List.map_append, pm_shs_fst y b B B2 7]
  rfl
theorem pm_hc_sub (y : Nat → ClassId) (h : Nat → Nat) (b : Nat → Nat → Nat) (B : Nat → Nat → Nat → Nat) (f : Nat → Option Nat) (kn : Nat) (q : Nat → Nat) (S : Nat → Nat → Nat) {j : Nat} (hj : j < 7) : (pm_shS y (b j) (B j) ++ pm_shS y q S).Sublist (pm_hc y h b B f kn q S) := by
  unfold pm_hc pm_hi
  exact List.Sublist.append ((pm_shs_sub hj).trans (List.sublist_append_right _ _)) (List.Sublist.refl _)
theorem pm_hc_nd {A : Nat → Prop} {y : Nat → ClassId} {h : Nat → Nat} {b : Nat → Nat → Nat} {B : Nat → Nat → Nat → Nat} {f : Nat → Option Nat} {kn : Nat} {q : Nat → Nat} {S : Nat → Nat → Nat} (hD : va_D A (pm_hc y h b B f kn q S)) : ((pm_shs y b B 7).map Prod.fst).Nodup ∧ (∀ i k k', i < 7 → k < 13 → k' < 13 → ¬ b i k = q k') ∧ (∀ i k, i < 7 → k < 13 → ¬ h 0 = b i k ∧ ¬ h 1 = b i k) ∧ ∀ k, k < 13 → ¬ h 0 = q k ∧ ¬ h 1 = q k := by
  have nd := (pm_D_nd.mp hD).1
  unfold pm_hc pm_hi at nd
  rw [List.map_append, List.map_append, List.nodup_append, List.nodup_append] at nd
  obtain ⟨⟨n1, n2, n3⟩, n4, n5⟩ := nd
  have m0 : h 0 ∈ List.map Prod.fst [((h 0, .inr (0, [.ref (h 1), .int (nI kn)])) : Nat × va_E), (h 1, .inl (y 3, 7, .inr (.inr (.inr (.inr f)))))] := List.mem_cons_self
  have m1 : h 1 ∈ List.map Prod.fst [((h 0, .inr (0, [.ref (h 1), .int (nI kn)])) : Nat × va_E), (h 1, .inl (y 3, 7, .inr (.inr (.inr (.inr f)))))] := List.mem_cons_of_mem _ List.mem_cons_self
  refine ⟨n2, fun i k k' hi hk hk' => n5 _ (List.mem_append_right _ (pm_shs_ad hi hk)) _ (pm_sh_ad hk'), fun i k hi hk => ⟨n3 _ m0 _ (pm_shs_ad hi hk), n3 _ m1 _ (pm_shs_ad hi hk)⟩, fun k hk => ⟨n5 _ (List.mem_append_left _ m0) _ (pm_sh_ad hk), n5 _ (List.mem_append_left _ m1) _ (pm_sh_ad hk)⟩⟩
theorem pm_hc_in {y : Nat → ClassId} {h : Nat → Nat} {b : Nat → Nat → Nat} {B : Nat → Nat → Nat → Nat} {f : Nat → Option Nat} {kn : Nat} {q : Nat → Nat} {S : Nat → Nat → Nat} {z : Nat × va_E} : z ∈ pm_hc y h b B f kn q S ↔ (z = (h 0, .inr (0, [.ref (h 1), .int (nI kn)])) ∨ z = (h 1, .inl (y 3, 7, .inr (.inr (.inr (.inr f)))))) ∨ (∃ i, i < 7 ∧ z ∈ pm_shS y (b i) (B i)) ∨ z ∈ pm_shS y q S := by
  unfold pm_hc pm_hi
  rw [List.mem_append, List.mem_append, pm_shs_in]
  constructor
  · rintro ((h1 | h1) | h1)
    · simp only [List.mem_cons, List.not_mem_nil, or_false] at h1
      exact Or.inl h1
    · exact Or.inr (Or.inl h1)
    · exact Or.inr (Or.inr h1)
  · rintro (h1 | h1 | h1)
    · refine Or.inl (Or.inl ?_)
      simp only [List.mem_cons, List.not_mem_nil, or_false]
      exact h1
    · exact Or.inl (Or.inr h1)
    · exact Or.inr h1
theorem pm_2_in {y : Nat → ClassId} {q q2 : Nat → Nat} {S T : Nat → Nat → Nat} {a : Nat} (h : a ∈ (pm_shS y q S ++ pm_shS y q2 T).map Prod.fst) : ∃ k, k < 13 ∧ (a = q k ∨ a = q2 k) := by
  rw [List.map_append, List.mem_append, pm_sh_fst, pm_sh_fst] at h
  rcases h with h | h
  · obtain ⟨k, hk, e⟩ := List.mem_map.mp h
    exact ⟨k, List.mem_range.mp hk, Or.inl e.symm⟩
  · obtain ⟨k, hk, e⟩ := List.mem_map.mp h
    exact ⟨k, List.mem_range.mp hk, Or.inr e.symm⟩
theorem pm_hc_rest {A : Nat → Prop} {y : Nat → ClassId} {h : Nat → Nat} {b : Nat → Nat → Nat} {B : Nat → Nat → Nat → Nat} {f : Nat → Option Nat} {kn : Nat} {q : Nat → Nat} {S : Nat → Nat → Nat} (hD : va_D A (pm_hc y h b B f kn q S)) {j : Nat} (hj : j < 7) {z : Nat × va_E} (hz : (z = (h 0, .inr (0, [.ref (h 1), .int (nI kn)])) ∨ z = (h 1, .inl (y 3, 7, .inr (.inr (.inr (.inr f)))))) ∨ ∃ i, i < 7 ∧ ¬ i = j ∧ z ∈ pm_shS y (b i) (B i)) {S1 S2 : Nat → Nat → Nat} : z ∈ pm_hc y h b B f kn q S ∧ ¬ z.1 ∈ (pm_shS y (b j) S1 ++ pm_shS y q S2).map Prod.fst := by
  obtain ⟨n1, n2, n3, n4⟩ := pm_hc_nd hD
  rcases hz with (rfl | rfl) | ⟨i, hi, hij, hz⟩
  · refine ⟨pm_hc_in.mpr (Or.inl (Or.inl rfl)), fun hm => ?_⟩
    obtain ⟨k, hk, e | e⟩ := pm_2_in hm
    · exact (n3 j k hj hk).1 e
    · exact (n4 k hk).1 e
  · refine ⟨pm_hc_in.mpr (Or.inl (Or.inr rfl)), fun hm => ?_⟩
    obtain ⟨k, hk, e | e⟩ := pm_2_in hm
    · exact (n3 j k hj hk).2 e
    · exact (n4 k hk).2 e
  · refine ⟨pm_hc_in.mpr (Or.inr (Or.inl ⟨i, hi, hz⟩)), fun hm => ?_⟩
    obtain ⟨k', hk', e'⟩ := pm_sh_in _ _ _ hz
    obtain ⟨k, hk, e | e⟩ := pm_2_in hm
    · exact pm_shs_dj n1 hi hj hij k' k hk' hk (e'.symm.trans e)
    · exact n2 i k' k hi hk' hk (e'.symm.trans e)
/-- into the history -/
theorem pm_hc_to {A : Nat → Prop} {D : va_G} {H H1 : Heap} {y : Nat → ClassId} {h : Nat → Nat} {b : Nat → Nat → Nat} {B : Nat → Nat → Nat → Nat} {f : Nat → Option Nat} {kn : Nat} {q : Nat → Nat} {S : Nat → Nat → Nat} (hP : va_P D vwCl (pm_hc y h b B f kn q S) H) (hD : va_D A (pm_hc y h b B f kn q S)) {j : Nat} (hj : j < 7) (hk : ∀ a : Nat, a < H.size → ¬ pm_ad (pm_shS y (b j) (B j) ++ pm_shS y q S) a → H1[a]? = H[a]?) (hP1 : va_P D vwCl (pm_shS y (b j) S ++ pm_shS y q S) H1) : va_P D vwCl (pm_hc y h b (pm_ub B j S) f kn q S) H1 := by
  refine pm_emb hP hk hP1 (fun z hz => ?_)
  rcases pm_hc_in.mp hz with h1 | ⟨i, hi, h1⟩ | h1
  · exact Or.inr (pm_hc_rest hD hj (Or.inl h1))
  · unfold pm_ub at h1
    by_cases e : i = j
    · rw [if_pos e] at h1
      subst e
      exact Or.inl (List.mem_append_left _ h1)
    · rw [if_neg e] at h1
      exact Or.inr (pm_hc_rest hD hj (Or.inr ⟨i, hi, e, h1⟩))
  · exact Or.inl (List.mem_append_right _ h1)
/-- out of the history -/
theorem pm_hc_of {A : Nat → Prop} {D : va_G} {H H1 : Heap} {y : Nat → ClassId} {h : Nat → Nat} {b : Nat → Nat → Nat} {B : Nat → Nat → Nat → Nat} {f : Nat → Option Nat} {kn : Nat} {q : Nat → Nat} {S : Nat → Nat → Nat} (hP : va_P D vwCl (pm_hc y h b B f kn q S) H) (hD : va_D A (pm_hc y h b B f kn q S)) {j : Nat} (hj : j < 7) (hk : ∀ a : Nat, a < H.size → ¬ pm_ad (pm_shS y q S ++ pm_shS y (b j) (B j)) a → H1[a]? = H[a]?) (hP1 : va_P D vwCl (pm_shS y q (B j) ++ pm_shS y (b j) (B j)) H1) : va_P D vwCl (pm_hc y h b B f kn q (B j)) H1 := by
  have sw : ∀ a, ¬ a ∈ (pm_shS y (b j) (B j) ++ pm_shS y q S).map Prod.fst → ¬ a ∈ (pm_shS y q S ++ pm_shS y (b j) (B j)).map Prod.fst := fun a g z => g (by
    rw [List.map_append, List.mem_append] at z ⊢
    exact z.symm)
  refine pm_emb hP hk hP1 (fun z hz => ?_)
  rcases pm_hc_in.mp hz with h1 | ⟨i, hi, h1⟩ | h1
  · have g := pm_hc_rest hD hj (S1 := B j) (S2 := S) (Or.inl h1)
    exact Or.inr ⟨g.1, sw _ g.2⟩
  · by_cases e : i = j
    · subst e
      exact Or.inl (List.mem_append_right _ h1)
    · have g := pm_hc_rest hD hj (S1 := B j) (S2 := S) (Or.inr ⟨i, hi, e, h1⟩)
      exact Or.inr ⟨g.1, sw _ g.2⟩
  · exact Or.inl (List.mem_append_left _ h1)
theorem pm_hc_P {D : va_G} {H : Heap} {y : Nat → ClassId} {h : Nat → Nat} {b : Nat → Nat → Nat} {B : Nat → Nat → Nat → Nat} {f : Nat → Option Nat} {kn : Nat} {q : Nat → Nat} {S : Nat → Nat → Nat} (hP : va_P D vwCl (pm_hc y h b B f kn q S) H) {j : Nat} (hj : j < 7) : va_P D vwCl (pm_shS y (b j) (B j) ++ pm_shS y q S) H ∧ va_P D vwCl (pm_shS y q S ++ pm_shS y (b j) (B j)) H := by
  have g := (pm_hc_sub y h b B f kn q S hj).subset
  refine ⟨pm_P_mem hP (fun z hz => g hz), pm_P_mem hP (fun z hz => g ?_)⟩
  rw [List.mem_append] at hz ⊢
  exact hz.symm
theorem pm_hc_D {A : Nat → Prop} {y : Nat → ClassId} {h : Nat → Nat} {b : Nat → Nat → Nat} {B : Nat → Nat → Nat → Nat} {f : Nat → Option Nat} {kn : Nat} {q : Nat → Nat} {S : Nat → Nat → Nat} (hD : va_D A (pm_hc y h b B f kn q S)) {j : Nat} (hj : j < 7) : va_D A (pm_shS y (b j) (B j) ++ pm_shS y q S) ∧ va_D A (pm_shS y q S ++ pm_shS y (b j) (B j)) := by
  have g := pm_hc_sub y h b B f kn q S hj
  have nd := ((pm_D_nd.mp hD).1).sublist (g.map Prod.fst)
  refine ⟨pm_D_sub hD nd (fun z hz => ⟨z, g.subset hz, rfl⟩), pm_D_sub hD ?_ (fun z hz => ⟨z, g.subset ?_, rfl⟩)⟩
  · rw [List.map_append] at nd ⊢
    exact (List.perm_append_comm.nodup_iff).mp nd
  · rw [List.mem_append] at hz ⊢
    exact hz.symm

