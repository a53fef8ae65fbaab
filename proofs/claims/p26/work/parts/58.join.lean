/-! ===== behind a maker ===== -/
theorem pm_A1 {c : Nat × va_E} {sz q : Nat} : va_A [c] sz q ↔ q = c.1 ∨ sz ≤ q := by
  constructor
  · rintro (⟨k, e, h⟩ | h)
    · cases k with
      | zero =>
        have h2 : c = (q, e) := Option.some.inj h
        rw [h2]
        exact Or.inl rfl
      | succ k => cases h
    · exact Or.inr h
  · rintro (h | h)
    · subst h
      exact Or.inl ⟨0, c.2, rfl⟩
    · exact Or.inr h
theorem pm_hF {A0 : Nat → Prop} {W : va_W} {c : Nat × va_E} {s0 sz : Nat} (hD : va_D A0 (W ++ [c])) (hA : ∀ q, s0 ≤ q → A0 q) (hs : s0 ≤ sz) : ∀ q, va_A [c] sz q → A0 q := fun q h => by
  rcases pm_A1.mp h with h | h
  · rw [h]
    exact (pm_D_nd.mp hD).2 c (List.mem_append_right _ List.mem_cons_self)
  · exact hA q (by omega)
theorem pm_joinN {A0 : Nat → Prop} {D : va_G} {cl : List vw_C} {W w1 : va_W} {c : Nat × va_E} {H H1 : Heap} (hP : va_P D cl (W ++ [c]) H) (hD : va_D A0 (W ++ [c])) (hk : ∀ q : Nat, q < H.size → ¬ va_A [c] H.size q → H1[q]? = H[q]?) (hF : ∀ q, va_A [c] H.size q → A0 q) (hP1 : va_P D cl w1 H1) (hD1 : va_D (va_A [c] H.size) w1) : va_P D cl (W ++ w1) H1 ∧ va_D A0 (W ++ w1) := by
  have hd := pm_D_nd.mp hD
  have nd := hd.1
  rw [List.map_append, List.nodup_append] at nd
  obtain ⟨n1, n2, n3⟩ := nd
  have out : ∀ z ∈ W, va_at D cl z H ∧ z.1 < H.size ∧ ¬ va_A [c] H.size z.1 := fun z hz => by
    obtain ⟨k, hkz⟩ := List.getElem?_of_mem (List.mem_append_left [c] hz)
    have hat := hP k z hkz
    refine ⟨hat, hat.lt, fun h => ?_⟩
    rcases pm_A1.mp h with h | h
    · exact n3 z.1 (List.mem_map_of_mem hz) c.1 (List.mem_map_of_mem List.mem_cons_self) h
    · have := hat.lt
      omega
  refine ⟨fun k z hkz => ?_, pm_D_nd.mpr ⟨?_, fun z hz => ?_⟩⟩
  · rcases List.mem_append.mp (List.mem_of_getElem? hkz) with h | h
    · obtain ⟨h1, h2, h3⟩ := out z h
      exact h1.kept (hk _ h2 h3)
    · obtain ⟨i, hi⟩ := List.getElem?_of_mem h
      exact hP1 i z hi
  · rw [List.map_append, List.nodup_append]
    refine ⟨n1, (pm_D_nd.mp hD1).1, fun a ha b hb e => ?_⟩
    obtain ⟨z, hz, rfl⟩ := List.mem_map.mp ha
    obtain ⟨z2, hz2, rfl⟩ := List.mem_map.mp hb
    have := (pm_D_nd.mp hD1).2 z2 hz2
    rw [← e] at this
    exact (out z hz).2.2 this
  · rcases List.mem_append.mp hz with h | h
    · exact hd.2 z (List.mem_append_left _ h)
    · exact hF _ ((pm_D_nd.mp hD1).2 z h)
theorem pm_mkr_blind {D : va_G} {tys : List (ClassId × FieldType)} {av : List Value} {w : va_W} {sz : Nat} : FrameBlind (pm_mkr D tys av w sz) := fun _ U g mk q => ⟨q.1, q.2.1, q.2.2.1, va_K.moved (u := U) (U := U.calling g mk _) (Vm.Alike.refl U.vm) q.2.2.2.1, q.2.2.2.2⟩
theorem pm_mkr_pre {D : va_G} {tys : List (ClassId × FieldType)} {av : List Value} {w : va_W} {s : State} {H : Heap} {A : Nat → Prop} (hP : va_P D vwCl w H) (hK : va_K D vwCl tys s) (hD : va_D A w) : ∀ U : State, U.heap = H → s.WarmedH U.vm → pm_mkr D tys av w H.size av.toArray U := fun U hU hW => ⟨rfl, by rw [hU], by rw [hU]; exact hP, va_K.moved hW.alike hK, hD.weaken (fun _ _ _ _ => trivial)⟩
theorem pm_last {D : va_G} {cl : List vw_C} {A : Nat → Prop} {W : va_W} {c : Nat × va_E} {H : Heap} (hP : va_P D cl (W ++ [c]) H) (hD : va_D A (W ++ [c])) : va_P D cl [c] H ∧ va_D A [c] :=
  ⟨pm_P_mem hP (fun z hz => List.mem_append_right _ hz), pm_D_nd.mpr ⟨by simp, fun z hz => (pm_D_nd.mp hD).2 z (List.mem_append_right _ hz)⟩⟩
/-- the references of a history in the making -/
def pm_fi (b : Nat → Nat → Nat) (i : Nat) : Nat → Option Nat := fun j => if j < i then some (b j 0) else none
def pm_bu (b : Nat → Nat → Nat) (i : Nat) (u : Nat → Nat) : Nat → Nat → Nat := fun j => if j = i then u else b j
theorem pm_bu_s (b : Nat → Nat → Nat) (i : Nat) (u : Nat → Nat) : va_up (pm_fi b i) i (some (u 0)) = pm_fi (pm_bu b i u) (i + 1) := by
  funext j
  unfold va_up pm_fi pm_bu
  by_cases e : j = i
  · subst e
    rw [if_pos rfl, if_pos (by omega), if_pos rfl]
  · rw [if_neg e]
    by_cases g : j < i
    · rw [if_pos g, if_pos (by omega), if_neg e]
    · rw [if_neg g, if_neg (by omega)]
theorem pm_shs_c (y : Nat → ClassId) (b b2 : Nat → Nat → Nat) (B : Nat → Nat → Nat → Nat) : ∀ n, (∀ j, j < n → b j = b2 j) → pm_shs y b B n = pm_shs y b2 B n
  | 0, _ => rfl
  | n + 1, h => by rw [pm_shs, pm_shs, pm_shs_c y b b2 B n (fun j hj => h j (by omega)), h n (by omega)]
theorem pm_shs_b (y : Nat → ClassId) (b : Nat → Nat → Nat) (B : Nat → Nat → Nat → Nat) (i : Nat) (u : Nat → Nat) : pm_shs y b B i ++ pm_shS y u (B i) = pm_shs y (pm_bu b i u) B (i + 1) := by
  rw [pm_shs, pm_shs_c y (pm_bu b i u) b B i (fun j hj => if_neg (by omega))]
  unfold pm_bu
  rw [if_pos rfl]
/-- a history of i sheets, in the making -/
def pm_hmk (y : Nat → ClassId) (h0 h1 : Nat) (b : Nat → Nat → Nat) (i : Nat) : va_W := [(h0, .inr (0, [.ref h1, .int (nI 0)])), (h1, .inl (y 3, 7, .inr (.inr (.inr (.inr (pm_fi b i))))))] ++ pm_shs y b (fun _ => pm_S0) i
theorem pm_hmk_7 (y : Nat → ClassId) (h0 h1 : Nat) (b : Nat → Nat → Nat) {D : va_G} {H : Heap} (hP : va_P D vwCl (pm_hmk y h0 h1 b 7) H) : va_P D vwCl (pm_hi y (fun k => [h0, h1].getD k 0) b (fun _ => pm_S0) (pm_rf b (fun j => j)) 0) H := by
  intro k z hk
  cases k with
  | zero => cases hk; exact hP 0 _ rfl
  | succ k =>
    cases k with
    | zero =>
      cases hk
      have h0 := hP 1 _ rfl
      refine h0.trans (congrArg some ?_)
      rw [vp_cell_q, vp_cell_q, arrV, arrV]
      congr 1
    | succ k => exact hP (k + 2) z hk

