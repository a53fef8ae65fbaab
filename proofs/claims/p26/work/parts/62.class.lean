/-! ===== the class as a whole ===== -/
/- layouts: L 0: object, slots row, saved row; L 1: history; L 2: sheet; L 3: pad; L (4 + i): the history's sheets; L (11 + i): the slots' -/
def pm_bL (L : Nat → Nat → Nat) : Nat → Nat → Nat := fun i => L (4 + i)
def pm_gL (L : Nat → Nat → Nat) : Nat → Nat → Nat := fun i => L (11 + i)
abbrev pm_PT : Type := (Nat → Nat) × Nat × Nat × Int32 × Int32 × Int32 × Int32 × Int32
def pm_cO (L : Nat → Nat → Nat) : va_W := [(L 0 0, .inr (3, [.ref (L 2 0), .ref (L 1 0), .ref (L 3 0), .ref (L 0 1), .ref (L 0 2)]))]
def pm_cH (y : Nat → ClassId) (L : Nat → Nat → Nat) (Bs : Nat → Nat → Nat → Nat) (pi : Nat → Nat) (kn : Nat) : va_W := pm_hi y (L 1) (pm_bL L) Bs (pm_rf (pm_bL L) pi) kn
def pm_cP (y : Nat → ClassId) (L : Nat → Nat → Nat) (U : pm_PT) : va_W := pm_pad y (L 3) U.1 U.2.1 U.2.2.1 U.2.2.2.1 U.2.2.2.2.1 U.2.2.2.2.2.1 U.2.2.2.2.2.2.1 U.2.2.2.2.2.2.2
def pm_cG (y : Nat → ClassId) (L : Nat → Nat → Nat) (Gs : Nat → Nat → Nat → Nat) (sv : Nat → Nat) : va_W := [(L 0 1, .inl (y 3, 2, .inr (.inr (.inr (.inr (fun i => some (pm_gL L i 0))))))), (L 0 2, .inl (y 2, 2, .inl (pm_vn sv)))] ++ pm_shs y (pm_gL L) Gs 2
def pm_cl (y : Nat → ClassId) (L : Nat → Nat → Nat) (S : Nat → Nat → Nat) (Bs : Nat → Nat → Nat → Nat) (pi : Nat → Nat) (kn : Nat) (Gs : Nat → Nat → Nat → Nat) (sv : Nat → Nat) (U : pm_PT) : va_W := pm_cO L ++ (pm_cH y L Bs pi kn ++ (pm_shS y (L 2) S ++ (pm_cP y L U ++ pm_cG y L Gs sv)))
section PMCL
variable (y : Nat → ClassId) (L : Nat → Nat → Nat) (S : Nat → Nat → Nat) (Bs : Nat → Nat → Nat → Nat) (pi : Nat → Nat) (kn : Nat) (Gs : Nat → Nat → Nat → Nat) (sv : Nat → Nat) (U : pm_PT)
/-- the history in the middle -/
theorem pm_cl_h : pm_cl y L S Bs pi kn Gs sv U = pm_cO L ++ (pm_cH y L Bs pi kn ++ (pm_shS y (L 2) S ++ (pm_cP y L U ++ pm_cG y L Gs sv))) := rfl
/-- the sheet in the middle -/
theorem pm_cl_s : pm_cl y L S Bs pi kn Gs sv U = (pm_cO L ++ pm_cH y L Bs pi kn) ++ (pm_shS y (L 2) S ++ (pm_cP y L U ++ pm_cG y L Gs sv)) := by
  unfold pm_cl
  rw [List.append_assoc]
/-- history and sheet in the middle -/
theorem pm_cl_hs : pm_cl y L S Bs pi kn Gs sv U = pm_cO L ++ (pm_hc y (L 1) (pm_bL L) Bs (pm_rf (pm_bL L) pi) kn (L 2) S ++ (pm_cP y L U ++ pm_cG y L Gs sv)) := by
  unfold pm_cl pm_hc pm_cH
  rw [List.append_assoc]
/-- the pad in the middle -/
theorem pm_cl_p : pm_cl y L S Bs pi kn Gs sv U = (pm_cO L ++ (pm_cH y L Bs pi kn ++ pm_shS y (L 2) S)) ++ (pm_cP y L U ++ pm_cG y L Gs sv) := by
  unfold pm_cl
  rw [List.append_assoc, List.append_assoc]
end PMCL
theorem pm_cl_fst (y : Nat → ClassId) (L : Nat → Nat → Nat) (S S' : Nat → Nat → Nat) (Bs Bs' : Nat → Nat → Nat → Nat) (pi pi' : Nat → Nat) (kn kn' : Nat) (Gs Gs' : Nat → Nat → Nat → Nat) (sv sv' : Nat → Nat) (U U' : pm_PT) : (pm_cl y L S Bs pi kn Gs sv U).map Prod.fst = (pm_cl y L S' Bs' pi' kn' Gs' sv' U').map Prod.fst := by
  unfold pm_cl pm_cH pm_hi pm_cP pm_cG
  simp only [List.map_append, pm_shs_fst y (pm_bL L) Bs Bs', pm_shs_fst y (pm_gL L) Gs Gs']
  rfl
/-- what always holds of the class's history and slots -/
def pm_CI (Bs : Nat → Nat → Nat → Nat) (pi : Nat → Nat) (kn : Nat) (Gs : Nat → Nat → Nat → Nat) (sv : Nat → Nat) (Hs Sl : Nat → Nat → Nat → Nat) : Prop := (∀ i, i < 7 → pi i < 7) ∧ (∀ i j, i < 7 → j < 7 → pi i = pi j → i = j) ∧ kn ≤ 6 ∧ (∀ i, i < kn → Bs (pi i) = Hs i) ∧ (∀ i, i < 2 → sv i = 1 → Gs i = Sl i)
theorem pm_kp_7 {pi : Nat → Nat} {kn : Nat} (h : ∀ i, i < 7 → pi i < 7) : ∀ i, i < 7 → pm_kp pi kn i < 7 := by
  intro i hi
  unfold pm_kp
  split
  · unfold pm_rt
    split
    · exact h 0 (by decide)
    · unfold pm_rot
      rw [if_pos (by omega)]
      exact h (i + 1) (by omega)
  · exact h i hi
theorem pm_rt_1 (pi : Nat → Nat) {i : Nat} (hi : i < 6) : pm_rt pi i = pi (i + 1) := by
  unfold pm_rt pm_rot
  rw [if_neg (by omega), if_pos hi]
theorem pm_rt_6 (pi : Nat → Nat) : pm_rt pi 6 = pi 0 := if_pos rfl
theorem pm_kp_i {pi : Nat → Nat} {kn : Nat} (h : ∀ i j, i < 7 → j < 7 → pi i = pi j → i = j) : ∀ i j, i < 7 → j < 7 → pm_kp pi kn i = pm_kp pi kn j → i = j := by
  intro i j hi hj
  unfold pm_kp
  split
  · intro e
    rcases (show i < 6 ∨ i = 6 by omega) with g | rfl <;> rcases (show j < 6 ∨ j = 6 by omega) with g2 | rfl
    · rw [pm_rt_1 pi g, pm_rt_1 pi g2] at e
      have := h _ _ (by omega) (by omega) e
      omega
    · rw [pm_rt_1 pi g, pm_rt_6] at e
      have := h _ _ (by omega) (by omega) e
      omega
    · rw [pm_rt_6, pm_rt_1 pi g2] at e
      have := h _ _ (by omega) (by omega) e
      omega
    · rfl
  · exact h i j hi hj
/-- noted and kept: the history's states are those with S behind -/
theorem pm_keep_H {Bs : Nat → Nat → Nat → Nat} {pi : Nat → Nat} {kn : Nat} {Hs : Nat → Nat → Nat → Nat} {S : Nat → Nat → Nat} (hp : ∀ i j, i < 7 → j < 7 → pi i = pi j → i = j) (hkn : kn ≤ 6) (h : ∀ i, i < kn → Bs (pi i) = Hs i) : ∀ i, i < pm_kn kn → pm_ub Bs (pi kn) S (pm_kp pi kn i) = pm_push Hs kn S i := by
  intro i hi
  unfold pm_kn at hi
  unfold pm_push pm_kp pm_ub
  by_cases h6 : kn = 6
  · rw [if_pos h6] at hi
    rw [if_pos h6, if_pos h6, pm_rt_1 pi hi]
    by_cases h5 : i = 5
    · subst h5
      rw [h6, if_pos rfl, if_pos rfl]
    · rw [if_neg h5, if_neg (fun e => by have := hp _ _ (by omega) (by omega) e; omega)]
      exact h (i + 1) (by omega)
  · rw [if_neg h6] at hi
    rw [if_neg h6, if_neg h6]
    by_cases hk : i = kn
    · subst hk
      rw [if_pos rfl, if_pos rfl]
    · rw [if_neg hk, if_neg (fun e => hk (hp _ _ (by omega) (by omega) e))]
      exact h i (by omega)

