/-! ===== the class as a whole ===== -/
structure pm_St where
  S : Nat → Nat → Nat
  Bs : Nat → Nat → Nat → Nat
  pi : Nat → Nat
  kn : Nat
  Gs : Nat → Nat → Nat → Nat
  sv : Nat → Nat
  P : Nat → Nat
  ln : Nat
  a : Nat
  o : Int32
  ed : Int32
  ot : Int32
  nm : Int32
  sz : Int32
/-- layouts: o (object, slots row, saved row), h (history), q (sheet), pq (pad), b (the history's sheets), g (the slots') -/
structure pm_Ly where
  o : Nat → Nat
  h : Nat → Nat
  q : Nat → Nat
  pq : Nat → Nat
  b : Nat → Nat → Nat
  g : Nat → Nat → Nat
def pm_cO (L : pm_Ly) : va_W := [(L.o 0, .inr (3, [.ref (L.q 0), .ref (L.h 0), .ref (L.pq 0), .ref (L.o 1), .ref (L.o 2)]))]
def pm_cH (y : Nat → ClassId) (L : pm_Ly) (X : pm_St) : va_W := pm_hi y L.h L.b X.Bs (pm_rf L.b X.pi) X.kn
def pm_cP (y : Nat → ClassId) (L : pm_Ly) (X : pm_St) : va_W := pm_pad y L.pq X.P X.ln X.a X.o X.ed X.ot X.nm X.sz
def pm_cG (y : Nat → ClassId) (L : pm_Ly) (X : pm_St) : va_W := [(L.o 1, .inl (y 3, 2, .inr (.inr (.inr (.inr (fun i => some (L.g i 0))))))), (L.o 2, .inl (y 2, 2, .inl (pm_vn X.sv)))] ++ pm_shs y L.g X.Gs 2
def pm_cl (y : Nat → ClassId) (L : pm_Ly) (X : pm_St) : va_W := pm_cO L ++ (pm_cH y L X ++ (pm_shS y L.q X.S ++ (pm_cP y L X ++ pm_cG y L X)))
/-- the history in the middle -/
theorem pm_cl_h (y : Nat → ClassId) (L : pm_Ly) (X : pm_St) : pm_cl y L X = pm_cO L ++ (pm_cH y L X ++ (pm_shS y L.q X.S ++ (pm_cP y L X ++ pm_cG y L X))) := rfl
/-- the sheet in the middle -/
theorem pm_cl_s (y : Nat → ClassId) (L : pm_Ly) (X : pm_St) : pm_cl y L X = (pm_cO L ++ pm_cH y L X) ++ (pm_shS y L.q X.S ++ (pm_cP y L X ++ pm_cG y L X)) := by
  unfold pm_cl
  rw [List.append_assoc]
/-- history and sheet in the middle -/
theorem pm_cl_hs (y : Nat → ClassId) (L : pm_Ly) (X : pm_St) : pm_cl y L X = pm_cO L ++ (pm_hc y L.h L.b X.Bs (pm_rf L.b X.pi) X.kn L.q X.S ++ (pm_cP y L X ++ pm_cG y L X)) := by
  unfold pm_cl pm_hc pm_cH
  rw [List.append_assoc]
/-- the pad in the middle -/
theorem pm_cl_p (y : Nat → ClassId) (L : pm_Ly) (X : pm_St) : pm_cl y L X = (pm_cO L ++ (pm_cH y L X ++ pm_shS y L.q X.S)) ++ (pm_cP y L X ++ pm_cG y L X) := by
  unfold pm_cl
  rw [List.append_assoc, List.append_assoc]
theorem pm_cl_fst (y : Nat → ClassId) (L : pm_Ly) (X Z : pm_St) : (pm_cl y L X).map Prod.fst = (pm_cl y L Z).map Prod.fst := by
  unfold pm_cl pm_cH pm_hi pm_cP pm_cG
  simp only [List.map_append, pm_shs_fst y L.b X.Bs Z.Bs, pm_shs_fst y L.g X.Gs Z.Gs]
  rfl
/-- what always holds of the class's state; Hs, Sl: the history's and the slots' states -/
def pm_CI (X : pm_St) (Hs : Nat → Nat → Nat → Nat) (Sl : Nat → Nat → Nat → Nat) : Prop := (∀ i, i < 7 → X.pi i < 7) ∧ (∀ i j, i < 7 → j < 7 → X.pi i = X.pi j → i = j) ∧ X.kn ≤ 6 ∧ (∀ i, i < X.kn → X.Bs (X.pi i) = Hs i) ∧ (∀ i, i < 2 → X.sv i = 1 → X.Gs i = Sl i)
theorem pm_kp_7 {pi : Nat → Nat} {kn : Nat} (h : ∀ i, i < 7 → pi i < 7) : ∀ i, i < 7 → pm_kp pi kn i < 7 := by
  intro i hi
  unfold pm_kp
  split
  · unfold pm_rt
    split
    · exact h 0 (by decide)
    · unfold pm_rot
      rw [if_pos (by omega)]
      exact h (i + 1) (by omega)
  · exact h i hi
theorem pm_rt_1 (pi : Nat → Nat) {i : Nat} (hi : i < 6) : pm_rt pi i = pi (i + 1) := by
  unfold pm_rt pm_rot
  rw [if_neg (by omega), if_pos hi]
theorem pm_rt_6 (pi : Nat → Nat) : pm_rt pi 6 = pi 0 := if_pos rfl
theorem pm_kp_i {pi : Nat → Nat} {kn : Nat} (h : ∀ i j, i < 7 → j < 7 → pi i = pi j → i = j) : ∀ i j, i < 7 → j < 7 → pm_kp pi kn i = pm_kp pi kn j → i = j := by
  intro i j hi hj
  unfold pm_kp
  split
  · intro e
    rcases (show i < 6 ∨ i = 6 by omega) with g | rfl <;> rcases (show j < 6 ∨ j = 6 by omega) with g2 | rfl
    · rw [pm_rt_1 pi g, pm_rt_1 pi g2] at e
      have := h _ _ (by omega) (by omega) e
      omega
    · rw [pm_rt_1 pi g, pm_rt_6] at e
      have := h _ _ (by omega) (by omega) e
      omega
    · rw [pm_rt_6, pm_rt_1 pi g2] at e
      have := h _ _ (by omega) (by omega) e
      omega
    · rfl
  · exact h i j hi hj
/-- noted and kept: the history's states are those with S behind -/
theorem pm_keep_H {Bs : Nat → Nat → Nat → Nat} {pi : Nat → Nat} {kn : Nat} {Hs : Nat → Nat → Nat → Nat} {S : Nat → Nat → Nat} (hp : ∀ i j, i < 7 → j < 7 → pi i = pi j → i = j) (hkn : kn ≤ 6) (h : ∀ i, i < kn → Bs (pi i) = Hs i) : ∀ i, i < pm_kn kn → pm_ub Bs (pi kn) S (pm_kp pi kn i) = pm_push Hs kn S i := by
  intro i hi
  unfold pm_kn at hi
  unfold pm_push pm_kp pm_ub
  by_cases h6 : kn = 6
  · rw [if_pos h6] at hi
    rw [if_pos h6, if_pos h6, pm_rt_1 pi hi]
    by_cases h5 : i = 5
    · subst h5
      rw [h6, if_pos rfl, if_pos rfl]
    · rw [if_neg h5, if_neg (fun e => by have := hp _ _ (by omega) (by omega) e; omega)]
      exact h (i + 1) (by omega)
  · rw [if_neg h6] at hi
    rw [if_neg h6, if_neg h6]
    by_cases hk : i = kn
    · subst hk
      rw [if_pos rfl, if_pos rfl]
    · rw [if_neg hk, if_neg (fun e => hk (hp _ _ (by omega) (by omega) e))]
      exact h i (by omega)
