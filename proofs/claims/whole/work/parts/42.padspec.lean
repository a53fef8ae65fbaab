/-! ===== the pad's cells ===== -/
def pm_pad (y : Nat → ClassId) (q : Nat → Nat) (P : Nat → Nat) (ln a : Nat) (o ed ot nm sz : Int32) : va_W :=
  [(q 0, .inr (1, [.ref (q 1), .int (nI ln), .int (nI a), .int o, .int ed, .int ot, .int nm, .int sz])), (q 1, .inl (y 1, 80, .inl (pm_vn P)))]
theorem pm_pad_ad (y : Nat → ClassId) (q : Nat → Nat) (P P2 : Nat → Nat) (ln a ln2 a2 : Nat) (o ed ot nm sz o2 ed2 ot2 nm2 sz2 : Int32) : (pm_pad y q P ln a o ed ot nm sz).map Prod.fst = (pm_pad y q P2 ln2 a2 o2 ed2 ot2 nm2 sz2).map Prod.fst := rfl
theorem pm_sg_le {P : Nat → Nat} {ln p : Nat} (h : pm_PI P ln) : pm_sg P ln p ≤ 126 := by
  unfold pm_sg
  split
  · rename_i z
    exact (h.2 p z).2
  · exact Nat.zero_le _
theorem pm_sg_c {P : Nat → Nat} {ln p c : Nat} (hc : 0 < c) (h : pm_sg P ln p = c) : p < ln ∧ P p = c := by
  unfold pm_sg at h
  split at h
  · exact ⟨by assumption, h⟩
  · omega
theorem pm_sg_n {P : Nat → Nat} {ln p c : Nat} (h : ¬ pm_sg P ln p = c) : ¬ (p < ln ∧ P p = c) := fun z => h (by rw [pm_sg_t z.1]; exact z.2)
theorem pm_sgd_t {P : Nat → Nat} {ln p : Nat} (h1 : 48 ≤ pm_sg P ln p) (h2 : pm_sg P ln p ≤ 57) : pm_dg P ln p = some (pm_sg P ln p - 48) := by
  have h := (pm_sg_c (c := pm_sg P ln p) (by omega) rfl).1
  rw [pm_sg_t h] at h1 h2 ⊢
  exact pm_dg_t h ⟨h1, h2⟩
theorem pm_sgd_f {P : Nat → Nat} {ln p : Nat} (h : ¬ (48 ≤ pm_sg P ln p ∧ pm_sg P ln p ≤ 57)) : pm_dg P ln p = none := by
  refine pm_dg_f (fun z => h ?_)
  rw [pm_sg_t z.1]
  exact z.2
/-- what an order that was read leaves in the fields -/
def pm_FS (P : Nat → Nat) (ln p : Nat) (o ed ot nm sz : Int32) : Prop := o = nI (P p) ∧ ((P p = 116 ∨ P p = 120 ∨ P p = 111) → ed = nI (pm_d P ln (p + 1)) ∧ nm = nI (pm_na P ln (p + 3))) ∧ (P p = 97 → ed = nI (pm_d P ln (p + 1)) ∧ ot = nI (pm_d P ln (p + 2)) ∧ nm = nI (pm_na P ln (p + 4))) ∧ (P p = 112 → nm = nI (pm_na P ln (p + 1)) ∧ sz = nI (pm_d P ln (pm_sz (pm_ne P ln (p + 1)) + 1))) ∧ (P p = 98 → nm = nI (pm_na P ln (p + 1)))
theorem pm_d_s {P : Nat → Nat} {ln p d : Nat} (h : pm_dg P ln p = some d) : pm_d P ln p = d := by
  unfold pm_d
  rw [h]
  rfl
theorem pm_neg_1 : (-1 : Int32) < 0 := by decide
theorem pm_ne_c {P : Nat → Nat} {ln p : Nat} : (∃ d, pm_dg P ln p = some d ∧ ((d = 0 ∨ pm_dg P ln (p + 1) = none) ∨ (0 < d ∧ ∃ d2, pm_dg P ln (p + 1) = some d2))) ∨ pm_dg P ln p = none := by
  cases h : pm_dg P ln p with
  | none => exact Or.inr rfl
  | some d =>
    refine Or.inl ⟨d, rfl, ?_⟩
    rcases Nat.eq_zero_or_pos d with hz | hz
    · exact Or.inl (Or.inl hz)
    · cases h2 : pm_dg P ln (p + 1) with
      | none => exact Or.inl (Or.inr rfl)
      | some d2 => exact Or.inr ⟨hz, d2, rfl⟩
