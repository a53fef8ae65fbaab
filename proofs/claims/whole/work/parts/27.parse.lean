/-! ===== the texts ===== -/
def pm_sg (P : Nat → Nat) (ln p : Nat) : Nat := if p < ln then P p else 0
def pm_dg (P : Nat → Nat) (ln p : Nat) : Option Nat := if p < ln ∧ 48 ≤ P p ∧ P p ≤ 57 then some (P p - 48) else none
/-- where a thing ends (inl), or where reading gets stuck (inr) -/
def pm_bd (w : Nat ⊕ Nat) (f : Nat → Nat ⊕ Nat) : Nat ⊕ Nat := match w with
  | .inl p => f p
  | .inr g => .inr g
def pm_de (P : Nat → Nat) (ln p : Nat) : Nat ⊕ Nat := if (pm_dg P ln p).isSome = true then .inl (p + 1) else .inr p
def pm_ne (P : Nat → Nat) (ln p : Nat) : Nat ⊕ Nat := match pm_dg P ln p with
  | none => .inr p
  | some d => if 0 < d ∧ (pm_dg P ln (p + 1)).isSome = true then .inl (p + 2) else .inl (p + 1)
def pm_bh (P : Nat → Nat) (ln c p : Nat) : Nat ⊕ Nat := if p < ln ∧ P p = c then .inl (p + 1) else .inr p
def pm_na (P : Nat → Nat) (ln p : Nat) : Nat := if 0 < (pm_dg P ln p).getD 0 ∧ (pm_dg P ln (p + 1)).isSome = true then 10 * (pm_dg P ln p).getD 0 + (pm_dg P ln (p + 1)).getD 0 else (pm_dg P ln p).getD 0
def pm_ft (f : Nat) : Int32 := -1 - nI f
def pm_en (w : Nat ⊕ Nat) : Int32 := match w with
  | .inl p => nI p
  | .inr f => pm_ft f
def pm_sz (w : Nat ⊕ Nat) : Nat := match w with
  | .inl p => p
  | .inr f => f
theorem pm_ft_neg {f : Nat} (h : f < 2 ^ 30) : pm_ft f < 0 := by
  have e : pm_ft f = -nI (f + 1) := by
    unfold pm_ft
    rw [← nI_1]
    apply Int32.toBitVec_inj.mp
    simp only [Int32.toBitVec_sub, Int32.toBitVec_neg, Int32.toBitVec_add]
    have a : (1 : Int32).toBitVec = 1#32 := rfl
    rw [a]
    grind
  rw [e, Int32.lt_iff_toInt_lt, sb_negT (by omega)]
  have z : (0 : Int32).toInt = 0 := rfl
  rw [z]
  omega
theorem pm_ft_ft (f : Nat) : -1 - pm_ft f = nI f := by
  unfold pm_ft
  apply Int32.toBitVec_inj.mp
  simp only [Int32.toBitVec_sub, Int32.toBitVec_neg]
  have a : (1 : Int32).toBitVec = 1#32 := rfl
  rw [a]
  grind
theorem pm_dg9 {P : Nat → Nat} {ln p d : Nat} (h : pm_dg P ln p = some d) : d < 10 ∧ p < ln := by
  unfold pm_dg at h
  split at h
  · cases h
    omega
  · cases h
theorem pm_dg_t {P : Nat → Nat} {ln p : Nat} (h : p < ln) (h1 : 48 ≤ P p ∧ P p ≤ 57) : pm_dg P ln p = some (P p - 48) := by rw [pm_dg, if_pos ⟨h, h1⟩]
theorem pm_dg_f {P : Nat → Nat} {ln p : Nat} (h : ¬ (p < ln ∧ 48 ≤ P p ∧ P p ≤ 57)) : pm_dg P ln p = none := by rw [pm_dg, if_neg h]
theorem pm_sz_de {P : Nat → Nat} {ln : Nat} (w : Nat ⊕ Nat) : pm_sz (pm_bd w (pm_de P ln)) ≤ pm_sz w + 1 := by
  cases w with
  | inl p =>
    show pm_sz (pm_de P ln p) ≤ p + 1
    unfold pm_de
    split
    · exact Nat.le_refl _
    · exact Nat.le_succ _
  | inr f => exact Nat.le_succ _
theorem pm_sz_ne {P : Nat → Nat} {ln : Nat} (w : Nat ⊕ Nat) : pm_sz (pm_bd w (pm_ne P ln)) ≤ pm_sz w + 2 := by
  cases w with
  | inl p =>
    show pm_sz (pm_ne P ln p) ≤ p + 2
    unfold pm_ne
    split
    · exact Nat.le_add_right p 2
    · split
      · exact Nat.le_refl _
      · exact Nat.le_succ _
  | inr f => exact Nat.le_add_right f 2
theorem pm_sz_bh {P : Nat → Nat} {ln c : Nat} (w : Nat ⊕ Nat) : pm_sz (pm_bd w (pm_bh P ln c)) ≤ pm_sz w + 1 := by
  cases w with
  | inl p =>
    show pm_sz (pm_bh P ln c p) ≤ p + 1
    unfold pm_bh
    split
    · exact Nat.le_refl _
    · exact Nat.le_succ _
  | inr f => exact Nat.le_succ _
def pm_oe (P : Nat → Nat) (ln p : Nat) : Nat ⊕ Nat :=
  if pm_sg P ln p = 116 ∨ pm_sg P ln p = 120 ∨ pm_sg P ln p = 111 then pm_bd (pm_bd (pm_bd (.inl (p + 1)) (pm_de P ln)) (pm_bh P ln 46)) (pm_ne P ln)
  else if pm_sg P ln p = 97 then pm_bd (pm_bd (pm_bd (pm_bd (.inl (p + 1)) (pm_de P ln)) (pm_de P ln)) (pm_bh P ln 46)) (pm_ne P ln)
  else if pm_sg P ln p = 114 then .inl (p + 1)
  else if pm_sg P ln p = 112 then pm_bd (pm_bd (pm_bd (.inl (p + 1)) (pm_ne P ln)) (pm_bh P ln 42)) (pm_de P ln)
  else if pm_sg P ln p = 98 then pm_bd (.inl (p + 1)) (pm_ne P ln)
  else .inr p
theorem pm_sz_oe (P : Nat → Nat) (ln p : Nat) : pm_sz (pm_oe P ln p) ≤ p + 6 := by
  unfold pm_oe
  split
  · exact Nat.le_trans (pm_sz_ne _) (by have := pm_sz_bh (P := P) (ln := ln) (c := 46) (pm_bd (.inl (p + 1)) (pm_de P ln)); have := pm_sz_de (P := P) (ln := ln) (.inl (p + 1)); have e : pm_sz (.inl (p + 1)) = p + 1 := rfl; omega)
  · split
    · exact Nat.le_trans (pm_sz_ne _) (by have := pm_sz_bh (P := P) (ln := ln) (c := 46) (pm_bd (pm_bd (.inl (p + 1)) (pm_de P ln)) (pm_de P ln)); have := pm_sz_de (P := P) (ln := ln) (pm_bd (.inl (p + 1)) (pm_de P ln)); have := pm_sz_de (P := P) (ln := ln) (.inl (p + 1)); have e : pm_sz (.inl (p + 1)) = p + 1 := rfl; omega)
    · split
      · exact Nat.add_le_add_left (by decide) p
      · split
        · exact Nat.le_trans (pm_sz_de _) (by have := pm_sz_bh (P := P) (ln := ln) (c := 42) (pm_bd (.inl (p + 1)) (pm_ne P ln)); have := pm_sz_ne (P := P) (ln := ln) (.inl (p + 1)); have e : pm_sz (.inl (p + 1)) = p + 1 := rfl; omega)
        · split
          · exact Nat.le_trans (pm_sz_ne _) (by have e : pm_sz (.inl (p + 1)) = p + 1 := rfl; omega)
          · exact Nat.le_add_right p 6
/-- an order that reads ends behind its first sign, and inside the text -/
theorem pm_de_l {P : Nat → Nat} {ln p e : Nat} (h : pm_de P ln p = .inl e) : e = p + 1 ∧ e ≤ ln ∧ (pm_dg P ln p).isSome = true := by
  unfold pm_de at h
  split at h
  · rename_i c
    cases h
    obtain ⟨d, hd⟩ := Option.isSome_iff_exists.mp c
    have := (pm_dg9 hd).2
    exact ⟨rfl, by omega, c⟩
  · cases h
theorem pm_ne_l {P : Nat → Nat} {ln p e : Nat} (h : pm_ne P ln p = .inl e) : p < e ∧ e ≤ ln ∧ (pm_dg P ln p).isSome = true ∧ (e = p + 1 ∨ e = p + 2) := by
  unfold pm_ne at h
  split at h
  · cases h
  · rename_i d hd
    have := (pm_dg9 hd).2
    split at h
    · rename_i c
      cases h
      obtain ⟨d2, hd2⟩ := Option.isSome_iff_exists.mp c.2
      have := (pm_dg9 hd2).2
      exact ⟨by omega, by omega, by rw [hd]; rfl, Or.inr rfl⟩
    · cases h
      exact ⟨by omega, by omega, by rw [hd]; rfl, Or.inl rfl⟩
theorem pm_bh_l {P : Nat → Nat} {ln c p e : Nat} (h : pm_bh P ln c p = .inl e) : e = p + 1 ∧ e ≤ ln ∧ P p = c := by
  unfold pm_bh at h
  split at h
  · rename_i z
    cases h
    exact ⟨rfl, by omega, z.2⟩
  · cases h
theorem pm_bd_l {w : Nat ⊕ Nat} {f : Nat → Nat ⊕ Nat} {e : Nat} (h : pm_bd w f = .inl e) : ∃ p, w = .inl p ∧ f p = .inl e := by
  cases w with
  | inl p => exact ⟨p, rfl, h⟩
  | inr g => cases h
/-- the kinds of order that read -/
theorem pm_oe_l {P : Nat → Nat} {ln p e : Nat} (h : pm_oe P ln p = .inl e) : p < e ∧ e ≤ ln := by
  have hp : p < ln ∨ ¬ p < ln := Nat.lt_or_ge p ln |>.imp id (fun z => by omega)
  have hsg : ¬ p < ln → pm_sg P ln p = 0 := fun z => by rw [pm_sg, if_neg z]
  unfold pm_oe at h
  split at h
  · obtain ⟨a, h1, h2⟩ := pm_bd_l h
    obtain ⟨b, h3, h4⟩ := pm_bd_l h1
    have h5 := pm_de_l (show pm_de P ln (p + 1) = .inl b from h3)
    have h6 := pm_bh_l h4
    have h7 := pm_ne_l h2
    omega
  · split at h
    · obtain ⟨a, h1, h2⟩ := pm_bd_l h
      obtain ⟨b, h3, h4⟩ := pm_bd_l h1
      obtain ⟨c, h5, h6⟩ := pm_bd_l h3
      have g1 := pm_de_l (show pm_de P ln (p + 1) = .inl c from h5)
      have g2 := pm_de_l h6
      have g3 := pm_bh_l h4
      have g4 := pm_ne_l h2
      omega
    · split at h
      · rename_i h1
        cases h
        rcases hp with z | z
        · omega
        · rw [hsg z] at h1
          exact absurd h1 (by decide)
      · split at h
        · obtain ⟨a, h1, h2⟩ := pm_bd_l h
          obtain ⟨b, h3, h4⟩ := pm_bd_l h1
          have g1 := pm_ne_l (show pm_ne P ln (p + 1) = .inl b from h3)
          have g2 := pm_bh_l h4
          have g3 := pm_de_l h2
          omega
        · split at h
          · have g1 := pm_ne_l (show pm_ne P ln (p + 1) = .inl e from h)
            omega
          · cases h
/-- where the order number k begins -/
def pm_pos (P : Nat → Nat) (ln : Nat) : Nat → Nat
  | 0 => 0
  | k + 1 => pm_sz (pm_oe P ln (pm_pos P ln k)) + 1
def pm_flt (P : Nat → Nat) (ln : Nat) : Nat → Nat → Option Nat
  | 0, _ => none
  | n + 1, p => match pm_oe P ln p with
    | .inr f => some f
    | .inl e => if e = ln then none else if e < ln ∧ P e = 59 then pm_flt P ln n (e + 1) else some e
def pm_fa (P : Nat → Nat) (ln : Nat) : Int32 := match pm_flt P ln 80 0 with
  | none => -6
  | some f => nI f
theorem pm_flt_r {P : Nat → Nat} {ln n p f : Nat} (h : pm_oe P ln p = .inr f) : pm_flt P ln (n + 1) p = some f := by rw [pm_flt, h]
theorem pm_flt_e {P : Nat → Nat} {ln n p e : Nat} (h : pm_oe P ln p = .inl e) (he : e = ln) : pm_flt P ln (n + 1) p = none := by
  rw [pm_flt, h]
  exact if_pos he
theorem pm_flt_x {P : Nat → Nat} {ln n p e : Nat} (h : pm_oe P ln p = .inl e) (he : ¬ e = ln) (h2 : ¬ (e < ln ∧ P e = 59)) : pm_flt P ln (n + 1) p = some e := by
  rw [pm_flt, h]
  show (if e = ln then none else if e < ln ∧ P e = 59 then pm_flt P ln n (e + 1) else some e) = some e
  rw [if_neg he, if_neg h2]
theorem pm_flt_s {P : Nat → Nat} {ln n p e : Nat} (h : pm_oe P ln p = .inl e) (he : ¬ e = ln) (h2 : e < ln ∧ P e = 59) : pm_flt P ln (n + 1) p = pm_flt P ln n (e + 1) := by
  rw [pm_flt, h]
  show (if e = ln then none else if e < ln ∧ P e = 59 then pm_flt P ln n (e + 1) else some e) = _
  rw [if_neg he, if_pos h2]
theorem pm_pos_s {P : Nat → Nat} {ln k e : Nat} (h : pm_oe P ln (pm_pos P ln k) = .inl e) : pm_pos P ln (k + 1) = e + 1 := by
  rw [pm_pos, h]
  rfl
theorem pm_fa_none {P : Nat → Nat} {ln : Nat} (h : pm_flt P ln 80 0 = none) : pm_fa P ln = -6 := by rw [pm_fa, h]
theorem pm_fa_some {P : Nat → Nat} {ln f : Nat} (h : pm_flt P ln 80 0 = some f) : pm_fa P ln = nI f := by rw [pm_fa, h]
/-- the pad's signs -/
def pm_PI (P : Nat → Nat) (ln : Nat) : Prop := ln ≤ 80 ∧ ∀ p, p < ln → 33 ≤ P p ∧ P p ≤ 126
theorem pm_sg_t {P : Nat → Nat} {ln p : Nat} (h : p < ln) : pm_sg P ln p = P p := by rw [pm_sg, if_pos h]
theorem pm_sg_f {P : Nat → Nat} {ln p : Nat} (h : ¬ p < ln) : pm_sg P ln p = 0 := by rw [pm_sg, if_neg h]
