/-! ===== an order of a text ===== -/
def pm_d (P : Nat → Nat) (ln p : Nat) : Nat := (pm_dg P ln p).getD 0
def pm_mi (c : Nat) : Nat := if c = 116 then 1 else if c = 120 then 2 else 0
def pm_ord (S : Nat → Nat → Nat) (P : Nat → Nat) (ln p : Nat) : Int32 × (Nat → Nat → Nat) :=
  if P p = 97 then pm_aArgue S (nI (pm_d P ln (p + 1))) (nI (pm_d P ln (p + 2))) (nI (pm_na P ln (p + 4)))
  else if P p = 114 then pm_aRound S
  else if P p = 112 then pm_aPrint S (nI (pm_na P ln (p + 1))) (nI (pm_d P ln (pm_sz (pm_ne P ln (p + 1)) + 1)))
  else if P p = 98 then pm_aBuy S (nI (pm_na P ln (p + 1)))
  else pm_aMark S (nI (pm_d P ln (p + 1))) (nI (pm_na P ln (p + 3))) (nI (pm_mi (P p)))
theorem pm_ord_inv {S : Nat → Nat → Nat} (hI : pm_Inv S) (P : Nat → Nat) (ln p : Nat) : pm_Inv (pm_ord S P ln p).2 := by
  unfold pm_ord
  (repeat' split)
  · exact pm_aArgue_inv hI _ _ _
  · exact pm_aRound_inv hI
  · exact pm_aPrint_inv hI _ _
  · exact pm_aBuy_inv hI _
  · exact pm_aMark_inv hI _ _ _
/-- the state when k orders were carried out -/
def pm_rs (S : Nat → Nat → Nat) (P : Nat → Nat) (ln : Nat) : Nat → (Nat → Nat → Nat)
  | 0 => S
  | k + 1 => (pm_ord (pm_rs S P ln k) P ln (pm_pos P ln k)).2
theorem pm_rs_inv {S : Nat → Nat → Nat} (hI : pm_Inv S) (P : Nat → Nat) (ln : Nat) : ∀ k, pm_Inv (pm_rs S P ln k)
  | 0 => hI
  | k + 1 => pm_ord_inv (pm_rs_inv hI P ln k) P ln _
/-- the order number k is there, and can be -/
def pm_go (S : Nat → Nat → Nat) (P : Nat → Nat) (ln k : Nat) : Prop := pm_pos P ln k < ln ∧ 0 ≤ (pm_ord (pm_rs S P ln k) P ln (pm_pos P ln k)).1
theorem pm_stop_u {Q : Nat → Prop} {a b : Nat} (ha : ∀ k, k < a → Q k) (hb : ∀ k, k < b → Q k) (na : ¬ Q a) (nb : ¬ Q b) : a = b := by
  rcases Nat.lt_trichotomy a b with h | h | h
  · exact absurd (hb a h) na
  · exact h
  · exact absurd (ha b h) nb
theorem pm_na_le {P : Nat → Nat} {ln p : Nat} : pm_na P ln p ≤ 99 := by
  have g : ∀ q, (pm_dg P ln q).getD 0 < 10 := fun q => by
    cases h : pm_dg P ln q with
    | none => exact (by decide : (0 : Nat) < 10)
    | some d => exact (pm_dg9 h).1
  have a := g p
  have b := g (p + 1)
  unfold pm_na
  split <;> omega
theorem pm_na_2 {P : Nat → Nat} {ln p d d2 : Nat} (h : pm_dg P ln p = some d) (h0 : 0 < d) (h2 : pm_dg P ln (p + 1) = some d2) : pm_na P ln p = 10 * d + d2 := by
  unfold pm_na
  rw [h, h2]
  exact if_pos ⟨h0, rfl⟩
theorem pm_na_1 {P : Nat → Nat} {ln p d : Nat} (h : pm_dg P ln p = some d) (h0 : d = 0 ∨ pm_dg P ln (p + 1) = none) : pm_na P ln p = d := by
  unfold pm_na
  rw [h]
  refine if_neg ?_
  rintro ⟨a, b⟩
  rcases h0 with z | z
  · subst z
    exact absurd a (by decide)
  · rw [z] at b
    exact absurd b (by decide)
theorem pm_some {P : Nat → Nat} {ln p : Nat} (h : (pm_dg P ln p).isSome = true) : ∃ d, pm_dg P ln p = some d := Option.isSome_iff_exists.mp h
theorem pm_k_s {P : Nat → Nat} {ln p e : Nat} (h : pm_oe P ln p = .inl e) : p < ln ∧ (P p = 116 ∨ P p = 120 ∨ P p = 111 ∨ P p = 97 ∨ P p = 114 ∨ P p = 112 ∨ P p = 98) := by
  have hl := pm_oe_l h
  have hp : p < ln := by omega
  have hs := pm_sg_t (P := P) hp
  refine ⟨hp, ?_⟩
  unfold pm_oe at h
  rw [hs] at h
  split at h
  · omega
  · split at h
    · omega
    · split at h
      · omega
      · split at h
        · omega
        · split at h
          · omega
          · cases h
theorem pm_k_t {P : Nat → Nat} {ln p e : Nat} (h : pm_oe P ln p = .inl e) (hs : P p = 116 ∨ P p = 120 ∨ P p = 111) : (∃ d, pm_dg P ln (p + 1) = some d) ∧ (p + 2 < ln ∧ P (p + 2) = 46) ∧ (∃ d, pm_dg P ln (p + 3) = some d) ∧ pm_ne P ln (p + 3) = .inl e := by
  have hp := (pm_k_s h).1
  unfold pm_oe at h
  rw [pm_sg_t hp, if_pos hs] at h
  obtain ⟨a, h1, h2⟩ := pm_bd_l h
  obtain ⟨b, h3, h4⟩ := pm_bd_l h1
  have g1 := pm_de_l (show pm_de P ln (p + 1) = .inl b from h3)
  have g2 := pm_bh_l h4
  have g3 := pm_ne_l h2
  obtain rfl : b = p + 2 := by omega
  obtain rfl : a = p + 3 := by omega
  exact ⟨pm_some g1.2.2, ⟨by omega, g2.2.2⟩, pm_some g3.2.2.1, h2⟩
theorem pm_k_a {P : Nat → Nat} {ln p e : Nat} (h : pm_oe P ln p = .inl e) (hs : P p = 97) : (∃ d, pm_dg P ln (p + 1) = some d) ∧ (∃ d, pm_dg P ln (p + 2) = some d) ∧ (p + 3 < ln ∧ P (p + 3) = 46) ∧ (∃ d, pm_dg P ln (p + 4) = some d) ∧ pm_ne P ln (p + 4) = .inl e := by
  have hp := (pm_k_s h).1
  unfold pm_oe at h
  rw [pm_sg_t hp, if_neg (by omega), if_pos hs] at h
  obtain ⟨a, h1, h2⟩ := pm_bd_l h
  obtain ⟨b, h3, h4⟩ := pm_bd_l h1
  obtain ⟨c, h5, h6⟩ := pm_bd_l h3
  have g0 := pm_de_l (show pm_de P ln (p + 1) = .inl c from h5)
  have g1 := pm_de_l h6
  have g2 := pm_bh_l h4
  have g3 := pm_ne_l h2
  obtain rfl : c = p + 2 := by omega
  obtain rfl : b = p + 3 := by omega
  obtain rfl : a = p + 4 := by omega
  exact ⟨pm_some g0.2.2, pm_some g1.2.2, ⟨by omega, g2.2.2⟩, pm_some g3.2.2.1, h2⟩
theorem pm_k_r {P : Nat → Nat} {ln p e : Nat} (h : pm_oe P ln p = .inl e) (hs : P p = 114) : e = p + 1 := by
  have hp := (pm_k_s h).1
  unfold pm_oe at h
  rw [pm_sg_t hp, if_neg (by omega), if_neg (by omega), if_pos hs] at h
  cases h
  rfl
theorem pm_k_p {P : Nat → Nat} {ln p e : Nat} (h : pm_oe P ln p = .inl e) (hs : P p = 112) : ∃ e1, pm_ne P ln (p + 1) = .inl e1 ∧ (∃ d, pm_dg P ln (p + 1) = some d) ∧ (e1 < ln ∧ P e1 = 42) ∧ (∃ d, pm_dg P ln (e1 + 1) = some d) ∧ e = e1 + 2 ∧ e1 ≤ p + 3 := by
  have hp := (pm_k_s h).1
  unfold pm_oe at h
  rw [pm_sg_t hp, if_neg (by omega), if_neg (by omega), if_neg (by omega), if_pos hs] at h
  obtain ⟨a, h1, h2⟩ := pm_bd_l h
  obtain ⟨b, h3, h4⟩ := pm_bd_l h1
  have h3 : pm_ne P ln (p + 1) = .inl b := h3
  have g1 := pm_ne_l h3
  have g2 := pm_bh_l h4
  have g3 := pm_de_l h2
  obtain rfl : a = b + 1 := by omega
  exact ⟨b, h3, pm_some g1.2.2.1, ⟨by omega, g2.2.2⟩, pm_some g3.2.2, by omega, by omega⟩
theorem pm_k_b {P : Nat → Nat} {ln p e : Nat} (h : pm_oe P ln p = .inl e) (hs : P p = 98) : (∃ d, pm_dg P ln (p + 1) = some d) ∧ pm_ne P ln (p + 1) = .inl e := by
  have hp := (pm_k_s h).1
  unfold pm_oe at h
  rw [pm_sg_t hp, if_neg (by omega), if_neg (by omega), if_neg (by omega), if_neg (by omega), if_pos hs] at h
  have h : pm_ne P ln (p + 1) = .inl e := h
  exact ⟨pm_some (pm_ne_l h).2.2.1, h⟩
theorem pm_ixn {d n : Nat} (hd : d < 2 ^ 31) (hn : n < 2 ^ 31) : pm_ix (nI d) n = if d < n then some d else none := by
  split
  · rename_i h
    exact pm_ix_in h hn
  · rename_i h
    exact pm_ix_out (Or.inr ((nI_leI hn hd).mpr (by omega)))
theorem pm_mark_ok {S : Nat → Nat → Nat} {a b c : Nat} (ha : a < 2 ^ 31) (hb : b < 2 ^ 31) (hc : c < 2 ^ 31) (h : 0 ≤ (pm_aMark S (nI a) (nI b) (nI c)).1) : a < 3 ∧ b < 30 ∧ c < 3 ∧ pm_aMark S (nI a) (nI b) (nI c) = (nI (pm_mk (S 4 b) a), pm_st S 4 b (pm_sm (S 4 b) a c)) := by
  have k1 : ¬ (0 : Int32) ≤ -1 := by decide
  have k2 : ¬ (0 : Int32) ≤ -2 := by decide
  have k4 : ¬ (0 : Int32) ≤ -4 := by decide
  have k5 : ¬ (0 : Int32) ≤ -5 := by decide
  unfold pm_aMark at h ⊢
  rw [pm_ixn ha (by decide), pm_ixn hb (by decide), pm_ixn hc (by decide)] at h ⊢
  by_cases h1 : a < 3
  · by_cases h2 : b < 30
    · by_cases h3 : c < 3
      · simp only [h1, h2, h3, if_true] at h ⊢
        split at h
        · exact absurd h k5
        · split at h
          · exact absurd h k4
          · rename_i z1 z2
            rw [if_neg z1, if_neg z2]
            exact ⟨trivial, trivial, trivial, rfl⟩
      · simp only [h1, h2, h3, if_true, if_false] at h
        exact absurd h k2
    · simp only [h1, h2, if_true, if_false] at h
      exact absurd h k1
  · simp only [h1, if_false] at h
    exact absurd h k1
theorem pm_argue_ok {S : Nat → Nat → Nat} {a b c : Nat} (ha : a < 2 ^ 31) (hb : b < 2 ^ 31) (hc : c < 2 ^ 31) (h : 0 ≤ (pm_aArgue S (nI a) (nI b) (nI c)).1) : a < 3 ∧ b < 3 ∧ c < 30 ∧ ¬ a = b ∧ pm_mk (S 4 c) b = 2 ∧ S 9 2 ≤ S 5 a := by
  have k1 : ¬ (0 : Int32) ≤ -1 := by decide
  have k2 : ¬ (0 : Int32) ≤ -2 := by decide
  have k5 : ¬ (0 : Int32) ≤ -5 := by decide
  unfold pm_aArgue at h
  rw [pm_ixn ha (by decide), pm_ixn hb (by decide), pm_ixn hc (by decide)] at h
  by_cases h1 : a < 3
  · by_cases h2 : b < 3
    · by_cases h3 : c < 30
      · simp only [h1, h2, h3, if_true] at h
        split at h
        · exact absurd h k2
        · split at h
          · exact absurd h k5
          · exact ⟨h1, h2, h3, by assumption, by omega, by omega⟩
      · simp only [h1, h2, h3, if_true, if_false] at h
        exact absurd h k1
    · simp only [h1, h2, if_true, if_false] at h
      exact absurd h k1
  · simp only [h1, if_false] at h
    exact absurd h k1
theorem pm_print_ok {S : Nat → Nat → Nat} {a b : Nat} (ha : a < 2 ^ 31) (hb : b < 2 ^ 31) (h : 0 ≤ (pm_aPrint S (nI a) (nI b)).1) : a < 30 ∧ b < 4 ∧ 0 < b ∧ 10 * b * b ≤ S 10 1 ∧ pm_aPrint S (nI a) (nI b) = (nI (S 10 1 - 10 * b * b), pm_st (pm_st (pm_st (pm_st (pm_st S 0 a 3) 2 a b) 10 1 (S 10 1 - 10 * b * b)) 10 2 (S 10 2 + 10 * b * b)) 11 b (S 11 b + 1)) := by
  have k1 : ¬ (0 : Int32) ≤ -1 := by decide
  have k2 : ¬ (0 : Int32) ≤ -2 := by decide
  have k5 : ¬ (0 : Int32) ≤ -5 := by decide
  unfold pm_aPrint at h ⊢
  rw [pm_ixn ha (by decide), pm_ixn hb (by decide)] at h ⊢
  by_cases h1 : a < 30
  · by_cases h2 : b < 4
    · simp only [h1, h2, if_true] at h ⊢
      split at h
      · exact absurd h k2
      · split at h
        · exact absurd h k5
        · rename_i z1 z2
          rw [if_neg z1, if_neg z2]
          exact ⟨trivial, trivial, by omega, by omega, rfl⟩
    · simp only [h1, h2, if_true, if_false] at h
      exact absurd h k2
  · simp only [h1, if_false] at h
    exact absurd h k1
theorem pm_buy_ok {S : Nat → Nat → Nat} {b : Nat} (hb : b < 2 ^ 31) (h : 0 ≤ (pm_aBuy S (nI b)).1) : b < 100 ∧ 0 < b := by
  have k2 : ¬ (0 : Int32) ≤ -2 := by decide
  unfold pm_aBuy at h
  rw [pm_ixn hb (by decide)] at h
  by_cases h1 : b < 100
  · simp only [h1, if_true] at h
    split at h
    · exact absurd h k2
    · exact ⟨h1, by omega⟩
  · simp only [h1, if_false] at h
    exact absurd h k2
theorem pm_round_ok {S : Nat → Nat → Nat} (h : 0 ≤ (pm_aRound S).1) : S 10 0 < 99 := by
  have k5 : ¬ (0 : Int32) ≤ -5 := by decide
  unfold pm_aRound at h
  split at h
  · exact absurd h k5
  · omega
