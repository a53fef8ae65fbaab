/-! ===== longs, as natural numbers ===== -/
def pm_L (n : Nat) : Int64 := (UInt64.ofNat n).toInt64
theorem pm_L_of (x : Int64) : pm_L x.toUInt64.toNat = x := by
  unfold pm_L
  simp
theorem pm_L_bv (n : Nat) : (pm_L n).toBitVec = BitVec.ofNat 64 n := rfl
theorem pm_L_and (X : Nat) : pm_L X &&& 255 = pm_L (X % 256) := by
  apply Int64.toBitVec.inj
  rw [Int64.toBitVec_and, pm_L_bv, pm_L_bv]
  apply BitVec.eq_of_toNat_eq
  have e : (255 : Int64).toBitVec = BitVec.ofNat 64 255 := rfl
  rw [e]
  simp only [BitVec.toNat_and, BitVec.toNat_ofNat]
  have : (255 : Nat) % 2 ^ 64 = 2 ^ 8 - 1 := by decide
  rw [this, Nat.and_two_pow_sub_one_eq_mod]
  omega
theorem pm_L_u (X : Nat) : (pm_L X).toUInt64 = UInt64.ofNat X := by
  unfold pm_L; simp
theorem pm_L_shr (X k : Nat) (h : X < 2 ^ 64) (hk : k < 64) (b : UInt64) (hb : b.toNat = k) : ((pm_L X).toUInt64 >>> b).toInt64 = pm_L (X / 2 ^ k) := by
  rw [pm_L_u X]
  unfold pm_L
  congr 1
  apply UInt64.toNat.inj
  rw [UInt64.toNat_shiftRight, hb, Nat.mod_eq_of_lt hk, Nat.shiftRight_eq_div_pow, UInt64.toNat_ofNat', UInt64.toNat_ofNat', Nat.mod_eq_of_lt h]
  exact (Nat.mod_eq_of_lt (Nat.lt_of_le_of_lt (Nat.div_le_self _ _) h)).symm
theorem pm_sar (X k : Nat) (hk : k ≤ 56) (b : Int64) (hb : (b.toBitVec.smod (64 : BitVec 64)).toNat = k) : (pm_L X >>> b &&& 255).toInt32 = nI (X / 2 ^ k % 256) := by
  apply Int32.toBitVec.inj
  rw [Int64.toBitVec_toInt32, Int64.toBitVec_and, Int64.toBitVec_shiftRight, pm_L_bv]
  rw [BitVec.sshiftRight', hb]
  apply BitVec.eq_of_getLsbD_eq
  intro i hi
  have e : (nI (X / 2 ^ k % 256)).toBitVec = BitVec.ofNat 32 (X / 2 ^ k % 256) := rfl
  have e2 : (255 : Int64).toBitVec = BitVec.ofNat 64 (2 ^ 8 - 1) := rfl
  rw [e, e2, BitVec.getLsbD_signExtend, BitVec.getLsbD_ofNat]
  rw [show X / 2 ^ k % 256 = X / 2 ^ k % 2 ^ 8 from rfl, Nat.testBit_mod_two_pow, Nat.testBit_div_two_pow]
  rw [BitVec.getLsbD_and, BitVec.getLsbD_sshiftRight, BitVec.getLsbD_ofNat, BitVec.getLsbD_ofNat, Nat.testBit_two_pow_sub_one]
  by_cases h8 : i < 8
  · rw [if_pos (show k + i < 64 by omega), if_pos (show i < 64 by omega)]
    simp [h8, hi, show i < 64 by omega, show k + i < 64 by omega, show ¬ 64 ≤ i by omega, Nat.add_comm]
  · rw [if_pos (show i < 64 by omega)]
    simp [h8]
theorem pm_L_int (b : Nat) (h : b < 2 ^ 63) : (pm_L b).toInt = b := by
  unfold Int64.toInt
  rw [pm_L_bv, BitVec.toInt_eq_toNat_cond, BitVec.toNat_ofNat]
  rw [if_pos (by omega)]
  omega
theorem pm_L_inj {a b : Nat} (ha : a < 2 ^ 64) (hb : b < 2 ^ 64) (h : pm_L a = pm_L b) : a = b := by
  have e := congrArg (fun z : Int64 => z.toBitVec.toNat) h
  simp only [pm_L_bv, BitVec.toNat_ofNat] at e
  omega
theorem pm_L_lt {a b : Nat} (ha : a < 2 ^ 63) (hb : b < 2 ^ 63) : pm_L a < pm_L b ↔ a < b := by
  rw [Int64.lt_iff_toInt_lt, pm_L_int a ha, pm_L_int b hb]
  omega
theorem pm_L_i (b : Nat) : (pm_L b).toInt32 = nI b := by
  apply Int32.toBitVec.inj
  apply BitVec.eq_of_toNat_eq
  unfold pm_L nI
  simp
theorem pm_c0 {X : Nat} (h : X < 2 ^ 64) : lg_cmp (pm_L X) 0 = 0 ↔ X = 0 := by
  have e : (0 : Int64) = pm_L 0 := rfl
  constructor
  · intro z
    unfold lg_cmp at z
    split at z
    · cases z
    · split at z
      · rename_i g
        exact pm_L_inj h (by decide) (g.trans e)
      · cases z
  · intro z
    subst z
    rfl
theorem pm_clt {b : Nat} (h : b < 2 ^ 63) : lg_cmp (pm_L b) 33 < 0 ↔ b < 33 := by
  have e : (33 : Int64) = pm_L 33 := rfl
  rw [e]
  have g := pm_L_lt (a := b) (b := 33) h (by decide)
  have g2 := pm_L_lt (a := 33) (b := b) (by decide) h
  unfold lg_cmp
  by_cases h1 : pm_L b > pm_L 33
  · rw [if_pos h1]
    have := g2.mp h1
    exact ⟨fun z => absurd z (by decide), fun z => by omega⟩
  · rw [if_neg h1]
    have h3 : ¬ 33 < b := fun z => h1 (g2.mpr z)
    by_cases h2 : pm_L b = pm_L 33
    · rw [if_pos h2]
      have := pm_L_inj (by omega) (by decide) h2
      exact ⟨fun z => absurd z (by decide), fun z => by omega⟩
    · rw [if_neg h2]
      have h4 : ¬ b = 33 := fun z => h2 (by rw [z])
      exact ⟨fun _ => by omega, fun _ => by decide⟩
theorem pm_cle {b : Nat} (h : b < 2 ^ 63) : lg_cmp (pm_L b) 126 ≤ 0 ↔ b ≤ 126 := by
  have e : (126 : Int64) = pm_L 126 := rfl
  rw [e]
  have g2 := pm_L_lt (a := 126) (b := b) (by decide) h
  unfold lg_cmp
  by_cases h1 : pm_L b > pm_L 126
  · rw [if_pos h1]
    have := g2.mp h1
    exact ⟨fun z => absurd z (by decide), fun z => by omega⟩
  · rw [if_neg h1]
    have h3 : ¬ 126 < b := fun z => h1 (g2.mpr z)
    by_cases h2 : pm_L b = pm_L 126
    · rw [if_pos h2]
      exact ⟨fun _ => by omega, fun _ => by decide⟩
    · rw [if_neg h2]
      exact ⟨fun _ => by omega, fun _ => by decide⟩
theorem pm_bA {X i : Nat} (hi : i < 8) : (pm_L X >>> ((nI (8 * i)).toInt64 &&& 63) &&& 255).toInt32 = nI (X / 256 ^ i % 256) := by
  rw [show (256 : Nat) = 2 ^ 8 from rfl, ← Nat.pow_mul]
  rcases (show i = 0 ∨ i = 1 ∨ i = 2 ∨ i = 3 ∨ i = 4 ∨ i = 5 ∨ i = 6 ∨ i = 7 by omega) with rfl | rfl | rfl | rfl | rfl | rfl | rfl | rfl <;> exact pm_sar X _ (by decide) _ (by decide)
theorem pm_bU {X i : Nat} (hX : X < 2 ^ 64) (hi : i < 8) : ((pm_L X).toUInt64 >>> ((nI (i * 8)).toInt64.toUInt64 &&& Int64.toUInt64 63)).toInt64 = pm_L (X / 256 ^ i) := by
  rw [show (256 : Nat) = 2 ^ 8 from rfl, ← Nat.pow_mul]
  rcases (show i = 0 ∨ i = 1 ∨ i = 2 ∨ i = 3 ∨ i = 4 ∨ i = 5 ∨ i = 6 ∨ i = 7 by omega) with rfl | rfl | rfl | rfl | rfl | rfl | rfl | rfl <;> exact pm_L_shr X _ hX (by decide) _ (by decide)
theorem pm_b8 {R : Nat} (hR : R < 2 ^ 64) : ((pm_L R).toUInt64 >>> ((nI 8).toInt64.toUInt64 &&& Int64.toUInt64 63)).toInt64 = pm_L (R / 256) := pm_L_shr R 8 hR (by decide) _ (by decide)
theorem pm_dd (X i : Nat) : X / 256 ^ i / 256 = X / 256 ^ (i + 1) := by rw [Nat.div_div_eq_div_mul, Nat.pow_succ]
/-! ===== how many characters a number holds ===== -/
def pm_chN : Nat → Nat → Option Nat
  | 0, _ => some 0
  | n + 1, X => if X = 0 then some 0 else if 33 ≤ X % 256 ∧ X % 256 ≤ 126 then (pm_chN n (X / 256)).map (· + 1) else none
def pm_res (i R : Nat) : Nat := match pm_chN (8 - i) R with
  | some m => i + m
  | none => 0
def pm_many (X : Nat) : Nat := pm_res 0 X
theorem pm_res_8 (R : Nat) : pm_res 8 R = 8 := rfl
theorem pm_res_z {i : Nat} (h : i < 8) : pm_res i 0 = i := by
  unfold pm_res
  rw [show 8 - i = (7 - i) + 1 by omega, pm_chN, if_pos rfl]
  rfl
theorem pm_res_n {i R : Nat} (h : i < 8) (h0 : ¬ R = 0) (hb : ¬ (33 ≤ R % 256 ∧ R % 256 ≤ 126)) : pm_res i R = 0 := by
  unfold pm_res
  rw [show 8 - i = (7 - i) + 1 by omega, pm_chN, if_neg h0, if_neg hb]
theorem pm_res_s {i R : Nat} (h : i < 8) (h0 : ¬ R = 0) (hb : 33 ≤ R % 256 ∧ R % 256 ≤ 126) : pm_res i R = pm_res (i + 1) (R / 256) := by
  unfold pm_res
  rw [show 8 - i = (7 - i) + 1 by omega, show 8 - (i + 1) = 7 - i by omega, pm_chN, if_neg h0, if_pos hb]
  cases pm_chN (7 - i) (R / 256) with
  | none => rfl
  | some m => show i + (m + 1) = i + 1 + m; omega
theorem pm_chN_le : ∀ n X m, pm_chN n X = some m → m ≤ n ∧ ∀ i, i < m → 33 ≤ X / 256 ^ i % 256 ∧ X / 256 ^ i % 256 ≤ 126
  | 0, X, m, h => by cases h; exact ⟨Nat.le_refl 0, fun i hi => absurd hi (Nat.not_lt_zero i)⟩
  | n + 1, X, m, h => by
    rw [pm_chN] at h
    split at h
    · cases h; exact ⟨Nat.zero_le _, fun i hi => absurd hi (Nat.not_lt_zero i)⟩
    · split at h
      · rename_i hb
        cases hc : pm_chN n (X / 256) with
        | none => rw [hc] at h; cases h
        | some k =>
          rw [hc] at h
          cases h
          obtain ⟨h1, h2⟩ := pm_chN_le n _ k hc
          refine ⟨show k + 1 ≤ n + 1 by omega, fun i (hi : i < k + 1) => ?_⟩
          cases i with
          | zero => rw [Nat.pow_zero, Nat.div_one]; exact hb
          | succ j =>
            have := h2 j (by omega)
            rw [Nat.div_div_eq_div_mul, ← Nat.pow_succ'] at this
            exact this
      · cases h
theorem pm_many8 (X : Nat) : pm_many X ≤ 8 ∧ ∀ i, i < pm_many X → 33 ≤ X / 256 ^ i % 256 ∧ X / 256 ^ i % 256 ≤ 126 := by
  unfold pm_many pm_res
  split
  · rename_i m h
    have := pm_chN_le _ _ _ h
    rw [Nat.zero_add]
    exact this
  · exact ⟨Nat.zero_le _, fun i hi => absurd hi (Nat.not_lt_zero i)⟩
/-! ===== the same, as the reference counts ===== -/
def pm_stp (s : Nat × Nat × Nat) (b : Nat) : Nat × Nat × Nat := if s.1 = 1 ∨ b = 0 then (1, if s.2.1 = 1 ∧ b = 0 then 1 else 0, s.2.2) else (0, if s.2.1 = 1 ∧ 33 ≤ b ∧ b ≤ 126 then 1 else 0, s.2.2 + 1)
def pm_ps (X : Nat) : Nat → Nat × Nat × Nat
  | 0 => (0, 1, 0)
  | i + 1 => pm_stp (pm_ps X i) (X / 256 ^ i % 256)
def pm_gl : Nat → Nat × Nat × Nat → Nat → Nat × Nat × Nat
  | 0, s, _ => s
  | n + 1, s, X => pm_gl n (pm_stp s (X % 256)) (X / 256)
theorem pm_gl_s : ∀ n s X, pm_gl (n + 1) s X = pm_stp (pm_gl n s X) (X / 256 ^ n % 256)
  | 0, s, X => by rw [pm_gl, pm_gl, pm_gl, Nat.pow_zero, Nat.div_one]
  | n + 1, s, X => by
    rw [pm_gl, pm_gl_s n, pm_gl, Nat.div_div_eq_div_mul, ← Nat.pow_succ']
theorem pm_ps_gl (X : Nat) : ∀ n, pm_ps X n = pm_gl n (0, 1, 0) X
  | 0 => rfl
  | n + 1 => by rw [pm_ps, pm_ps_gl X n, pm_gl_s]
theorem pm_gl_1 : ∀ n o c X, X < 256 ^ n → o ≤ 1 → pm_gl n (1, o, c) X = (1, if o = 1 ∧ X = 0 then 1 else 0, c)
  | 0, o, c, X, h, ho => by
    rw [Nat.pow_zero] at h
    rw [pm_gl]
    rcases (show o = 0 ∨ o = 1 by omega) with rfl | rfl
    · rfl
    · rw [if_pos ⟨rfl, by omega⟩]
  | n + 1, o, c, X, h, ho => by
    rw [Nat.pow_succ] at h
    have h2 : X / 256 < 256 ^ n := by omega
    rw [pm_gl, pm_stp, if_pos (Or.inl rfl)]
    show pm_gl n (1, (if o = 1 ∧ X % 256 = 0 then 1 else 0), c) (X / 256) = _
    rw [pm_gl_1 n _ c _ h2 (by split <;> omega)]
    by_cases g : o = 1 ∧ X = 0
    · rw [if_pos g, if_pos (show o = 1 ∧ X % 256 = 0 from ⟨g.1, by omega⟩), if_pos ⟨rfl, by omega⟩]
    · rw [if_neg g]
      by_cases g2 : o = 1 ∧ X % 256 = 0
      · rw [if_pos g2, if_neg (by omega)]
      · rw [if_neg g2, if_neg (by omega)]
theorem pm_gl_0 : ∀ n o c X, X < 256 ^ n → o ≤ 1 → (∀ m, pm_chN n X = some m → (pm_gl n (0, o, c) X).2 = (o, c + m)) ∧ (pm_chN n X = none → (pm_gl n (0, o, c) X).2.1 = 0)
  | 0, o, c, X, h, ho => ⟨fun m hm => by cases hm; rfl, fun hm => by cases hm⟩
  | n + 1, o, c, X, h, ho => by
    rw [Nat.pow_succ] at h
    have h2 : X / 256 < 256 ^ n := by omega
    by_cases hX : X = 0
    · subst hX
      rw [pm_chN, if_pos rfl, pm_gl, pm_stp, if_pos (Or.inr (by decide))]
      show (∀ m, _ → (pm_gl n (1, (if o = 1 ∧ 0 % 256 = 0 then 1 else 0), c) (0 / 256)).2 = _) ∧ _
      refine ⟨fun m hm => ?_, fun hm => by cases hm⟩
      cases hm
      rw [pm_gl_1 n _ c _ h2 (by split <;> omega)]
      rcases (show o = 0 ∨ o = 1 by omega) with rfl | rfl <;> rfl
    · rw [pm_chN, if_neg hX, pm_gl, pm_stp]
      by_cases hb0 : X % 256 = 0
      · rw [if_neg (by omega), if_pos (Or.inr hb0)]
        refine ⟨fun m hm => (by cases hm), fun _ => ?_⟩
        show (pm_gl n (1, (if o = 1 ∧ X % 256 = 0 then 1 else 0), c) (X / 256)).2.1 = 0
        rw [pm_gl_1 n _ c _ h2 (by split <;> omega)]
        show (if _ ∧ X / 256 = 0 then 1 else 0) = 0
        rw [if_neg (by omega)]
      · rw [if_neg (show ¬ ((0, o, c).1 = 1 ∨ X % 256 = 0) from fun z => z.elim (fun z => by cases z) hb0)]
        by_cases hb : 33 ≤ X % 256 ∧ X % 256 ≤ 126
        · rw [if_pos hb]
          have e : (if (0, o, c).2.1 = 1 ∧ 33 ≤ X % 256 ∧ X % 256 ≤ 126 then 1 else 0) = o := by
            rcases (show o = 0 ∨ o = 1 by omega) with rfl | rfl
            · rfl
            · exact if_pos ⟨rfl, hb⟩
          rw [e]
          have G := pm_gl_0 n o (c + 1) (X / 256) h2 ho
          have g1 := G.1
          have g2 := G.2
          constructor
          · intro m hm
            cases hc : pm_chN n (X / 256) with
            | none => rw [hc] at hm; cases hm
            | some k =>
              rw [hc] at hm
              cases hm
              rw [show ((0, o, c).2.2 + 1) = c + 1 from rfl, g1 k hc]
              show (o, c + 1 + k) = (o, c + (k + 1))
              rw [show c + 1 + k = c + (k + 1) by omega]
          · intro hm
            cases hc : pm_chN n (X / 256) with
            | none => exact g2 hc
            | some k => rw [hc] at hm; cases hm
        · rw [if_neg hb]
          refine ⟨fun m hm => (by cases hm), fun _ => ?_⟩
          have e : (if (0, o, c).2.1 = 1 ∧ 33 ≤ X % 256 ∧ X % 256 ≤ 126 then 1 else 0) = 0 := if_neg (fun z => hb z.2)
          rw [e]
          have G := pm_gl_0 n 0 (c + 1) (X / 256) h2 (by omega)
          have g1 := G.1
          have g2 := G.2
          cases hc : pm_chN n (X / 256) with
          | none => exact g2 hc
          | some k => exact congrArg Prod.fst (g1 k hc)
theorem pm_ps_many {X : Nat} (h : X < 2 ^ 64) : (¬ (pm_ps X 8).2.1 = 0 → (pm_ps X 8).2.2 = pm_many X) ∧ ((pm_ps X 8).2.1 = 0 → pm_many X = 0) := by
  have h2 : X < 256 ^ 8 := h
  obtain ⟨g1, g2⟩ := pm_gl_0 8 1 0 X h2 (by omega)
  rw [← pm_ps_gl] at g1 g2
  unfold pm_many pm_res
  show (_ → _ = (match pm_chN 8 X with | some m => 0 + m | none => 0)) ∧ (_ → (match pm_chN 8 X with | some m => 0 + m | none => 0) = 0)
  cases hc : pm_chN 8 X with
  | none => exact ⟨fun z => absurd (g2 hc) z, fun _ => rfl⟩
  | some m =>
    have e := g1 m hc
    rw [e]
    exact ⟨fun _ => rfl, fun z => by cases z⟩
theorem pm_ps_f (X i : Nat) : (((pm_ps X i).1 = 1 ∨ X / 256 ^ i % 256 = 0) ∧ (pm_ps X (i + 1)).1 = 1 ∧ (pm_ps X (i + 1)).2.2 = (pm_ps X i).2.2 ∧ (((pm_ps X i).2.1 = 1 ∧ X / 256 ^ i % 256 = 0) ∧ (pm_ps X (i + 1)).2.1 = 1 ∨ ¬ ((pm_ps X i).2.1 = 1 ∧ X / 256 ^ i % 256 = 0) ∧ (pm_ps X (i + 1)).2.1 = 0)) ∨ (¬ ((pm_ps X i).1 = 1 ∨ X / 256 ^ i % 256 = 0) ∧ (pm_ps X (i + 1)).1 = 0 ∧ (pm_ps X (i + 1)).2.2 = (pm_ps X i).2.2 + 1 ∧ (((pm_ps X i).2.1 = 1 ∧ 33 ≤ X / 256 ^ i % 256 ∧ X / 256 ^ i % 256 ≤ 126) ∧ (pm_ps X (i + 1)).2.1 = 1 ∨ ¬ ((pm_ps X i).2.1 = 1 ∧ 33 ≤ X / 256 ^ i % 256 ∧ X / 256 ^ i % 256 ≤ 126) ∧ (pm_ps X (i + 1)).2.1 = 0)) := by
  have e : pm_ps X (i + 1) = pm_stp (pm_ps X i) (X / 256 ^ i % 256) := rfl
  rw [e]
  unfold pm_stp
  by_cases h : (pm_ps X i).1 = 1 ∨ X / 256 ^ i % 256 = 0
  · rw [if_pos h]
    refine Or.inl ⟨h, rfl, rfl, ?_⟩
    by_cases g : (pm_ps X i).2.1 = 1 ∧ X / 256 ^ i % 256 = 0
    · exact Or.inl ⟨g, if_pos g⟩
    · exact Or.inr ⟨g, if_neg g⟩
  · rw [if_neg h]
    refine Or.inr ⟨h, rfl, rfl, ?_⟩
    by_cases g : (pm_ps X i).2.1 = 1 ∧ 33 ≤ X / 256 ^ i % 256 ∧ X / 256 ^ i % 256 ≤ 126
    · exact Or.inl ⟨g, if_pos g⟩
    · exact Or.inr ⟨g, if_neg g⟩
theorem pm_ps_le (X : Nat) : ∀ i, (pm_ps X i).1 ≤ 1 ∧ (pm_ps X i).2.1 ≤ 1 ∧ (pm_ps X i).2.2 ≤ i
  | 0 => ⟨Nat.zero_le _, Nat.le_refl _, Nat.le_refl _⟩
  | i + 1 => by
    have := pm_ps_f X i
    obtain ⟨h1, h2, h3⟩ := pm_ps_le X i
    refine ⟨?_, ?_, ?_⟩ <;> omega
