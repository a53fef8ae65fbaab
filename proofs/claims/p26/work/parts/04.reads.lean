/-! ===== what the reading calls answer ===== -/
def pm_pk (S : Nat → Nat → Nat) (f : Nat) : Bool := decide (S 0 f = 1 ∨ S 0 f = 3)
theorem pm_pk_t {S : Nat → Nat → Nat} {f : Nat} (h : S 0 f = 1 ∨ S 0 f = 3) : pm_pk S f = true := decide_eq_true h
theorem pm_pk_i {S : Nat → Nat → Nat} {f : Nat} : pm_pk S f = true ↔ (S 0 f = 1 ∨ S 0 f = 3) := by simp [pm_pk]
/-- how many below n are so -/
def pm_num (P : Nat → Bool) : Nat → Nat
  | 0 => 0
  | n + 1 => pm_num P n + if P n = true then 1 else 0
theorem pm_num_p {P : Nat → Bool} {n : Nat} (h : P n = true) : pm_num P (n + 1) = pm_num P n + 1 := by rw [pm_num, if_pos h]
theorem pm_num_n {P : Nat → Bool} {n : Nat} (h : P n = false) : pm_num P (n + 1) = pm_num P n + 0 := by rw [pm_num, if_neg (by rw [h]; decide)]
theorem pm_num_le (P : Nat → Bool) : ∀ n, pm_num P n ≤ n
  | 0 => Nat.le_refl 0
  | n + 1 => by
    have := pm_num_le P n
    rw [pm_num]
    split <;> omega
theorem pm_num_eq {P Q : Nat → Bool} : ∀ n, (∀ k, k < n → P k = Q k) → pm_num P n = pm_num Q n
  | 0, _ => rfl
  | n + 1, h => by rw [pm_num, pm_num, pm_num_eq n (fun k hk => h k (by omega)), h n (by omega)]
theorem pm_num_add {P Q R : Nat → Bool} : ∀ n, (∀ k, k < n → (R k = true ↔ (P k = true ∨ Q k = true)) ∧ ¬ (P k = true ∧ Q k = true)) → pm_num R n = pm_num P n + pm_num Q n
  | 0, _ => rfl
  | n + 1, h => by
    obtain ⟨h1, h2⟩ := h n (by omega)
    rw [pm_num, pm_num, pm_num, pm_num_add n (fun k hk => h k (by omega))]
    by_cases hp : P n = true <;> by_cases hq : Q n = true
    · exact absurd ⟨hp, hq⟩ h2
    · rw [if_pos (h1.mpr (Or.inl hp)), if_pos hp, if_neg hq]; omega
    · rw [if_pos (h1.mpr (Or.inr hq)), if_neg hp, if_pos hq]; omega
    · rw [if_neg (fun z => (h1.mp z).elim hp hq), if_neg hp, if_neg hq]; omega
theorem pm_num_0 {P : Nat → Bool} : ∀ n, (∀ k, k < n → P k = false) → pm_num P n = 0
  | 0, _ => rfl
  | n + 1, h => by rw [pm_num, pm_num_0 n (fun k hk => h k (by omega)), h n (by omega)]; rfl
theorem pm_num_cut {P : Nat → Bool} {f : Nat} : ∀ n, f ≤ n → (∀ k, f ≤ k → k < n → P k = false) → pm_num P n = pm_num P f
  | 0, hf, _ => by rw [show f = 0 by omega]
  | n + 1, hf, h => by
    by_cases hn : f = n + 1
    · rw [hn]
    · rw [pm_num, pm_num_cut n (by omega) (fun k h1 h2 => h k h1 (by omega)), h n (by omega) (by omega)]
      simp
theorem pm_pc0 {x : Nat} (h : x < 8) : pm_pc x = 0 ↔ x = 0 := by
  unfold pm_pc
  omega
theorem pm_T3 : ∀ m, m < 64 → pm_okb m = true → (pm_tk m = 0 ∧ pm_ck m = 0 ↔ m = 0) := by decide +kernel
theorem pm_zero {m : Nat} (h : pm_okb m = true) : pm_tk m = 0 ∧ pm_ck m = 0 ↔ m = 0 := pm_T3 m (pm_okb64 h) h
theorem pm_dl_1 {S : Nat → Nat → Nat} {f : Nat} (h : S 4 f = 0) : pm_dl S f = S 1 f + 1 := by rw [pm_dl, if_pos h]
theorem pm_dl_0 {S : Nat → Nat → Nat} {f : Nat} (h : ¬ S 4 f = 0) : pm_dl S f = 0 := by rw [pm_dl, if_neg h]
theorem pm_dl_le (S : Nat → Nat → Nat) (f : Nat) : pm_dl S f ≤ S 1 f + 1 := by
  unfold pm_dl
  split <;> omega
theorem pm_aft3 (S : Nat → Nat → Nat) (f : Nat) : pm_aft S f < 3 := by
  unfold pm_aft
  (repeat' split) <;> omega
theorem pm_ci_p {x : Nat} (h : 0 < x) : pm_ci x = nI (x - 1) := by rw [pm_ci, if_neg (by omega)]
theorem pm_cases (x : Int32) {n : Nat} (hn : n < 2 ^ 31) : (x < 0 ∨ nI n ≤ x) ∨ ∃ j : Nat, j < n ∧ x = nI j := by
  rcases pk_ix x hn with h | h | h
  · exact Or.inl (Or.inl h)
  · exact Or.inl (Or.inr h)
  · exact Or.inr h
theorem pm_swout {x : Int32} {n : Nat} (hn : n + 1 < 2 ^ 31) (h : x < 0 ∨ nI (n + 1) ≤ x) : x.toInt < 0 ∨ (n : Int) < x.toInt := by
  rcases h with h | h
  · exact Or.inl (Int32.lt_iff_toInt_lt.mp h)
  · have a := Int32.le_iff_toInt_le.mp h
    rw [nI_toInt hn] at a
    omega
def pm_of (S : Nat → Nat → Nat) (f w : Int32) : Int32 := match pm_ix f 30 with
  | none => -1
  | some f => match pm_ix w 6 with
    | none => -2
    | some 0 => nI (S 0 f)
    | some 1 => nI (pm_tk (S 4 f))
    | some 2 => nI (pm_ck (S 4 f))
    | some 3 => nI (S 1 f)
    | some 4 => nI (S 2 f)
    | some _ => pm_ci (S 3 f)
def pm_ed (S : Nat → Nat → Nat) (e w : Int32) : Int32 := match pm_ix e 3 with
  | none => -1
  | some e => match pm_ix w 7 with
    | none => -2
    | some 0 => nI (S 5 e)
    | some 1 => nI (pm_cnt S e 1 30)
    | some 2 => nI (pm_cnt S e 2 30)
    | some 3 => nI (S 9 1 - pm_cnt S e 2 30)
    | some 4 => nI (S 6 e)
    | some 5 => nI (S 7 e)
    | some _ => nI (S 8 e)
def pm_hm (S : Nat → Nat → Nat) (v : Nat) : Nat → Nat := pm_num (fun k => decide (S 0 k = v))
/-- the row of picked frames that ends ahead of n; the longest one below n -/
def pm_rl (S : Nat → Nat → Nat) : Nat → Nat
  | 0 => 0
  | n + 1 => if pm_pk S n = true then (if n % 6 = 0 then 0 else pm_rl S n) + 1 else 0
def pm_lm (S : Nat → Nat → Nat) : Nat → Nat
  | 0 => 0
  | n + 1 => if pm_lm S n < pm_rl S (n + 1) then pm_rl S (n + 1) else pm_lm S n
theorem pm_rl_le (S : Nat → Nat → Nat) : ∀ n, pm_rl S n ≤ n
  | 0 => Nat.le_refl 0
  | n + 1 => by
    have := pm_rl_le S n
    rw [pm_rl]
    (repeat' split) <;> omega
theorem pm_lm_le (S : Nat → Nat → Nat) : ∀ n, pm_lm S n ≤ n
  | 0 => Nat.le_refl 0
  | n + 1 => by
    have := pm_lm_le S n
    have := pm_rl_le S (n + 1)
    rw [pm_lm]
    split <;> omega
def pm_co (S : Nat → Nat → Nat) (w : Int32) : Int32 := match pm_ix w 15 with
  | none => -2
  | some 0 => nI (S 10 0)
  | some 1 => nI (pm_hm S 0 30)
  | some 2 => nI (pm_hm S 1 30)
  | some 3 => nI (pm_hm S 2 30)
  | some 4 => nI (pm_hm S 3 30)
  | some 5 => nI (S 10 1)
  | some 6 => nI (S 10 2)
  | some 7 => nI (S 11 1)
  | some 8 => nI (S 11 2)
  | some 9 => nI (S 11 3)
  | some 10 => nI (pm_lm S 30)
  | some 11 => nI (S 9 0)
  | some 12 => nI (S 9 1)
  | some 13 => nI (S 9 2)
  | some _ => nI (S 9 3)
def pm_why (S : Nat → Nat → Nat) (f : Int32) : Int32 := match pm_ix f 30 with
  | none => -1
  | some f => if S 0 f ≠ 0 then nI 1 else if pm_ck (S 4 f) ≠ 0 then nI 2 else if S 9 0 ≤ pm_tc (S 4 f) then nI 0 else nI 3
def pm_bc (S : Nat → Nat → Nat) (v : Nat) : Nat → Nat := pm_num (fun k => decide (S 0 k = 0 ∧ pm_aft S k = v))
def pm_ifr (S : Nat → Nat → Nat) (w : Int32) : Int32 := match pm_ix w 3 with
  | none => -2
  | some 0 => nI (pm_bc S 1 30)
  | some 1 => nI (pm_bc S 2 30)
  | some _ => nI (pm_bc S 0 30)
/-- would a frame with the marks m be chosen, where n ticks are wanted -/
def pm_wd (n m : Nat) : Bool := decide (pm_ck m = 0 ∧ n ≤ pm_tc m)
/-- would another mark of the editor i change that: some of the first c marks -/
def pm_mc (n m i : Nat) : Nat → Bool
  | 0 => false
  | c + 1 => pm_mc n m i c || (pm_wd n (pm_sm m i c) != pm_wd n m)
def pm_ds (S : Nat → Nat → Nat) (f : Nat) : Nat → Nat
  | 0 => 0
  | n + 1 => pm_ds S f n + if S 0 f = 0 ∧ pm_mc (S 9 0) (S 4 f) n 3 = true then 2 ^ n else 0
def pm_dec (S : Nat → Nat → Nat) (f : Int32) : Int32 := match pm_ix f 30 with
  | none => -1
  | some f => nI (pm_ds S f 3)
def pm_bo (S : Nat → Nat → Nat) (e o : Nat) : Nat → Nat := pm_num (fun k => decide (¬ pm_mk (S 4 k) e = 0 ∧ ¬ pm_mk (S 4 k) o = 0))
def pm_sa (S : Nat → Nat → Nat) (e o : Nat) : Nat → Nat := pm_num (fun k => decide ((¬ pm_mk (S 4 k) e = 0 ∧ ¬ pm_mk (S 4 k) o = 0) ∧ pm_mk (S 4 k) e = pm_mk (S 4 k) o))
def pm_agr (S : Nat → Nat → Nat) (e o : Int32) : Int32 := match pm_ix e 3 with
  | none => -1
  | some e => match pm_ix o 3 with
    | none => -1
    | some o => if pm_bo S e o 30 = 0 then nI 100 else nI (100 * pm_sa S e o 30 / pm_bo S e o 30)
def pm_pf (S : Nat → Nat → Nat) : Nat → Nat
  | 0 => 0
  | n + 1 => pm_pf S n + if S 0 n = 1 then 10 * S 2 n * S 2 n else 0
theorem pm_pf_p {S : Nat → Nat → Nat} {n : Nat} (h : S 0 n = 1) : pm_pf S (n + 1) = pm_pf S n + 10 * S 2 n * S 2 n := by rw [pm_pf, if_pos h]
theorem pm_pf_n {S : Nat → Nat → Nat} {n : Nat} (h : ¬ S 0 n = 1) : pm_pf S (n + 1) = pm_pf S n := by rw [pm_pf, if_neg h]; rfl
/-- how many picked frames were chosen ahead of f -/
def pm_ahd (S : Nat → Nat → Nat) (f : Nat) : Nat := pm_num (fun k => decide (pm_pk S k = true ∧ (S 3 k < S 3 f ∨ (S 3 k = S 3 f ∧ k < f)))) 30
def pm_isch (S : Nat → Nat → Nat) (rank r : Int32) : Prop := (∃ f, f < 30 ∧ (S 0 f = 1 ∨ S 0 f = 3) ∧ rank = nI (pm_ahd S f) ∧ r = nI f) ∨ ((∀ f, f < 30 → (S 0 f = 1 ∨ S 0 f = 3) → ¬ rank = nI (pm_ahd S f)) ∧ r = -1)
def pm_A (S : Nat → Nat → Nat) (r : Nat) : Nat → Nat := pm_num (fun k => decide (pm_pk S k = true ∧ S 3 k ≤ r))
def pm_B (S : Nat → Nat → Nat) (r : Nat) : Nat → Nat := pm_num (fun k => decide (pm_pk S k = true ∧ S 3 k = r + 1))
theorem pm_AB (S : Nat → Nat → Nat) (r n : Nat) : pm_A S (r + 1) n = pm_A S r n + pm_B S r n := by
  refine pm_num_add n (fun k _ => ⟨?_, ?_⟩)
  · simp only [decide_eq_true_eq]
    constructor
    · rintro ⟨a, b⟩
      rcases (show S 3 k ≤ r ∨ S 3 k = r + 1 by omega) with h | h
      · exact Or.inl ⟨a, h⟩
      · exact Or.inr ⟨a, h⟩
    · rintro (⟨a, b⟩ | ⟨a, b⟩)
      · exact ⟨a, by omega⟩
      · exact ⟨a, by omega⟩
  · simp only [decide_eq_true_eq]
    rintro ⟨⟨_, a⟩, ⟨_, b⟩⟩
    omega
theorem pm_A0 {S : Nat → Nat → Nat} (hI : pm_Inv S) : pm_A S 0 30 = 0 := by
  refine pm_num_0 30 (fun k hk => decide_eq_false ?_)
  rintro ⟨a, b⟩
  have := hI.pick k hk (pm_pk_i.mp a)
  omega
theorem pm_ahd_at {S : Nat → Nat → Nat} {r f : Nat} (hf : f < 30) (h : S 3 f = r + 1) : pm_ahd S f = pm_A S r 30 + pm_B S r f := by
  have e : pm_B S r f = pm_num (fun k => decide (pm_pk S k = true ∧ S 3 k = r + 1 ∧ k < f)) 30 := by
    rw [pm_num_cut (f := f) 30 (by omega) (fun k h1 _ => decide_eq_false (fun z => by omega))]
    exact pm_num_eq f (fun k hk => decide_eq_decide.mpr ⟨fun z => ⟨z.1, z.2, hk⟩, fun z => ⟨z.1, z.2.1⟩⟩)
  rw [e]
  refine pm_num_add 30 (fun k _ => ⟨?_, ?_⟩)
  · simp only [decide_eq_true_eq]
    rw [h]
    constructor
    · rintro ⟨a, b | ⟨b, c⟩⟩
      · exact Or.inl ⟨a, by omega⟩
      · exact Or.inr ⟨a, b, c⟩
    · rintro (⟨a, b⟩ | ⟨a, b, c⟩)
      · exact ⟨a, Or.inl (by omega)⟩
      · exact ⟨a, Or.inr ⟨b, c⟩⟩
  · simp only [decide_eq_true_eq]
    rintro ⟨⟨_, a⟩, ⟨_, b, _⟩⟩
    omega
theorem pm_num_lt {P Q : Nat → Bool} {f : Nat} : ∀ n, f < n → (∀ k, k < n → P k = true → Q k = true) → P f = false → Q f = true → pm_num P n < pm_num Q n
  | 0, hf, _, _, _ => absurd hf (Nat.not_lt_zero f)
  | n + 1, hf, h, h1, h2 => by
    rw [pm_num, pm_num]
    by_cases hn : f = n
    · subst hn
      have := pm_num_mono f (fun k hk => h k (by omega))
      rw [if_neg (by rw [h1]; decide), if_pos h2]
      omega
    · have := pm_num_lt n (by omega) (fun k hk => h k (by omega)) h1 h2
      by_cases hp : P n = true
      · rw [if_pos hp, if_pos (h n (by omega) hp)]; omega
      · rw [if_neg hp]; split <;> omega
where
  pm_num_mono {P Q : Nat → Bool} : ∀ n, (∀ k, k < n → P k = true → Q k = true) → pm_num P n ≤ pm_num Q n
  | 0, _ => Nat.le_refl 0
  | n + 1, h => by
    have := pm_num_mono n (fun k hk => h k (by omega))
    rw [pm_num, pm_num]
    by_cases hp : P n = true
    · rw [if_pos hp, if_pos (h n (by omega) hp)]; omega
    · rw [if_neg hp]; split <;> omega
theorem pm_ahd_lt {S : Nat → Nat → Nat} {f g : Nat} (hf : f < 30) (pf : pm_pk S f = true) (h : S 3 f < S 3 g ∨ (S 3 f = S 3 g ∧ f < g)) : pm_ahd S f < pm_ahd S g := by
  refine pm_num_lt 30 hf (fun k _ hk => ?_) (decide_eq_false (by rintro ⟨_, z | z⟩ <;> omega)) (decide_eq_true ⟨pf, h⟩)
  simp only [decide_eq_true_eq] at hk ⊢
  obtain ⟨a, b⟩ := hk
  exact ⟨a, by omega⟩
theorem pm_ahd_inj {S : Nat → Nat → Nat} {f g : Nat} (hf : f < 30) (hg : g < 30) (pf : pm_pk S f = true) (pg : pm_pk S g = true) (h : pm_ahd S f = pm_ahd S g) : f = g := by
  rcases (show (S 3 f < S 3 g ∨ (S 3 f = S 3 g ∧ f < g)) ∨ (S 3 g < S 3 f ∨ (S 3 g = S 3 f ∧ g < f)) ∨ f = g by omega) with z | z | z
  · exact absurd (pm_ahd_lt hf pf z) (by omega)
  · exact absurd (pm_ahd_lt hg pg z) (by omega)
  · exact z
theorem pm_ahd_le (S : Nat → Nat → Nat) (f : Nat) : pm_ahd S f ≤ 30 := pm_num_le _ 30
theorem pm_isch_u {S : Nat → Nat → Nat} {k r r' : Int32} (h : pm_isch S k r) (h' : pm_isch S k r') : r = r' := by
  rcases h with ⟨f, hf, pf, e, rfl⟩ | ⟨h, rfl⟩
  · rcases h' with ⟨g, hg, pg, e', rfl⟩ | ⟨h', rfl⟩
    · have := pm_ahd_le S f
      have := pm_ahd_le S g
      rw [pm_ahd_inj hf hg (pm_pk_t pf) (pm_pk_t pg) ((nI_eq (by omega) (by omega)).mp (e.symm.trans e'))]
    · exact absurd e (h' f hf pf)
  · rcases h' with ⟨g, hg, pg, e', rfl⟩ | ⟨h', rfl⟩
    · exact absurd e' (h g hg pg)
    · rfl

