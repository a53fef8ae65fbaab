/-! ===== the property: what more always holds, and what the calls say of each other ===== -/
def pq_X (S : Nat → Nat → Nat) : Prop := ∀ j, j < 30 → ((S 0 j = 1 ∨ S 0 j = 3) → 0 < S 2 j) ∧ (¬ (S 0 j = 1 ∨ S 0 j = 3) → S 2 j = 0)
def pq_I (S : Nat → Nat → Nat) : Prop := pm_Inv S ∧ pq_X S
theorem pq_X_s {S T : Nat → Nat → Nat} (h : pq_X S) (h0 : ∀ j, j < 30 → T 0 j = S 0 j) (h2 : ∀ j, j < 30 → T 2 j = S 2 j) : pq_X T := fun j hj => by rw [h0 j hj, h2 j hj]; exact h j hj
theorem pq_X_o {S : Nat → Nat → Nat} (h : pq_X S) {c k v : Nat} (hc : ¬ 0 = c) (hc2 : ¬ 2 = c) : pq_X (pm_st S c k v) := pq_X_s h (fun j _ => by rw [pm_st_o hc]) (fun j _ => by rw [pm_st_o hc2])
/-- the history's order -/
def pq_C (pi : Nat → Nat) (kn : Nat) : Prop := (∀ i, i < 7 → pi i < 7) ∧ (∀ i j, i < 7 → j < 7 → pi i = pi j → i = j) ∧ kn ≤ 6
theorem pq_CI {Bs : Nat → Nat → Nat → Nat} {pi : Nat → Nat} {kn : Nat} {Gs : Nat → Nat → Nat → Nat} {sv : Nat → Nat} (h : pq_C pi kn) : pm_CI Bs pi kn Gs sv (fun i => Bs (pi i)) Gs := ⟨h.1, h.2.1, h.2.2, fun _ _ => rfl, fun _ _ _ => rfl⟩
theorem pq_C_k {pi : Nat → Nat} {kn : Nat} (h : pq_C pi kn) : pq_C (pm_kp pi kn) (pm_kn kn) := ⟨pm_kp_7 h.1, pm_kp_i h.2.1, by have := h.2.2; unfold pm_kn; split <;> omega⟩
theorem pq_C_r {pi : Nat → Nat} {kn : Nat} (h : pq_C pi kn) (r : Int32) : pq_C (pm_rp pi kn r) (pm_rk kn r) := by
  unfold pm_rp pm_rk
  by_cases hr : r < 0
  · rw [if_pos hr, if_pos hr]; exact h
  · rw [if_neg hr, if_neg hr]; exact pq_C_k h
theorem pq_C_u {pi : Nat → Nat} {kn : Nat} (h : pq_C pi kn) : pq_C pi (kn - 1) := ⟨h.1, h.2.1, Nat.le_trans (Nat.sub_le _ _) h.2.2⟩
theorem pq_undo {Bs : Nat → Nat → Nat → Nat} {pi : Nat → Nat} {kn : Nat} (h : pq_C pi kn) (S : Nat → Nat → Nat) : 0 < pm_kn kn ∧ pm_ub Bs (pi kn) S (pm_kp pi kn (pm_kn kn - 1)) = S := by
  have h6 := h.2.2
  have e : 0 < pm_kn kn := by unfold pm_kn; split <;> omega
  refine ⟨e, ?_⟩
  rw [pm_keep_H (Hs := fun i => Bs (pi i)) h.2.1 h6 (fun _ _ => rfl) (pm_kn kn - 1) (by omega)]
  unfold pm_push pm_kn
  by_cases hk : kn = 6
  · rw [if_pos hk, if_pos hk]; rfl
  · rw [if_neg hk, if_neg hk]; exact if_pos (by omega)
/-! ===== each change keeps it ===== -/
theorem pq_mark {S : Nat → Nat → Nat} (hI : pq_I S) (a b d : Int32) : pq_I (pm_aMark S a b d).2 := by
  refine ⟨pm_aMark_inv hI.1 a b d, ?_⟩
  unfold pm_aMark
  (repeat' split) <;> first | exact hI.2 | exact pq_X_o hI.2 (by decide) (by decide)
theorem pq_argue {S : Nat → Nat → Nat} (hI : pq_I S) (a b d : Int32) : pq_I (pm_aArgue S a b d).2 := by
  refine ⟨pm_aArgue_inv hI.1 a b d, ?_⟩
  unfold pm_aArgue
  (repeat' split) <;> first | exact hI.2 | exact pq_X_s hI.2 (fun j _ => by simp [pm_st]) (fun j _ => by simp [pm_st])
theorem pq_buy {S : Nat → Nat → Nat} (hI : pq_I S) (a : Int32) : pq_I (pm_aBuy S a).2 := by
  refine ⟨pm_aBuy_inv hI.1 a, ?_⟩
  unfold pm_aBuy
  (repeat' split) <;> first | exact hI.2 | exact pq_X_o hI.2 (by decide) (by decide)
theorem pq_set {S : Nat → Nat → Nat} (hI : pq_I S) (a b : Int32) : pq_I (pm_aSet S a b).2 := by
  refine ⟨pm_aSet_inv hI.1 a b, ?_⟩
  unfold pm_aSet
  (repeat' split) <;> first | exact hI.2 | exact pq_X_o hI.2 (by decide) (by decide)
theorem pq_X_of {S T : Nat → Nat → Nat} (hX : pq_X S) {f v w : Nat} (e0 : ∀ j, T 0 j = if j = f then v else S 0 j) (e2 : ∀ j, T 2 j = if j = f then w else S 2 j) (h1 : (v = 1 ∨ v = 3) → 0 < w) (h2 : ¬ (v = 1 ∨ v = 3) → w = 0) : pq_X T := by
  intro j hj
  rw [e0, e2]
  by_cases hjf : j = f
  · rw [if_pos hjf, if_pos hjf]; exact ⟨h1, h2⟩
  · rw [if_neg hjf, if_neg hjf]; exact hX j hj
theorem pq_print {S : Nat → Nat → Nat} (hI : pq_I S) (a b : Int32) : pq_I (pm_aPrint S a b).2 := by
  refine ⟨pm_aPrint_inv hI.1 a b, ?_⟩
  rcases pm_cases a (n := 30) (by decide) with h | ⟨f, hf, rfl⟩
  · simp only [pm_aPrint, pm_ix_out h]; exact hI.2
  · rcases pm_cases b (n := 4) (by decide) with h | ⟨w, hw, rfl⟩
    · simp only [pm_aPrint, pm_ix_in hf (show (30 : Nat) < 2 ^ 31 by decide), pm_ix_out h]; exact hI.2
    · simp only [pm_aPrint, pm_ix_in hf (show (30 : Nat) < 2 ^ 31 by decide), pm_ix_in hw (show (4 : Nat) < 2 ^ 31 by decide)]
      split
      · exact hI.2
      · split
        · exact hI.2
        · exact pq_X_of hI.2 (f := f) (v := 3) (w := w) (fun j => by simp [pm_st, updN]) (fun j => by simp [pm_st, updN]) (fun _ => by omega) (fun z => absurd (Or.inr rfl) z)
theorem pq_reopen {S : Nat → Nat → Nat} (hI : pq_I S) (a : Int32) : pq_I (pm_aReopen S a).2 := by
  refine ⟨pm_aReopen_inv hI.1 a, ?_⟩
  rcases pm_cases a (n := 30) (by decide) with h | ⟨f, hf, rfl⟩
  · simp only [pm_aReopen, pm_ix_out h]; exact hI.2
  · simp only [pm_aReopen, pm_ix_in hf (show (30 : Nat) < 2 ^ 31 by decide)]
    split
    · exact hI.2
    · exact pq_X_of hI.2 (f := f) (v := 0) (w := 0) (fun j => by simp [pm_st, updN]) (fun j => by simp [pm_st, updN]) (fun z => by omega) (fun _ => rfl)
/-! ===== what a round does, frame by frame ===== -/
theorem pq_rds (S : Nat → Nat → Nat) : ∀ n j, j < n → pm_rds S n 0 j = (if S 0 j = 0 then pm_aft S j else S 0 j) ∧ pm_rds S n 4 j = (if S 0 j = 0 then 0 else S 4 j) ∧ pm_rds S n 1 j = (if S 0 j = 0 then pm_dl S j else S 1 j) ∧ pm_rds S n 2 j = (if S 0 j = 0 ∧ pm_aft S j = 1 then pm_tc (S 4 j) else S 2 j) ∧ pm_rds S n 3 j = (if S 0 j = 0 ∧ pm_aft S j = 1 then S 10 0 + 1 else S 3 j)
  | 0, j, hj => absurd hj (Nat.not_lt_zero j)
  | n + 1, j, hj => by
    have g : ∀ c, c < 8 → pm_rds S n c n = S c n := fun c hc => pm_rds_o S hc n n (Nat.le_refl n)
    by_cases hjn : j = n
    · subst hjn
      by_cases h0 : S 0 j = 0
      · rw [pm_rds_p h0, if_pos h0, if_pos h0, if_pos h0]
        have ea := pm_aft_r S j
        have ed : pm_dl (pm_rds S j) j = pm_dl S j := by unfold pm_dl; rw [g 4 (by decide), g 1 (by decide)]
        have e10 : pm_rds S j 10 0 = S 10 0 := pm_rds_9 S (by decide) 0 j
        generalize hT : pm_rds S j = T at *
        by_cases h1 : pm_aft T j = 1
        · rw [if_pos ⟨h0, by rw [← ea]; exact h1⟩, if_pos ⟨h0, by rw [← ea]; exact h1⟩, pm_jdg_p h1]
          simp only [pm_st, pm_chs]
          simp [updN]
          rw [g 4 (by decide), ea, ed, e10]
          exact ⟨rfl, rfl, rfl, rfl⟩
        · rw [if_neg (fun z => h1 (by rw [ea]; exact z.2)), if_neg (fun z => h1 (by rw [ea]; exact z.2)), pm_jdg_n h1]
          simp only [pm_st]
          simp [updN]
          rw [g 2 (by decide), g 3 (by decide), ea, ed]
          exact ⟨rfl, rfl, rfl, rfl⟩
      · rw [pm_rds_n h0, g 0 (by decide), g 4 (by decide), g 1 (by decide), g 2 (by decide), g 3 (by decide), if_neg h0, if_neg h0, if_neg h0, if_neg (fun z => h0 z.1), if_neg (fun z => h0 z.1)]
        exact ⟨rfl, rfl, rfl, rfl, rfl⟩
    · have ih := pq_rds S n j (by omega)
      by_cases h0 : S 0 n = 0
      · rw [pm_rds_p h0, pm_jdg_o hjn (by decide), pm_jdg_o hjn (by decide), pm_jdg_o hjn (by decide), pm_jdg_o hjn (by decide), pm_jdg_o hjn (by decide)]
        exact ih
      · rw [pm_rds_n h0]
        exact ih
theorem pq_fav (S : Nat → Nat → Nat) (f : Nat) : ∀ n e, pm_fav S f n e = S 8 e + if e < n ∧ pm_mk (S 4 f) e = 1 then 1 else 0
  | 0, e => by simp [pm_fav]
  | n + 1, e => by
    rw [pm_fav]
    have ih := pq_fav S f n
    by_cases h : pm_mk (S 4 f) n = 1
    · rw [if_pos h]
      unfold updN
      by_cases he : e = n
      · subst he
        rw [if_pos rfl, ih, if_neg (by omega), if_pos ⟨by omega, h⟩]
      · rw [if_neg he, ih]
        congr 1
        by_cases h2 : e < n ∧ pm_mk (S 4 f) e = 1
        · rw [if_pos h2, if_pos ⟨by omega, h2.2⟩]
        · rw [if_neg h2, if_neg (fun z => h2 ⟨by omega, z.2⟩)]
    · rw [if_neg h, ih]
      congr 1
      by_cases h2 : e < n ∧ pm_mk (S 4 f) e = 1
      · rw [if_pos h2, if_pos ⟨by omega, h2.2⟩]
      · rw [if_neg h2, if_neg (fun z => h2 ⟨by
          rcases (show e < n ∨ e = n by omega) with h3 | h3
          · exact h3
          · subst h3; exact absurd z.2 h, z.2⟩)]
def pq_fn (S : Nat → Nat → Nat) (e : Nat) : Nat → Nat := pm_num (fun k => decide (S 0 k = 0 ∧ pm_aft S k = 1 ∧ pm_mk (S 4 k) e = 1))
theorem pq_rds8 (S : Nat → Nat → Nat) {e : Nat} (he : e < 3) : ∀ n, pm_rds S n 8 e = S 8 e + pq_fn S e n
  | 0 => rfl
  | n + 1 => by
    have ih := pq_rds8 S he n
    unfold pq_fn at ih ⊢
    have ea := pm_aft_r S n
    have e4 : pm_rds S n 4 n = S 4 n := pm_rds_o S (by decide) n n (Nat.le_refl n)
    by_cases h0 : S 0 n = 0
    · rw [pm_rds_p h0]
      by_cases h1 : pm_aft (pm_rds S n) n = 1
      · rw [pm_jdg_p h1, pm_st_o (by decide), pm_st_o (by decide), pm_st_o (by decide)]
        show pm_fav (pm_rds S n) n 3 e = _
        rw [pq_fav, ih, e4, pm_num, Nat.add_assoc]
        congr 2
        by_cases h2 : pm_mk (S 4 n) e = 1
        · rw [if_pos ⟨he, h2⟩, if_pos (decide_eq_true ⟨h0, by rw [← ea]; exact h1, h2⟩)]
        · rw [if_neg (fun z => h2 z.2), if_neg (fun z => h2 (of_decide_eq_true z).2.2)]
      · rw [pm_jdg_n h1, pm_st_o (by decide), pm_st_o (by decide), pm_st_o (by decide), ih, pm_num, if_neg (fun z => h1 (by rw [ea]; exact (of_decide_eq_true z).2.1))]
        rfl
    · rw [pm_rds_n h0, ih, pm_num, if_neg (fun z => h0 (of_decide_eq_true z).1)]
      rfl
theorem pq_pts (f : Nat → Nat) : ∀ n e, e < n → pm_pts f n e = (if 20 < f e + 2 then 20 else f e + 2)
  | 0, e, he => absurd he (Nat.not_lt_zero e)
  | n + 1, e, he => by
    rw [pm_pts]
    unfold updN
    by_cases h : e = n
    · subst h; rw [if_pos rfl]
    · rw [if_neg h]; exact pq_pts f n e (by omega)
theorem pq_rct (S : Nat → Nat → Nat) : ∀ n, pm_rct S n = pm_bc S 1 n
  | 0 => rfl
  | n + 1 => by
    unfold pm_bc
    rw [pm_rct, pm_num, pq_rct S n]
    unfold pm_bc
    congr 1
    by_cases h : S 0 n = 0 ∧ pm_aft S n = 1
    · rw [if_pos h, if_pos (decide_eq_true h)]
    · rw [if_neg h, if_neg (fun z => h (of_decide_eq_true z))]
/-- what a round leaves -/
def pq_R (S T : Nat → Nat → Nat) : Prop := (∀ j, j < 30 → T 0 j = (if S 0 j = 0 then pm_aft S j else S 0 j) ∧ T 4 j = 0 ∧ T 1 j = (if S 0 j = 0 then pm_dl S j else S 1 j) ∧ T 2 j = (if S 0 j = 0 ∧ pm_aft S j = 1 then pm_tc (S 4 j) else S 2 j) ∧ T 3 j = (if S 0 j = 0 ∧ pm_aft S j = 1 then S 10 0 + 1 else S 3 j)) ∧ (∀ e, e < 3 → T 5 e = (if 20 < S 5 e + 2 then 20 else S 5 e + 2) ∧ T 8 e = S 8 e + pq_fn S e 30) ∧ T 10 0 = S 10 0 + 1
theorem pq_round {S : Nat → Nat → Nat} (hI : pq_I S) (h : ¬ 99 ≤ S 10 0) : ∃ T, pm_aRound S = (nI (pm_bc S 1 30), T) ∧ pq_R S T := by
  refine ⟨pm_st (fun d => if d = 5 then pm_pts (S 5) 3 else pm_rds S 30 d) 10 0 (S 10 0 + 1), by rw [pm_aRound, if_neg h, pq_rct], ?_, ?_, pm_st_s _ _ _ _⟩
  · intro j hj
    have e : ∀ c, ¬ c = 10 → ¬ c = 5 → pm_st (fun d => if d = 5 then pm_pts (S 5) 3 else pm_rds S 30 d) 10 0 (S 10 0 + 1) c = pm_rds S 30 c := fun c h1 h2 => by
      rw [pm_st_o h1]
      exact if_neg h2
    obtain ⟨a0, a4, a1, a2, a3⟩ := pq_rds S 30 j hj
    rw [e 0 (by decide) (by decide), e 4 (by decide) (by decide), e 1 (by decide) (by decide), e 2 (by decide) (by decide), e 3 (by decide) (by decide)]
    refine ⟨a0, ?_, a1, a2, a3⟩
    rw [a4]
    by_cases h0 : S 0 j = 0
    · rw [if_pos h0]
    · rw [if_neg h0]; exact hI.1.nom j hj h0
  · intro x hx
    refine ⟨?_, ?_⟩
    · rw [pm_st_o (c := 10) (d := 5) (by decide)]
      exact pq_pts (S 5) 3 x hx
    · rw [pm_st_o (c := 10) (d := 8) (by decide)]
      exact pq_rds8 S hx 30
theorem pq_round_I {S : Nat → Nat → Nat} (hI : pq_I S) : pq_I (pm_aRound S).2 := by
  refine ⟨pm_aRound_inv hI.1, ?_⟩
  by_cases h : 99 ≤ S 10 0
  · rw [pm_aRound, if_pos h]; exact hI.2
  · obtain ⟨T, E, R, -⟩ := pq_round hI h
    rw [E]
    intro j hj
    obtain ⟨a0, -, -, a2, -⟩ := R j hj
    have hx := hI.2 j hj
    show ((T 0 j = 1 ∨ T 0 j = 3) → 0 < T 2 j) ∧ (¬ (T 0 j = 1 ∨ T 0 j = 3) → T 2 j = 0)
    rw [a0, a2]
    by_cases h0 : S 0 j = 0
    · rw [if_pos h0]
      have a3 := pm_aft3 S j
      by_cases h1 : pm_aft S j = 1
      · rw [if_pos ⟨h0, h1⟩, h1]
        refine ⟨fun _ => ?_, fun z => absurd (Or.inl rfl) z⟩
        have hs := hI.1.set.1
        unfold pm_aft at h1
        (repeat' split at h1) <;> omega
      · rw [if_neg (fun z => h1 z.2)]
        exact ⟨fun z => by omega, fun _ => hx.2 (by omega)⟩
    · rw [if_neg h0, if_neg (fun z => h0 z.1)]
      exact hx
