/-! ===== what the reading calls answer, at known places ===== -/
theorem pq_of0 {S : Nat → Nat → Nat} {f : Nat} (hf : f < 30) : pm_of S (nI f) (nI 0) = nI (S 0 f) := by simp only [pm_of, pm_ix_in hf (show (30 : Nat) < 2 ^ 31 by decide), pm_ix_in (show (0 : Nat) < 6 by decide) (show (6 : Nat) < 2 ^ 31 by decide)]
theorem pq_of1 {S : Nat → Nat → Nat} {f : Nat} (hf : f < 30) : pm_of S (nI f) (nI 1) = nI (pm_tk (S 4 f)) := by simp only [pm_of, pm_ix_in hf (show (30 : Nat) < 2 ^ 31 by decide), pm_ix_in (show (1 : Nat) < 6 by decide) (show (6 : Nat) < 2 ^ 31 by decide)]
theorem pq_of2 {S : Nat → Nat → Nat} {f : Nat} (hf : f < 30) : pm_of S (nI f) (nI 2) = nI (pm_ck (S 4 f)) := by simp only [pm_of, pm_ix_in hf (show (30 : Nat) < 2 ^ 31 by decide), pm_ix_in (show (2 : Nat) < 6 by decide) (show (6 : Nat) < 2 ^ 31 by decide)]
theorem pq_of3 {S : Nat → Nat → Nat} {f : Nat} (hf : f < 30) : pm_of S (nI f) (nI 3) = nI (S 1 f) := by simp only [pm_of, pm_ix_in hf (show (30 : Nat) < 2 ^ 31 by decide), pm_ix_in (show (3 : Nat) < 6 by decide) (show (6 : Nat) < 2 ^ 31 by decide)]
theorem pq_of4 {S : Nat → Nat → Nat} {f : Nat} (hf : f < 30) : pm_of S (nI f) (nI 4) = nI (S 2 f) := by simp only [pm_of, pm_ix_in hf (show (30 : Nat) < 2 ^ 31 by decide), pm_ix_in (show (4 : Nat) < 6 by decide) (show (6 : Nat) < 2 ^ 31 by decide)]
theorem pq_of5 {S : Nat → Nat → Nat} {f : Nat} (hf : f < 30) : pm_of S (nI f) (nI 5) = pm_ci (S 3 f) := by simp only [pm_of, pm_ix_in hf (show (30 : Nat) < 2 ^ 31 by decide), pm_ix_in (show (5 : Nat) < 6 by decide) (show (6 : Nat) < 2 ^ 31 by decide)]
theorem pq_ed0 {S : Nat → Nat → Nat} {x : Nat} (he : x < 3) : pm_ed S (nI x) (nI 0) = nI (S 5 x) := by simp only [pm_ed, pm_ix_in he (show (3 : Nat) < 2 ^ 31 by decide), pm_ix_in (show (0 : Nat) < 7 by decide) (show (7 : Nat) < 2 ^ 31 by decide)]
theorem pq_ed1 {S : Nat → Nat → Nat} {x : Nat} (he : x < 3) : pm_ed S (nI x) (nI 1) = nI (pm_cnt S x 1 30) := by simp only [pm_ed, pm_ix_in he (show (3 : Nat) < 2 ^ 31 by decide), pm_ix_in (show (1 : Nat) < 7 by decide) (show (7 : Nat) < 2 ^ 31 by decide)]
theorem pq_ed2 {S : Nat → Nat → Nat} {x : Nat} (he : x < 3) : pm_ed S (nI x) (nI 2) = nI (pm_cnt S x 2 30) := by simp only [pm_ed, pm_ix_in he (show (3 : Nat) < 2 ^ 31 by decide), pm_ix_in (show (2 : Nat) < 7 by decide) (show (7 : Nat) < 2 ^ 31 by decide)]
theorem pq_ed3 {S : Nat → Nat → Nat} {x : Nat} (he : x < 3) : pm_ed S (nI x) (nI 3) = nI (S 9 1 - pm_cnt S x 2 30) := by simp only [pm_ed, pm_ix_in he (show (3 : Nat) < 2 ^ 31 by decide), pm_ix_in (show (3 : Nat) < 7 by decide) (show (7 : Nat) < 2 ^ 31 by decide)]
theorem pq_ed4 {S : Nat → Nat → Nat} {x : Nat} (he : x < 3) : pm_ed S (nI x) (nI 4) = nI (S 6 x) := by simp only [pm_ed, pm_ix_in he (show (3 : Nat) < 2 ^ 31 by decide), pm_ix_in (show (4 : Nat) < 7 by decide) (show (7 : Nat) < 2 ^ 31 by decide)]
theorem pq_ed5 {S : Nat → Nat → Nat} {x : Nat} (he : x < 3) : pm_ed S (nI x) (nI 5) = nI (S 7 x) := by simp only [pm_ed, pm_ix_in he (show (3 : Nat) < 2 ^ 31 by decide), pm_ix_in (show (5 : Nat) < 7 by decide) (show (7 : Nat) < 2 ^ 31 by decide)]
theorem pq_ed6 {S : Nat → Nat → Nat} {x : Nat} (he : x < 3) : pm_ed S (nI x) (nI 6) = nI (S 8 x) := by simp only [pm_ed, pm_ix_in he (show (3 : Nat) < 2 ^ 31 by decide), pm_ix_in (show (6 : Nat) < 7 by decide) (show (7 : Nat) < 2 ^ 31 by decide)]
theorem pq_co0 {S : Nat → Nat → Nat} {ln kn : Nat} : pm_cls S ln kn (nI 0) = nI (S 10 0) := by
  rw [pm_cls, if_neg (by decide), if_neg (by decide)]
  simp only [pm_co, pm_ix_in (show (0 : Nat) < 15 by decide) (show (15 : Nat) < 2 ^ 31 by decide)]
theorem pq_co1 {S : Nat → Nat → Nat} {ln kn : Nat} : pm_cls S ln kn (nI 1) = nI (pm_hm S 0 30) := by
  rw [pm_cls, if_neg (by decide), if_neg (by decide)]
  simp only [pm_co, pm_ix_in (show (1 : Nat) < 15 by decide) (show (15 : Nat) < 2 ^ 31 by decide)]
theorem pq_co2 {S : Nat → Nat → Nat} {ln kn : Nat} : pm_cls S ln kn (nI 2) = nI (pm_hm S 1 30) := by
  rw [pm_cls, if_neg (by decide), if_neg (by decide)]
  simp only [pm_co, pm_ix_in (show (2 : Nat) < 15 by decide) (show (15 : Nat) < 2 ^ 31 by decide)]
theorem pq_co3 {S : Nat → Nat → Nat} {ln kn : Nat} : pm_cls S ln kn (nI 3) = nI (pm_hm S 2 30) := by
  rw [pm_cls, if_neg (by decide), if_neg (by decide)]
  simp only [pm_co, pm_ix_in (show (3 : Nat) < 15 by decide) (show (15 : Nat) < 2 ^ 31 by decide)]
theorem pq_co4 {S : Nat → Nat → Nat} {ln kn : Nat} : pm_cls S ln kn (nI 4) = nI (pm_hm S 3 30) := by
  rw [pm_cls, if_neg (by decide), if_neg (by decide)]
  simp only [pm_co, pm_ix_in (show (4 : Nat) < 15 by decide) (show (15 : Nat) < 2 ^ 31 by decide)]
theorem pq_co5 {S : Nat → Nat → Nat} {ln kn : Nat} : pm_cls S ln kn (nI 5) = nI (S 10 1) := by
  rw [pm_cls, if_neg (by decide), if_neg (by decide)]
  simp only [pm_co, pm_ix_in (show (5 : Nat) < 15 by decide) (show (15 : Nat) < 2 ^ 31 by decide)]
theorem pq_co6 {S : Nat → Nat → Nat} {ln kn : Nat} : pm_cls S ln kn (nI 6) = nI (S 10 2) := by
  rw [pm_cls, if_neg (by decide), if_neg (by decide)]
  simp only [pm_co, pm_ix_in (show (6 : Nat) < 15 by decide) (show (15 : Nat) < 2 ^ 31 by decide)]
theorem pq_co7 {S : Nat → Nat → Nat} {ln kn : Nat} : pm_cls S ln kn (nI 7) = nI (S 11 1) := by
  rw [pm_cls, if_neg (by decide), if_neg (by decide)]
  simp only [pm_co, pm_ix_in (show (7 : Nat) < 15 by decide) (show (15 : Nat) < 2 ^ 31 by decide)]
theorem pq_co8 {S : Nat → Nat → Nat} {ln kn : Nat} : pm_cls S ln kn (nI 8) = nI (S 11 2) := by
  rw [pm_cls, if_neg (by decide), if_neg (by decide)]
  simp only [pm_co, pm_ix_in (show (8 : Nat) < 15 by decide) (show (15 : Nat) < 2 ^ 31 by decide)]
theorem pq_co9 {S : Nat → Nat → Nat} {ln kn : Nat} : pm_cls S ln kn (nI 9) = nI (S 11 3) := by
  rw [pm_cls, if_neg (by decide), if_neg (by decide)]
  simp only [pm_co, pm_ix_in (show (9 : Nat) < 15 by decide) (show (15 : Nat) < 2 ^ 31 by decide)]
theorem pq_co10 {S : Nat → Nat → Nat} {ln kn : Nat} : pm_cls S ln kn (nI 10) = nI (pm_lm S 30) := by
  rw [pm_cls, if_neg (by decide), if_neg (by decide)]
  simp only [pm_co, pm_ix_in (show (10 : Nat) < 15 by decide) (show (15 : Nat) < 2 ^ 31 by decide)]
theorem pq_co11 {S : Nat → Nat → Nat} {ln kn : Nat} : pm_cls S ln kn (nI 11) = nI (S 9 0) := by
  rw [pm_cls, if_neg (by decide), if_neg (by decide)]
  simp only [pm_co, pm_ix_in (show (11 : Nat) < 15 by decide) (show (15 : Nat) < 2 ^ 31 by decide)]
theorem pq_co12 {S : Nat → Nat → Nat} {ln kn : Nat} : pm_cls S ln kn (nI 12) = nI (S 9 1) := by
  rw [pm_cls, if_neg (by decide), if_neg (by decide)]
  simp only [pm_co, pm_ix_in (show (12 : Nat) < 15 by decide) (show (15 : Nat) < 2 ^ 31 by decide)]
theorem pq_co13 {S : Nat → Nat → Nat} {ln kn : Nat} : pm_cls S ln kn (nI 13) = nI (S 9 2) := by
  rw [pm_cls, if_neg (by decide), if_neg (by decide)]
  simp only [pm_co, pm_ix_in (show (13 : Nat) < 15 by decide) (show (15 : Nat) < 2 ^ 31 by decide)]
theorem pq_co14 {S : Nat → Nat → Nat} {ln kn : Nat} : pm_cls S ln kn (nI 14) = nI (S 9 3) := by
  rw [pm_cls, if_neg (by decide), if_neg (by decide)]
  simp only [pm_co, pm_ix_in (show (14 : Nat) < 15 by decide) (show (15 : Nat) < 2 ^ 31 by decide)]
theorem pq_co17 {S : Nat → Nat → Nat} {ln kn : Nat} : pm_cls S ln kn (nI 17) = -2 := by
  rw [pm_cls, if_neg (by decide), if_neg (by decide)]
  simp only [pm_co, pm_ix_out (show (nI 17 < 0 ∨ nI 15 ≤ nI 17) by decide)]
theorem pq_if0 {S : Nat → Nat → Nat} : pm_ifr S (nI 0) = nI (pm_bc S 1 30) := by simp only [pm_ifr, pm_ix_in (show (0 : Nat) < 3 by decide) (show (3 : Nat) < 2 ^ 31 by decide)]
theorem pq_if1 {S : Nat → Nat → Nat} : pm_ifr S (nI 1) = nI (pm_bc S 2 30) := by simp only [pm_ifr, pm_ix_in (show (1 : Nat) < 3 by decide) (show (3 : Nat) < 2 ^ 31 by decide)]
theorem pq_if2 {S : Nat → Nat → Nat} : pm_ifr S (nI 2) = nI (pm_bc S 0 30) := by simp only [pm_ifr, pm_ix_in (show (2 : Nat) < 3 by decide) (show (3 : Nat) < 2 ^ 31 by decide)]
theorem pq_if3 {S : Nat → Nat → Nat} : pm_ifr S (nI 3) = -2 := by simp only [pm_ifr, pm_ix_out (show (nI 3 < 0 ∨ nI 3 ≤ nI 3) by decide)]
theorem pq_dec {S : Nat → Nat → Nat} {f : Nat} (hf : f < 30) : pm_dec S (nI f) = nI (pm_ds S f 3) := by simp only [pm_dec, pm_ix_in hf (show (30 : Nat) < 2 ^ 31 by decide)]
theorem pq_ds0 {S : Nat → Nat → Nat} {f : Nat} (h : ¬ S 0 f = 0) : ∀ n, pm_ds S f n = 0
  | 0 => rfl
  | n + 1 => by rw [pm_ds, pq_ds0 h n, if_neg (fun z => h z.1)]
def pq_ag (S : Nat → Nat → Nat) (x o : Nat) : Nat := if pm_bo S x o 30 = 0 then 100 else 100 * pm_sa S x o 30 / pm_bo S x o 30
theorem pq_agr {S : Nat → Nat → Nat} {x o : Nat} (he : x < 3) (ho : o < 3) : pm_agr S (nI x) (nI o) = nI (pq_ag S x o) := by
  simp only [pm_agr, pm_ix_in he (show (3 : Nat) < 2 ^ 31 by decide), pm_ix_in ho (show (3 : Nat) < 2 ^ 31 by decide), pq_ag]
  split <;> rfl
theorem pq_why {S : Nat → Nat → Nat} {f : Nat} (hf : f < 30) : pm_why S (nI f) = if S 0 f ≠ 0 then nI 1 else if pm_ck (S 4 f) ≠ 0 then nI 2 else if S 9 0 ≤ pm_tc (S 4 f) then nI 0 else nI 3 := by simp only [pm_why, pm_ix_in hf (show (30 : Nat) < 2 ^ 31 by decide)]
def pq_wy (S : Nat → Nat → Nat) (f : Nat) : Nat := if S 0 f ≠ 0 then 1 else if pm_ck (S 4 f) ≠ 0 then 2 else if S 9 0 ≤ pm_tc (S 4 f) then 0 else 3
theorem pq_whn {S : Nat → Nat → Nat} {f : Nat} (hf : f < 30) : pm_why S (nI f) = nI (pq_wy S f) := by
  rw [pq_why hf, pq_wy]
  (repeat' split) <;> rfl
theorem pq_wy4 (S : Nat → Nat → Nat) (f : Nat) : pq_wy S f < 4 := by
  unfold pq_wy
  (repeat' split) <;> decide
theorem pq_wyi {S : Nat → Nat → Nat} {f : Nat} (h0 : S 0 f = 0) : pq_wy S f = 0 ↔ pm_wd (S 9 0) (S 4 f) = true := by
  unfold pq_wy pm_wd
  rw [if_neg (fun z => z h0), decide_eq_true_eq]
  by_cases h1 : pm_ck (S 4 f) = 0
  · rw [if_neg (fun z => z h1)]
    by_cases h2 : S 9 0 ≤ pm_tc (S 4 f)
    · rw [if_pos h2]; exact ⟨fun _ => ⟨h1, h2⟩, fun _ => rfl⟩
    · rw [if_neg h2]; exact ⟨fun z => absurd z (by decide), fun z => absurd z.2 h2⟩
  · rw [if_pos h1]; exact ⟨fun z => absurd z (by decide), fun z => absurd z.1 h1⟩
theorem pq_hm_le (S : Nat → Nat → Nat) (v n : Nat) : pm_hm S v n ≤ n := pm_num_le _ n
theorem pq_bc_le (S : Nat → Nat → Nat) (v n : Nat) : pm_bc S v n ≤ n := pm_num_le _ n
theorem pq_bo_le (S : Nat → Nat → Nat) (x o n : Nat) : pm_bo S x o n ≤ n := pm_num_le _ n
theorem pq_sa_le (S : Nat → Nat → Nat) (x o n : Nat) : pm_sa S x o n ≤ n := pm_num_le _ n
/-! ===== sets as bits ===== -/
def pq_T1b (m i : Nat) : Bool := !(pm_okb m) || (decide ((nI (pm_tk m) >>> (nI i &&& 31)) &&& nI 1 = nI (if pm_mk m i = 1 then 1 else 0)) && decide ((nI (pm_ck m) >>> (nI i &&& 31)) &&& nI 1 = nI (if pm_mk m i = 2 then 1 else 0)))
theorem pq_T1 : ∀ m, m < 64 → ∀ i, i < 3 → pq_T1b m i = true := by decide +kernel
theorem pq_bt {m i : Nat} (h : pm_okb m = true) (hi : i < 3) : (nI (pm_tk m) >>> (nI i &&& 31)) &&& nI 1 = nI (if pm_mk m i = 1 then 1 else 0) := by
  have a := pq_T1 m (pm_okb64 h) i hi
  simp only [pq_T1b, h, Bool.not_true, Bool.false_or, Bool.and_eq_true, decide_eq_true_eq] at a
  exact a.1
theorem pq_bc {m i : Nat} (h : pm_okb m = true) (hi : i < 3) : (nI (pm_ck m) >>> (nI i &&& 31)) &&& nI 1 = nI (if pm_mk m i = 2 then 1 else 0) := by
  have a := pq_T1 m (pm_okb64 h) i hi
  simp only [pq_T1b, h, Bool.not_true, Bool.false_or, Bool.and_eq_true, decide_eq_true_eq] at a
  exact a.2
def pq_T2b (m : Nat) : Bool := !(pm_okb m) || decide (nI (pm_tk m) &&& nI (pm_ck m) = nI 0)
theorem pq_T2 : ∀ m, m < 64 → pq_T2b m = true := by decide +kernel
theorem pq_and {m : Nat} (h : pm_okb m = true) : nI (pm_tk m) &&& nI (pm_ck m) = nI 0 := by
  have a := pq_T2 m (pm_okb64 h)
  simp only [pq_T2b, h, Bool.not_true, Bool.false_or, decide_eq_true_eq] at a
  exact a
theorem pq_ones : ∀ x, x < 8 → (nI x &&& nI 1) + ((nI x >>> (nI 1 &&& 31)) &&& nI 1) + ((nI x >>> (nI 2 &&& 31)) &&& nI 1) = nI (pm_pc x) := by decide +kernel
/-! ===== an open frame, case by case ===== -/
def pq_fr (S : Nat → Nat → Nat) (k w a d : Nat) : Prop := pm_why S (nI k) = nI w ∧ pm_aft S k = a ∧ pm_dl S k = d
theorem pq_open {S : Nat → Nat → Nat} {k : Nat} (hI : pq_I S) (hk : k < 30) (h0 : S 0 k = 0) :
    (2 ≤ pm_cc (S 4 k) ∧ ¬ pm_ck (S 4 k) = 0 ∧ pq_fr S k 2 2 0) ∨
    (pm_cc (S 4 k) = 1 ∧ ¬ pm_ck (S 4 k) = 0 ∧ pq_fr S k 2 0 0) ∨
    (pm_cc (S 4 k) = 0 ∧ pm_ck (S 4 k) = 0 ∧ S 9 0 ≤ pm_tc (S 4 k) ∧ ¬ pm_tk (S 4 k) = 0 ∧ pq_fr S k 0 1 0) ∨
    (pm_cc (S 4 k) = 0 ∧ pm_ck (S 4 k) = 0 ∧ ¬ S 9 0 ≤ pm_tc (S 4 k) ∧ ¬ pm_tk (S 4 k) = 0 ∧ pq_fr S k 3 0 0) ∨
    (pm_cc (S 4 k) = 0 ∧ pm_ck (S 4 k) = 0 ∧ ¬ S 9 0 ≤ pm_tc (S 4 k) ∧ pm_tk (S 4 k) = 0 ∧ S 9 3 ≤ S 1 k + 1 ∧ pq_fr S k 3 2 (S 1 k + 1)) ∨
    (pm_cc (S 4 k) = 0 ∧ pm_ck (S 4 k) = 0 ∧ ¬ S 9 0 ≤ pm_tc (S 4 k) ∧ pm_tk (S 4 k) = 0 ∧ ¬ S 9 3 ≤ S 1 k + 1 ∧ pq_fr S k 3 0 (S 1 k + 1)) := by
  have ok := hI.1.okm k hk
  have hs := hI.1.set
  have c0 : pm_cc (S 4 k) = 0 ↔ pm_ck (S 4 k) = 0 := pm_pc0 (pm_ck8 _)
  have t0 : pm_tc (S 4 k) = 0 ↔ pm_tk (S 4 k) = 0 := pm_pc0 (pm_tk8 _)
  have z := pm_zero ok
  unfold pq_fr
  rw [pq_why hk]
  by_cases hc : pm_ck (S 4 k) = 0
  · have hcc := c0.mpr hc
    by_cases hn : S 9 0 ≤ pm_tc (S 4 k)
    · have ht : ¬ pm_tk (S 4 k) = 0 := fun y => by have := t0.mpr y; omega
      have hm : ¬ S 4 k = 0 := fun y => ht (z.mpr y).1
      refine Or.inr (Or.inr (Or.inl ⟨hcc, hc, hn, ht, ?_, ?_, pm_dl_0 hm⟩))
      · simp [h0, hc, hn]
      · unfold pm_aft; simp [hcc, hn]
    · by_cases ht : pm_tk (S 4 k) = 0
      · have hm : S 4 k = 0 := z.mp ⟨ht, hc⟩
        have hd := pm_dl_1 (S := S) (f := k) hm
        by_cases hq : S 9 3 ≤ S 1 k + 1
        · refine Or.inr (Or.inr (Or.inr (Or.inr (Or.inl ⟨hcc, hc, hn, ht, hq, ?_, ?_, hd⟩))))
          · simp [h0, hc, hn]
          · unfold pm_aft; rw [hd]; simp [hcc, hn, hq]
        · refine Or.inr (Or.inr (Or.inr (Or.inr (Or.inr ⟨hcc, hc, hn, ht, hq, ?_, ?_, hd⟩))))
          · simp [h0, hc, hn]
          · unfold pm_aft; rw [hd]; simp [hcc, hn, hq]
      · have hm : ¬ S 4 k = 0 := fun y => ht (z.mpr y).1
        have hd := pm_dl_0 (S := S) (f := k) hm
        refine Or.inr (Or.inr (Or.inr (Or.inl ⟨hcc, hc, hn, ht, ?_, ?_, hd⟩)))
        · simp [h0, hc, hn]
        · unfold pm_aft; rw [hd]; simp [hcc, hn]; omega
  · have hcc : ¬ pm_cc (S 4 k) = 0 := fun y => hc (c0.mp y)
    have hm : ¬ S 4 k = 0 := fun y => hc (z.mpr y).2
    have hd := pm_dl_0 (S := S) (f := k) hm
    by_cases h2 : 2 ≤ pm_cc (S 4 k)
    · refine Or.inl ⟨h2, hc, ?_, ?_, hd⟩
      · simp [h0, hc]
      · unfold pm_aft; simp [h2]
    · have h1 : pm_cc (S 4 k) = 1 := by omega
      refine Or.inr (Or.inl ⟨h1, hc, ?_, ?_, hd⟩)
      · simp [h0, hc]
      · unfold pm_aft; simp [h1]
theorem pq_shut {S : Nat → Nat → Nat} {k : Nat} (hI : pq_I S) (hk : k < 30) (h0 : ¬ S 0 k = 0) : S 4 k = 0 ∧ pm_tk (S 4 k) = 0 ∧ pm_ck (S 4 k) = 0 ∧ pm_why S (nI k) = nI 1 := by
  have h4 := hI.1.nom k hk h0
  refine ⟨h4, by rw [h4]; decide, by rw [h4]; decide, ?_⟩
  rw [pq_why hk]; simp [h0]
/-! ===== one frame further ===== -/
theorem pq_bcs {S : Nat → Nat → Nat} {k a : Nat} (h0 : S 0 k = 0) (ha : pm_aft S k = a) (v : Nat) : pm_bc S v (k + 1) = pm_bc S v k + if a = v then 1 else 0 := by
  unfold pm_bc
  rw [pm_num]
  by_cases h : a = v
  · rw [if_pos h, if_pos (decide_eq_true ⟨h0, ha.trans h⟩)]
  · rw [if_neg h, if_neg (fun z => h (ha.symm.trans (of_decide_eq_true z).2))]
theorem pq_bcn {S : Nat → Nat → Nat} {k : Nat} (h0 : ¬ S 0 k = 0) (v : Nat) : pm_bc S v (k + 1) = pm_bc S v k := by
  unfold pm_bc
  rw [pm_num, if_neg (fun z => h0 (of_decide_eq_true z).1)]
  rfl
theorem pq_hms {S : Nat → Nat → Nat} {k a : Nat} (ha : S 0 k = a) (v : Nat) : pm_hm S v (k + 1) = pm_hm S v k + if a = v then 1 else 0 := by
  unfold pm_hm
  rw [pm_num]
  by_cases h : a = v
  · rw [if_pos h, if_pos (decide_eq_true (ha.trans h))]
  · rw [if_neg h, if_neg (fun z => h (ha.symm.trans (of_decide_eq_true z)))]
theorem pq_how {S : Nat → Nat → Nat} {k a : Nat} (ha : S 0 k = a) : upd (pm_vn (fun j => pm_hm S j k)) a (nI (pm_hm S a k + 1)) = pm_vn (fun j => pm_hm S j (k + 1)) := by
  funext j
  show (if j = a then nI (pm_hm S a k + 1) else nI (pm_hm S j k)) = nI (pm_hm S j (k + 1))
  rw [pq_hms ha j]
  by_cases h : j = a
  · rw [if_pos h, if_pos h.symm, h]
  · rw [if_neg h, if_neg (fun z => h z.symm)]; rfl
theorem pq_rl0 {S : Nat → Nat → Nat} {k : Nat} (h : ¬ (S 0 k = 1 ∨ S 0 k = 3)) : pm_rl S (k + 1) = 0 := by rw [pm_rl, if_neg (by rw [show pm_pk S k = false from decide_eq_false h]; decide)]
theorem pq_rl1 {S : Nat → Nat → Nat} {k : Nat} (h : S 0 k = 1 ∨ S 0 k = 3) (h6 : k % 6 = 0) : pm_rl S (k + 1) = 1 := by rw [pm_rl, if_pos (pm_pk_t h), if_pos h6]
theorem pq_rl2 {S : Nat → Nat → Nat} {k : Nat} (h : S 0 k = 1 ∨ S 0 k = 3) (h6 : ¬ k % 6 = 0) : pm_rl S (k + 1) = pm_rl S k + 1 := by rw [pm_rl, if_pos (pm_pk_t h), if_neg h6]
theorem pq_lm {S : Nat → Nat → Nat} {k r : Nat} (h : pm_rl S (k + 1) = r) : pm_lm S (k + 1) = if pm_lm S k < r then r else pm_lm S k := by rw [pm_lm, h]
theorem pm_pf_le {S : Nat → Nat → Nat} (h : ∀ j, j < 30 → S 2 j < 4) : ∀ n, n ≤ 30 → pm_pf S n ≤ 90 * n
  | 0, _ => Nat.le_refl 0
  | n + 1, hn => by
    have := pm_pf_le h n (by omega)
    have h2 := h n (by omega)
    rw [pm_pf]
    split
    · rcases (show S 2 n = 0 ∨ S 2 n = 1 ∨ S 2 n = 2 ∨ S 2 n = 3 by omega) with e | e | e | e <;> rw [e] <;> omega
    · omega
/-! ===== the world beside one cell more ===== -/
theorem pq_cut {D : va_G} {cl : List vw_C} {x : Nat × va_E} {w : va_W} {H : Heap} (hP : va_P D cl (x :: w) H) : va_P D cl w H := pm_P_mem hP (fun _ hz => List.mem_cons_of_mem _ hz)
theorem pq_cutD {A : Nat → Prop} {x : Nat × va_E} {w : va_W} (hD : va_D A (x :: w)) : va_D A w := pm_cutD (X := [x]) (w := w) (Y := []) (by rw [List.append_nil]; exact hD)
theorem pq_mid {A : Nat → Prop} {D : va_G} {cl : List vw_C} {x : Nat × va_E} {w w' : va_W} {H H1 : Heap} (hP : va_P D cl (x :: w) H) (hD : va_D A (x :: w)) (hk : ∀ q : Nat, q < H.size → ¬ pm_ad w q → H1[q]? = H[q]?) (hP1 : va_P D cl w' H1) (ha : w'.map Prod.fst = w.map Prod.fst) : va_P D cl (x :: w') H1 ∧ va_D A (x :: w') := by
  have h := pm_mid (X := [x]) (w := w) (w' := w') (Y := []) (by rw [List.append_nil]; exact hP) (by rw [List.append_nil]; exact hD) hk hP1 ha
  rw [List.append_nil] at h
  exact h
theorem pq_kept {D : va_G} {cl : List vw_C} {w : va_W} {H0 H : Heap} {locs : List Loc} (hP : va_P D cl w H0) (hS : va_S (fun q : Nat => H0.size ≤ q) H0 H locs) : va_P D cl w H := hP.kept (fun k q hk => hS.2.1 q.1 ((hP k q hk).lt) (Nat.not_le.mpr ((hP k q hk).lt)))
abbrev pq_T : Type := (Nat → Nat → Nat) × (Nat → Nat → Nat → Nat) × (Nat → Nat) × Nat
