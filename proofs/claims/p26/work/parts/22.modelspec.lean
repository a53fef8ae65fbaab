/-! ===== the reference's cells ===== -/
def pm_rm (x : Nat) : Int32 := nI x - 1
def pm_ms (S : Nat → Nat → Nat) : Nat → Int32 := fun k => if k < 150 then (if k % 5 = 3 then pm_rm (S 3 (k / 5)) else nI (S (k % 5) (k / 5))) else if k < 162 then nI (S (5 + (k - 150) % 4) ((k - 150) / 4)) else if k < 166 then nI (S 9 (k - 162)) else if k < 169 then nI (S 10 (k - 166)) else nI (S 11 (k - 168))
theorem pm_st_s (S : Nat → Nat → Nat) (c k v : Nat) : pm_st S c k v c k = v := by simp [pm_st, updN]
theorem pm_st_ne {S : Nat → Nat → Nat} {c k v d j : Nat} (h : ¬ (d = c ∧ j = k)) : pm_st S c k v d j = S d j := by
  by_cases hd : d = c
  · exact pm_st_k (fun z => h ⟨hd, z⟩)
  · rw [pm_st_o hd]
/-! ===== the reference's history ===== -/
def pm_MH (gp : Nat → Int32) (kn : Nat) (Hs : Nat → Nat → Nat → Nat) : Prop := ∀ k, k < kn → ∀ j, j < 172 → gp (172 * k + j) = pm_ms (Hs k) j
def pm_kn (kn : Nat) : Nat := if kn = 6 then 6 else kn + 1
def pm_push (Hs : Nat → Nat → Nat → Nat) (kn : Nat) (S : Nat → Nat → Nat) : Nat → Nat → Nat → Nat := fun k => if kn = 6 then (if k = 5 then S else Hs (k + 1)) else (if k = kn then S else Hs k)
