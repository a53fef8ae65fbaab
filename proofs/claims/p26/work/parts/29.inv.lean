/-! ===== what always holds stays ===== -/
theorem pm_st_v (S : Nat → Nat → Nat) (c k v j : Nat) : pm_st S c k v c j = if j = k then v else S c j := by simp [pm_st, updN]
theorem pm_Inv.of {S : Nat → Nat → Nat} (h0 : ∀ j, j < 30 → S 0 j < 4) (h1 : ∀ j, j < 30 → pm_okb (S 4 j) = true) (h2 : ∀ j, j < 30 → ¬ S 0 j = 0 → S 4 j = 0) (h3 : ∀ j, j < 30 → S 1 j ≤ S 10 0) (h4 : ∀ j, j < 30 → S 2 j < 4) (h5 : ∀ j, j < 30 → S 3 j ≤ S 10 0) (h6 : ∀ j, j < 30 → (S 0 j = 1 ∨ S 0 j = 3) → 0 < S 3 j) (h7 : ∀ e, e < 3 → S 5 e ≤ 20) (h8 : 1 ≤ S 9 0 ∧ S 9 0 ≤ 3 ∧ S 9 1 ≤ 9 ∧ 1 ≤ S 9 2 ∧ S 9 2 ≤ 9 ∧ 1 ≤ S 9 3 ∧ S 9 3 ≤ 5) (h9 : S 10 0 ≤ 99) (h10 : S 10 1 ≤ 999) : pm_Inv S := ⟨h0, h1, h2, h3, h4, h5, h6, h7, h8, h9, h10⟩
theorem pm_inv_mark {S : Nat → Nat → Nat} (hI : pm_Inv S) {f m : Nat} (h0 : S 0 f = 0) (hm : pm_okb m = true) : pm_Inv (pm_st S 4 f m) := by
  have b8 := hI.set
  have b9 := hI.rnd
  have b10 := hI.pap
  refine pm_Inv.of (fun j hj => by
    have a0 := hI.how j hj
    have a1 := hI.okm j hj
    have a2 := hI.nom j hj
    have a3 := hI.dull j hj
    have a4 := hI.size j hj
    have a5 := hI.chi j hj
    have a6 := hI.pick j hj
    have a9 := hI.rnd
    simp [pm_st, updN]; (repeat' split) <;> first | omega | assumption) (fun j hj => by
    have a0 := hI.how j hj
    have a1 := hI.okm j hj
    have a2 := hI.nom j hj
    have a3 := hI.dull j hj
    have a4 := hI.size j hj
    have a5 := hI.chi j hj
    have a6 := hI.pick j hj
    have a9 := hI.rnd
    simp [pm_st, updN]; (repeat' split) <;> first | assumption | decide) (fun j hj => by
    have a0 := hI.how j hj
    have a1 := hI.okm j hj
    have a2 := hI.nom j hj
    have a3 := hI.dull j hj
    have a4 := hI.size j hj
    have a5 := hI.chi j hj
    have a6 := hI.pick j hj
    have a9 := hI.rnd
    simp [pm_st, updN]; (repeat' split) <;> first | assumption | omega | (intro h; have := a2 h; omega) | simp_all | (intro h; simp_all)) (fun j hj => by
    have a0 := hI.how j hj
    have a1 := hI.okm j hj
    have a2 := hI.nom j hj
    have a3 := hI.dull j hj
    have a4 := hI.size j hj
    have a5 := hI.chi j hj
    have a6 := hI.pick j hj
    have a9 := hI.rnd
    simp [pm_st, updN]; (repeat' split) <;> first | assumption | omega | (intro h; have := a6 (by omega); omega) | simp_all) (fun j hj => by
    have a0 := hI.how j hj
    have a1 := hI.okm j hj
    have a2 := hI.nom j hj
    have a3 := hI.dull j hj
    have a4 := hI.size j hj
    have a5 := hI.chi j hj
    have a6 := hI.pick j hj
    have a9 := hI.rnd
    simp [pm_st, updN]; (repeat' split) <;> first | assumption | omega | (intro h; have := a6 (by omega); omega) | simp_all) (fun j hj => by
    have a0 := hI.how j hj
    have a1 := hI.okm j hj
    have a2 := hI.nom j hj
    have a3 := hI.dull j hj
    have a4 := hI.size j hj
    have a5 := hI.chi j hj
    have a6 := hI.pick j hj
    have a9 := hI.rnd
    simp [pm_st, updN]; (repeat' split) <;> first | assumption | omega | (intro h; have := a6 (by omega); omega) | simp_all) (fun j hj => by
    have a0 := hI.how j hj
    have a1 := hI.okm j hj
    have a2 := hI.nom j hj
    have a3 := hI.dull j hj
    have a4 := hI.size j hj
    have a5 := hI.chi j hj
    have a6 := hI.pick j hj
    have a9 := hI.rnd
    simp [pm_st, updN]; (repeat' split) <;> first | assumption | omega | (intro h; have := a6 (by omega); omega) | simp_all) (fun e he => by
    have c := hI.pts e he
    simp [pm_st, updN]; (repeat' split) <;> first | assumption | omega) (by simp [pm_st, updN]; (repeat' split) <;> first | assumption | omega) (by simp [pm_st, updN]; (repeat' split) <;> first | assumption | omega) (by simp [pm_st, updN]; (repeat' split) <;> first | assumption | omega)
theorem pm_inv_pts {S : Nat → Nat → Nat} (hI : pm_Inv S) {e v : Nat} (hv : v ≤ 20) : pm_Inv (pm_st S 5 e v) := by
  have b8 := hI.set
  have b9 := hI.rnd
  have b10 := hI.pap
  refine pm_Inv.of (fun j hj => by
    have a0 := hI.how j hj
    have a1 := hI.okm j hj
    have a2 := hI.nom j hj
    have a3 := hI.dull j hj
    have a4 := hI.size j hj
    have a5 := hI.chi j hj
    have a6 := hI.pick j hj
    have a9 := hI.rnd
    simp [pm_st, updN]; (repeat' split) <;> first | omega | assumption) (fun j hj => by
    have a0 := hI.how j hj
    have a1 := hI.okm j hj
    have a2 := hI.nom j hj
    have a3 := hI.dull j hj
    have a4 := hI.size j hj
    have a5 := hI.chi j hj
    have a6 := hI.pick j hj
    have a9 := hI.rnd
    simp [pm_st, updN]; (repeat' split) <;> first | assumption | decide) (fun j hj => by
    have a0 := hI.how j hj
    have a1 := hI.okm j hj
    have a2 := hI.nom j hj
    have a3 := hI.dull j hj
    have a4 := hI.size j hj
    have a5 := hI.chi j hj
    have a6 := hI.pick j hj
    have a9 := hI.rnd
    simp [pm_st, updN]; (repeat' split) <;> first | assumption | omega | (intro h; have := a2 h; omega) | simp_all | (intro h; simp_all)) (fun j hj => by
    have a0 := hI.how j hj
    have a1 := hI.okm j hj
    have a2 := hI.nom j hj
    have a3 := hI.dull j hj
    have a4 := hI.size j hj
    have a5 := hI.chi j hj
    have a6 := hI.pick j hj
    have a9 := hI.rnd
    simp [pm_st, updN]; (repeat' split) <;> first | assumption | omega | (intro h; have := a6 (by omega); omega) | simp_all) (fun j hj => by
    have a0 := hI.how j hj
    have a1 := hI.okm j hj
    have a2 := hI.nom j hj
    have a3 := hI.dull j hj
    have a4 := hI.size j hj
    have a5 := hI.chi j hj
    have a6 := hI.pick j hj
    have a9 := hI.rnd
    simp [pm_st, updN]; (repeat' split) <;> first | assumption | omega | (intro h; have := a6 (by omega); omega) | simp_all) (fun j hj => by
    have a0 := hI.how j hj
    have a1 := hI.okm j hj
    have a2 := hI.nom j hj
    have a3 := hI.dull j hj
    have a4 := hI.size j hj
    have a5 := hI.chi j hj
    have a6 := hI.pick j hj
    have a9 := hI.rnd
    simp [pm_st, updN]; (repeat' split) <;> first | assumption | omega | (intro h; have := a6 (by omega); omega) | simp_all) (fun j hj => by
    have a0 := hI.how j hj
    have a1 := hI.okm j hj
    have a2 := hI.nom j hj
    have a3 := hI.dull j hj
    have a4 := hI.size j hj
    have a5 := hI.chi j hj
    have a6 := hI.pick j hj
    have a9 := hI.rnd
    simp [pm_st, updN]; (repeat' split) <;> first | assumption | omega | (intro h; have := a6 (by omega); omega) | simp_all) (fun e he => by
    have c := hI.pts e he
    simp [pm_st, updN]; (repeat' split) <;> first | assumption | omega) (by simp [pm_st, updN]; (repeat' split) <;> first | assumption | omega) (by simp [pm_st, updN]; (repeat' split) <;> first | assumption | omega) (by simp [pm_st, updN]; (repeat' split) <;> first | assumption | omega)

theorem pm_inv_c6 {S : Nat → Nat → Nat} (hI : pm_Inv S) {e v : Nat} : pm_Inv (pm_st S 6 e v) := by
  have b8 := hI.set
  have b9 := hI.rnd
  have b10 := hI.pap
  refine pm_Inv.of (fun j hj => by
    have a0 := hI.how j hj
    have a1 := hI.okm j hj
    have a2 := hI.nom j hj
    have a3 := hI.dull j hj
    have a4 := hI.size j hj
    have a5 := hI.chi j hj
    have a6 := hI.pick j hj
    have a9 := hI.rnd
    simp [pm_st, updN]; (repeat' split) <;> first | omega | assumption) (fun j hj => by
    have a0 := hI.how j hj
    have a1 := hI.okm j hj
    have a2 := hI.nom j hj
    have a3 := hI.dull j hj
    have a4 := hI.size j hj
    have a5 := hI.chi j hj
    have a6 := hI.pick j hj
    have a9 := hI.rnd
    simp [pm_st, updN]; (repeat' split) <;> first | assumption | decide) (fun j hj => by
    have a0 := hI.how j hj
    have a1 := hI.okm j hj
    have a2 := hI.nom j hj
    have a3 := hI.dull j hj
    have a4 := hI.size j hj
    have a5 := hI.chi j hj
    have a6 := hI.pick j hj
    have a9 := hI.rnd
    simp [pm_st, updN]; (repeat' split) <;> first | assumption | omega | (intro h; have := a2 h; omega) | simp_all | (intro h; simp_all)) (fun j hj => by
    have a0 := hI.how j hj
    have a1 := hI.okm j hj
    have a2 := hI.nom j hj
    have a3 := hI.dull j hj
    have a4 := hI.size j hj
    have a5 := hI.chi j hj
    have a6 := hI.pick j hj
    have a9 := hI.rnd
    simp [pm_st, updN]; (repeat' split) <;> first | assumption | omega | (intro h; have := a6 (by omega); omega) | simp_all) (fun j hj => by
    have a0 := hI.how j hj
    have a1 := hI.okm j hj
    have a2 := hI.nom j hj
    have a3 := hI.dull j hj
    have a4 := hI.size j hj
    have a5 := hI.chi j hj
    have a6 := hI.pick j hj
    have a9 := hI.rnd
    simp [pm_st, updN]; (repeat' split) <;> first | assumption | omega | (intro h; have := a6 (by omega); omega) | simp_all) (fun j hj => by
    have a0 := hI.how j hj
    have a1 := hI.okm j hj
    have a2 := hI.nom j hj
    have a3 := hI.dull j hj
    have a4 := hI.size j hj
    have a5 := hI.chi j hj
    have a6 := hI.pick j hj
    have a9 := hI.rnd
    simp [pm_st, updN]; (repeat' split) <;> first | assumption | omega | (intro h; have := a6 (by omega); omega) | simp_all) (fun j hj => by
    have a0 := hI.how j hj
    have a1 := hI.okm j hj
    have a2 := hI.nom j hj
    have a3 := hI.dull j hj
    have a4 := hI.size j hj
    have a5 := hI.chi j hj
    have a6 := hI.pick j hj
    have a9 := hI.rnd
    simp [pm_st, updN]; (repeat' split) <;> first | assumption | omega | (intro h; have := a6 (by omega); omega) | simp_all) (fun e he => by
    have c := hI.pts e he
    simp [pm_st, updN]; (repeat' split) <;> first | assumption | omega) (by simp [pm_st, updN]; (repeat' split) <;> first | assumption | omega) (by simp [pm_st, updN]; (repeat' split) <;> first | assumption | omega) (by simp [pm_st, updN]; (repeat' split) <;> first | assumption | omega)
theorem pm_inv_c7 {S : Nat → Nat → Nat} (hI : pm_Inv S) {e v : Nat} : pm_Inv (pm_st S 7 e v) := by
  have b8 := hI.set
  have b9 := hI.rnd
  have b10 := hI.pap
  refine pm_Inv.of (fun j hj => by
    have a0 := hI.how j hj
    have a1 := hI.okm j hj
    have a2 := hI.nom j hj
    have a3 := hI.dull j hj
    have a4 := hI.size j hj
    have a5 := hI.chi j hj
    have a6 := hI.pick j hj
    have a9 := hI.rnd
    simp [pm_st, updN]; (repeat' split) <;> first | omega | assumption) (fun j hj => by
    have a0 := hI.how j hj
    have a1 := hI.okm j hj
    have a2 := hI.nom j hj
    have a3 := hI.dull j hj
    have a4 := hI.size j hj
    have a5 := hI.chi j hj
    have a6 := hI.pick j hj
    have a9 := hI.rnd
    simp [pm_st, updN]; (repeat' split) <;> first | assumption | decide) (fun j hj => by
    have a0 := hI.how j hj
    have a1 := hI.okm j hj
    have a2 := hI.nom j hj
    have a3 := hI.dull j hj
    have a4 := hI.size j hj
    have a5 := hI.chi j hj
    have a6 := hI.pick j hj
    have a9 := hI.rnd
    simp [pm_st, updN]; (repeat' split) <;> first | assumption | omega | (intro h; have := a2 h; omega) | simp_all | (intro h; simp_all)) (fun j hj => by
    have a0 := hI.how j hj
    have a1 := hI.okm j hj
    have a2 := hI.nom j hj
    have a3 := hI.dull j hj
    have a4 := hI.size j hj
    have a5 := hI.chi j hj
    have a6 := hI.pick j hj
    have a9 := hI.rnd
    simp [pm_st, updN]; (repeat' split) <;> first | assumption | omega | (intro h; have := a6 (by omega); omega) | simp_all) (fun j hj => by
    have a0 := hI.how j hj
    have a1 := hI.okm j hj
    have a2 := hI.nom j hj
    have a3 := hI.dull j hj
    have a4 := hI.size j hj
    have a5 := hI.chi j hj
    have a6 := hI.pick j hj
    have a9 := hI.rnd
    simp [pm_st, updN]; (repeat' split) <;> first | assumption | omega | (intro h; have := a6 (by omega); omega) | simp_all) (fun j hj => by
    have a0 := hI.how j hj
    have a1 := hI.okm j hj
    have a2 := hI.nom j hj
    have a3 := hI.dull j hj
    have a4 := hI.size j hj
    have a5 := hI.chi j hj
    have a6 := hI.pick j hj
    have a9 := hI.rnd
    simp [pm_st, updN]; (repeat' split) <;> first | assumption | omega | (intro h; have := a6 (by omega); omega) | simp_all) (fun j hj => by
    have a0 := hI.how j hj
    have a1 := hI.okm j hj
    have a2 := hI.nom j hj
    have a3 := hI.dull j hj
    have a4 := hI.size j hj
    have a5 := hI.chi j hj
    have a6 := hI.pick j hj
    have a9 := hI.rnd
    simp [pm_st, updN]; (repeat' split) <;> first | assumption | omega | (intro h; have := a6 (by omega); omega) | simp_all) (fun e he => by
    have c := hI.pts e he
    simp [pm_st, updN]; (repeat' split) <;> first | assumption | omega) (by simp [pm_st, updN]; (repeat' split) <;> first | assumption | omega) (by simp [pm_st, updN]; (repeat' split) <;> first | assumption | omega) (by simp [pm_st, updN]; (repeat' split) <;> first | assumption | omega)
theorem pm_inv_c11 {S : Nat → Nat → Nat} (hI : pm_Inv S) {e v : Nat} : pm_Inv (pm_st S 11 e v) := by
  have b8 := hI.set
  have b9 := hI.rnd
  have b10 := hI.pap
  refine pm_Inv.of (fun j hj => by
    have a0 := hI.how j hj
    have a1 := hI.okm j hj
    have a2 := hI.nom j hj
    have a3 := hI.dull j hj
    have a4 := hI.size j hj
    have a5 := hI.chi j hj
    have a6 := hI.pick j hj
    have a9 := hI.rnd
    simp [pm_st, updN]; (repeat' split) <;> first | omega | assumption) (fun j hj => by
    have a0 := hI.how j hj
    have a1 := hI.okm j hj
    have a2 := hI.nom j hj
    have a3 := hI.dull j hj
    have a4 := hI.size j hj
    have a5 := hI.chi j hj
    have a6 := hI.pick j hj
    have a9 := hI.rnd
    simp [pm_st, updN]; (repeat' split) <;> first | assumption | decide) (fun j hj => by
    have a0 := hI.how j hj
    have a1 := hI.okm j hj
    have a2 := hI.nom j hj
    have a3 := hI.dull j hj
    have a4 := hI.size j hj
    have a5 := hI.chi j hj
    have a6 := hI.pick j hj
    have a9 := hI.rnd
    simp [pm_st, updN]; (repeat' split) <;> first | assumption | omega | (intro h; have := a2 h; omega) | simp_all | (intro h; simp_all)) (fun j hj => by
    have a0 := hI.how j hj
    have a1 := hI.okm j hj
    have a2 := hI.nom j hj
    have a3 := hI.dull j hj
    have a4 := hI.size j hj
    have a5 := hI.chi j hj
    have a6 := hI.pick j hj
    have a9 := hI.rnd
    simp [pm_st, updN]; (repeat' split) <;> first | assumption | omega | (intro h; have := a6 (by omega); omega) | simp_all) (fun j hj => by
    have a0 := hI.how j hj
    have a1 := hI.okm j hj
    have a2 := hI.nom j hj
    have a3 := hI.dull j hj
    have a4 := hI.size j hj
    have a5 := hI.chi j hj
    have a6 := hI.pick j hj
    have a9 := hI.rnd
    simp [pm_st, updN]; (repeat' split) <;> first | assumption | omega | (intro h; have := a6 (by omega); omega) | simp_all) (fun j hj => by
    have a0 := hI.how j hj
    have a1 := hI.okm j hj
    have a2 := hI.nom j hj
    have a3 := hI.dull j hj
    have a4 := hI.size j hj
    have a5 := hI.chi j hj
    have a6 := hI.pick j hj
    have a9 := hI.rnd
    simp [pm_st, updN]; (repeat' split) <;> first | assumption | omega | (intro h; have := a6 (by omega); omega) | simp_all) (fun j hj => by
    have a0 := hI.how j hj
    have a1 := hI.okm j hj
    have a2 := hI.nom j hj
    have a3 := hI.dull j hj
    have a4 := hI.size j hj
    have a5 := hI.chi j hj
    have a6 := hI.pick j hj
    have a9 := hI.rnd
    simp [pm_st, updN]; (repeat' split) <;> first | assumption | omega | (intro h; have := a6 (by omega); omega) | simp_all) (fun e he => by
    have c := hI.pts e he
    simp [pm_st, updN]; (repeat' split) <;> first | assumption | omega) (by simp [pm_st, updN]; (repeat' split) <;> first | assumption | omega) (by simp [pm_st, updN]; (repeat' split) <;> first | assumption | omega) (by simp [pm_st, updN]; (repeat' split) <;> first | assumption | omega)
theorem pm_inv_pap {S : Nat → Nat → Nat} (hI : pm_Inv S) {v : Nat} (hv : v ≤ 999) : pm_Inv (pm_st S 10 1 v) := by
  have b8 := hI.set
  have b9 := hI.rnd
  have b10 := hI.pap
  refine pm_Inv.of (fun j hj => by
    have a0 := hI.how j hj
    have a1 := hI.okm j hj
    have a2 := hI.nom j hj
    have a3 := hI.dull j hj
    have a4 := hI.size j hj
    have a5 := hI.chi j hj
    have a6 := hI.pick j hj
    have a9 := hI.rnd
    simp [pm_st, updN]; (repeat' split) <;> first | omega | assumption) (fun j hj => by
    have a0 := hI.how j hj
    have a1 := hI.okm j hj
    have a2 := hI.nom j hj
    have a3 := hI.dull j hj
    have a4 := hI.size j hj
    have a5 := hI.chi j hj
    have a6 := hI.pick j hj
    have a9 := hI.rnd
    simp [pm_st, updN]; (repeat' split) <;> first | assumption | decide) (fun j hj => by
    have a0 := hI.how j hj
    have a1 := hI.okm j hj
    have a2 := hI.nom j hj
    have a3 := hI.dull j hj
    have a4 := hI.size j hj
    have a5 := hI.chi j hj
    have a6 := hI.pick j hj
    have a9 := hI.rnd
    simp [pm_st, updN]; (repeat' split) <;> first | assumption | omega | (intro h; have := a2 h; omega) | simp_all | (intro h; simp_all)) (fun j hj => by
    have a0 := hI.how j hj
    have a1 := hI.okm j hj
    have a2 := hI.nom j hj
    have a3 := hI.dull j hj
    have a4 := hI.size j hj
    have a5 := hI.chi j hj
    have a6 := hI.pick j hj
    have a9 := hI.rnd
    simp [pm_st, updN]; (repeat' split) <;> first | assumption | omega | (intro h; have := a6 (by omega); omega) | simp_all) (fun j hj => by
    have a0 := hI.how j hj
    have a1 := hI.okm j hj
    have a2 := hI.nom j hj
    have a3 := hI.dull j hj
    have a4 := hI.size j hj
    have a5 := hI.chi j hj
    have a6 := hI.pick j hj
    have a9 := hI.rnd
    simp [pm_st, updN]; (repeat' split) <;> first | assumption | omega | (intro h; have := a6 (by omega); omega) | simp_all) (fun j hj => by
    have a0 := hI.how j hj
    have a1 := hI.okm j hj
    have a2 := hI.nom j hj
    have a3 := hI.dull j hj
    have a4 := hI.size j hj
    have a5 := hI.chi j hj
    have a6 := hI.pick j hj
    have a9 := hI.rnd
    simp [pm_st, updN]; (repeat' split) <;> first | assumption | omega | (intro h; have := a6 (by omega); omega) | simp_all) (fun j hj => by
    have a0 := hI.how j hj
    have a1 := hI.okm j hj
    have a2 := hI.nom j hj
    have a3 := hI.dull j hj
    have a4 := hI.size j hj
    have a5 := hI.chi j hj
    have a6 := hI.pick j hj
    have a9 := hI.rnd
    simp [pm_st, updN]; (repeat' split) <;> first | assumption | omega | (intro h; have := a6 (by omega); omega) | simp_all) (fun e he => by
    have c := hI.pts e he
    simp [pm_st, updN]; (repeat' split) <;> first | assumption | omega) (by simp [pm_st, updN]; (repeat' split) <;> first | assumption | omega) (by simp [pm_st, updN]; (repeat' split) <;> first | assumption | omega) (by simp [pm_st, updN]; (repeat' split) <;> first | assumption | omega)
theorem pm_inv_tak {S : Nat → Nat → Nat} (hI : pm_Inv S) {v : Nat} : pm_Inv (pm_st S 10 2 v) := by
  have b8 := hI.set
  have b9 := hI.rnd
  have b10 := hI.pap
  refine pm_Inv.of (fun j hj => by
    have a0 := hI.how j hj
    have a1 := hI.okm j hj
    have a2 := hI.nom j hj
    have a3 := hI.dull j hj
    have a4 := hI.size j hj
    have a5 := hI.chi j hj
    have a6 := hI.pick j hj
    have a9 := hI.rnd
    simp [pm_st, updN]; (repeat' split) <;> first | omega | assumption) (fun j hj => by
    have a0 := hI.how j hj
    have a1 := hI.okm j hj
    have a2 := hI.nom j hj
    have a3 := hI.dull j hj
    have a4 := hI.size j hj
    have a5 := hI.chi j hj
    have a6 := hI.pick j hj
    have a9 := hI.rnd
    simp [pm_st, updN]; (repeat' split) <;> first | assumption | decide) (fun j hj => by
    have a0 := hI.how j hj
    have a1 := hI.okm j hj
    have a2 := hI.nom j hj
    have a3 := hI.dull j hj
    have a4 := hI.size j hj
    have a5 := hI.chi j hj
    have a6 := hI.pick j hj
    have a9 := hI.rnd
    simp [pm_st, updN]; (repeat' split) <;> first | assumption | omega | (intro h; have := a2 h; omega) | simp_all | (intro h; simp_all)) (fun j hj => by
    have a0 := hI.how j hj
    have a1 := hI.okm j hj
    have a2 := hI.nom j hj
    have a3 := hI.dull j hj
    have a4 := hI.size j hj
    have a5 := hI.chi j hj
    have a6 := hI.pick j hj
    have a9 := hI.rnd
    simp [pm_st, updN]; (repeat' split) <;> first | assumption | omega | (intro h; have := a6 (by omega); omega) | simp_all) (fun j hj => by
    have a0 := hI.how j hj
    have a1 := hI.okm j hj
    have a2 := hI.nom j hj
    have a3 := hI.dull j hj
    have a4 := hI.size j hj
    have a5 := hI.chi j hj
    have a6 := hI.pick j hj
    have a9 := hI.rnd
    simp [pm_st, updN]; (repeat' split) <;> first | assumption | omega | (intro h; have := a6 (by omega); omega) | simp_all) (fun j hj => by
    have a0 := hI.how j hj
    have a1 := hI.okm j hj
    have a2 := hI.nom j hj
    have a3 := hI.dull j hj
    have a4 := hI.size j hj
    have a5 := hI.chi j hj
    have a6 := hI.pick j hj
    have a9 := hI.rnd
    simp [pm_st, updN]; (repeat' split) <;> first | assumption | omega | (intro h; have := a6 (by omega); omega) | simp_all) (fun j hj => by
    have a0 := hI.how j hj
    have a1 := hI.okm j hj
    have a2 := hI.nom j hj
    have a3 := hI.dull j hj
    have a4 := hI.size j hj
    have a5 := hI.chi j hj
    have a6 := hI.pick j hj
    have a9 := hI.rnd
    simp [pm_st, updN]; (repeat' split) <;> first | assumption | omega | (intro h; have := a6 (by omega); omega) | simp_all) (fun e he => by
    have c := hI.pts e he
    simp [pm_st, updN]; (repeat' split) <;> first | assumption | omega) (by simp [pm_st, updN]; (repeat' split) <;> first | assumption | omega) (by simp [pm_st, updN]; (repeat' split) <;> first | assumption | omega) (by simp [pm_st, updN]; (repeat' split) <;> first | assumption | omega)
theorem pm_inv_prt {S : Nat → Nat → Nat} (hI : pm_Inv S) {f z : Nat} (hf : f < 30) (h : S 0 f = 1) (hz : z < 4) : pm_Inv (pm_st (pm_st S 0 f 3) 2 f z) := by
  have hp := hI.pick f hf (Or.inl h)
  have hm := hI.nom f hf (by omega)
  have b8 := hI.set
  have b9 := hI.rnd
  have b10 := hI.pap
  refine pm_Inv.of (fun j hj => by
    have a0 := hI.how j hj
    have a1 := hI.okm j hj
    have a2 := hI.nom j hj
    have a3 := hI.dull j hj
    have a4 := hI.size j hj
    have a5 := hI.chi j hj
    have a6 := hI.pick j hj
    have a9 := hI.rnd
    simp [pm_st, updN]; (repeat' split) <;> first | omega | assumption) (fun j hj => by
    have a0 := hI.how j hj
    have a1 := hI.okm j hj
    have a2 := hI.nom j hj
    have a3 := hI.dull j hj
    have a4 := hI.size j hj
    have a5 := hI.chi j hj
    have a6 := hI.pick j hj
    have a9 := hI.rnd
    simp [pm_st, updN]; (repeat' split) <;> first | assumption | decide) (fun j hj => by
    have a0 := hI.how j hj
    have a1 := hI.okm j hj
    have a2 := hI.nom j hj
    have a3 := hI.dull j hj
    have a4 := hI.size j hj
    have a5 := hI.chi j hj
    have a6 := hI.pick j hj
    have a9 := hI.rnd
    simp [pm_st, updN]; (repeat' split) <;> first | assumption | omega | (intro h; have := a2 h; omega) | simp_all | (intro h; simp_all)) (fun j hj => by
    have a0 := hI.how j hj
    have a1 := hI.okm j hj
    have a2 := hI.nom j hj
    have a3 := hI.dull j hj
    have a4 := hI.size j hj
    have a5 := hI.chi j hj
    have a6 := hI.pick j hj
    have a9 := hI.rnd
    simp [pm_st, updN]; (repeat' split) <;> first | assumption | omega | (intro h; have := a6 (by omega); omega) | simp_all) (fun j hj => by
    have a0 := hI.how j hj
    have a1 := hI.okm j hj
    have a2 := hI.nom j hj
    have a3 := hI.dull j hj
    have a4 := hI.size j hj
    have a5 := hI.chi j hj
    have a6 := hI.pick j hj
    have a9 := hI.rnd
    simp [pm_st, updN]; (repeat' split) <;> first | assumption | omega | (intro h; have := a6 (by omega); omega) | simp_all) (fun j hj => by
    have a0 := hI.how j hj
    have a1 := hI.okm j hj
    have a2 := hI.nom j hj
    have a3 := hI.dull j hj
    have a4 := hI.size j hj
    have a5 := hI.chi j hj
    have a6 := hI.pick j hj
    have a9 := hI.rnd
    simp [pm_st, updN]; (repeat' split) <;> first | assumption | omega | (intro h; have := a6 (by omega); omega) | simp_all) (fun j hj => by
    have a0 := hI.how j hj
    have a1 := hI.okm j hj
    have a2 := hI.nom j hj
    have a3 := hI.dull j hj
    have a4 := hI.size j hj
    have a5 := hI.chi j hj
    have a6 := hI.pick j hj
    have a9 := hI.rnd
    simp [pm_st, updN]; (repeat' split) <;> first | assumption | omega | (intro h; have := a6 (by omega); omega) | simp_all) (fun e he => by
    have c := hI.pts e he
    simp [pm_st, updN]; (repeat' split) <;> first | assumption | omega) (by simp [pm_st, updN]; (repeat' split) <;> first | assumption | omega) (by simp [pm_st, updN]; (repeat' split) <;> first | assumption | omega) (by simp [pm_st, updN]; (repeat' split) <;> first | assumption | omega)
theorem pm_inv_rop {S : Nat → Nat → Nat} (hI : pm_Inv S) {f : Nat} (hf : f < 30) (h : ¬ S 0 f = 0) : pm_Inv (pm_st (pm_st (pm_st S 0 f 0) 1 f 0) 2 f 0) := by
  have hm := hI.nom f hf h
  have b8 := hI.set
  have b9 := hI.rnd
  have b10 := hI.pap
  refine pm_Inv.of (fun j hj => by
    have a0 := hI.how j hj
    have a1 := hI.okm j hj
    have a2 := hI.nom j hj
    have a3 := hI.dull j hj
    have a4 := hI.size j hj
    have a5 := hI.chi j hj
    have a6 := hI.pick j hj
    have a9 := hI.rnd
    simp [pm_st, updN]; (repeat' split) <;> first | omega | assumption) (fun j hj => by
    have a0 := hI.how j hj
    have a1 := hI.okm j hj
    have a2 := hI.nom j hj
    have a3 := hI.dull j hj
    have a4 := hI.size j hj
    have a5 := hI.chi j hj
    have a6 := hI.pick j hj
    have a9 := hI.rnd
    simp [pm_st, updN]; (repeat' split) <;> first | assumption | decide) (fun j hj => by
    have a0 := hI.how j hj
    have a1 := hI.okm j hj
    have a2 := hI.nom j hj
    have a3 := hI.dull j hj
    have a4 := hI.size j hj
    have a5 := hI.chi j hj
    have a6 := hI.pick j hj
    have a9 := hI.rnd
    simp [pm_st, updN]; (repeat' split) <;> first | assumption | omega | (intro h; have := a2 h; omega) | simp_all | (intro h; simp_all)) (fun j hj => by
    have a0 := hI.how j hj
    have a1 := hI.okm j hj
    have a2 := hI.nom j hj
    have a3 := hI.dull j hj
    have a4 := hI.size j hj
    have a5 := hI.chi j hj
    have a6 := hI.pick j hj
    have a9 := hI.rnd
    simp [pm_st, updN]; (repeat' split) <;> first | assumption | omega | (intro h; have := a6 (by omega); omega) | simp_all) (fun j hj => by
    have a0 := hI.how j hj
    have a1 := hI.okm j hj
    have a2 := hI.nom j hj
    have a3 := hI.dull j hj
    have a4 := hI.size j hj
    have a5 := hI.chi j hj
    have a6 := hI.pick j hj
    have a9 := hI.rnd
    simp [pm_st, updN]; (repeat' split) <;> first | assumption | omega | (intro h; have := a6 (by omega); omega) | simp_all) (fun j hj => by
    have a0 := hI.how j hj
    have a1 := hI.okm j hj
    have a2 := hI.nom j hj
    have a3 := hI.dull j hj
    have a4 := hI.size j hj
    have a5 := hI.chi j hj
    have a6 := hI.pick j hj
    have a9 := hI.rnd
    simp [pm_st, updN]; (repeat' split) <;> first | assumption | omega | (intro h; have := a6 (by omega); omega) | simp_all) (fun j hj => by
    have a0 := hI.how j hj
    have a1 := hI.okm j hj
    have a2 := hI.nom j hj
    have a3 := hI.dull j hj
    have a4 := hI.size j hj
    have a5 := hI.chi j hj
    have a6 := hI.pick j hj
    have a9 := hI.rnd
    simp [pm_st, updN]; (repeat' split) <;> first | assumption | omega | (intro h; have := a6 (by omega); omega) | simp_all) (fun e he => by
    have c := hI.pts e he
    simp [pm_st, updN]; (repeat' split) <;> first | assumption | omega) (by simp [pm_st, updN]; (repeat' split) <;> first | assumption | omega) (by simp [pm_st, updN]; (repeat' split) <;> first | assumption | omega) (by simp [pm_st, updN]; (repeat' split) <;> first | assumption | omega)
theorem pm_aMark_inv {S : Nat → Nat → Nat} (hI : pm_Inv S) (e f m : Int32) : pm_Inv (pm_aMark S e f m).2 := by
  rcases pm_cases e (n := 3) (by decide) with h | ⟨i, hi, rfl⟩
  · simp only [pm_aMark, pm_ix_out h]; exact hI
  · rcases pm_cases f (n := 30) (by decide) with h | ⟨j, hj, rfl⟩
    · simp only [pm_aMark, pm_ix_in hi (show (3 : Nat) < 2 ^ 31 by decide), pm_ix_out h]; exact hI
    · rcases pm_cases m (n := 3) (by decide) with h | ⟨v, hv, rfl⟩
      · simp only [pm_aMark, pm_ix_in hi (show (3 : Nat) < 2 ^ 31 by decide), pm_ix_in hj (show (30 : Nat) < 2 ^ 31 by decide), pm_ix_out h]; exact hI
      · simp only [pm_aMark, pm_ix_in hi (show (3 : Nat) < 2 ^ 31 by decide), pm_ix_in hj (show (30 : Nat) < 2 ^ 31 by decide), pm_ix_in hv (show (3 : Nat) < 2 ^ 31 by decide)]
        split
        · exact hI
        · split
          · exact hI
          · exact pm_inv_mark hI (by omega) (pm_smok (hI.okm j hj) hi hv)
theorem pm_open {S : Nat → Nat → Nat} (hI : pm_Inv S) {j k : Nat} (hj : j < 30) (hk : pm_mk (S 4 j) k = 2) : S 0 j = 0 := by
  by_cases h : S 0 j = 0
  · exact h
  · have := hI.nom j hj h
    rw [this] at hk
    simp [pm_mk] at hk
theorem pm_aArgue_inv {S : Nat → Nat → Nat} (hI : pm_Inv S) (e o f : Int32) : pm_Inv (pm_aArgue S e o f).2 := by
  rcases pm_cases e (n := 3) (by decide) with h | ⟨i, hi, rfl⟩
  · simp only [pm_aArgue, pm_ix_out h]; exact hI
  · rcases pm_cases o (n := 3) (by decide) with h | ⟨k, hk, rfl⟩
    · simp only [pm_aArgue, pm_ix_in hi (show (3 : Nat) < 2 ^ 31 by decide), pm_ix_out h]; exact hI
    · rcases pm_cases f (n := 30) (by decide) with h | ⟨j, hj, rfl⟩
      · simp only [pm_aArgue, pm_ix_in hi (show (3 : Nat) < 2 ^ 31 by decide), pm_ix_in hk (show (3 : Nat) < 2 ^ 31 by decide), pm_ix_out h]; exact hI
      · simp only [pm_aArgue, pm_ix_in hi (show (3 : Nat) < 2 ^ 31 by decide), pm_ix_in hk (show (3 : Nat) < 2 ^ 31 by decide), pm_ix_in hj (show (30 : Nat) < 2 ^ 31 by decide)]
        have p1 := hI.pts i hi
        have p2 := hI.pts k hk
        split
        · exact hI
        · split
          · exact hI
          · have hop : S 0 j = 0 := pm_open hI hj (show pm_mk (S 4 j) k = 2 by omega)
            have b1 := pm_inv_c6 (pm_inv_pts hI (e := i) (v := S 5 i - S 9 2) (by omega)) (e := i) (v := S 6 i + 1)
            split
            · exact pm_inv_pts b1 (by omega)
            · exact pm_inv_c7 (pm_inv_mark b1 hop (pm_smok (hI.okm j hj) hk (by decide)))
theorem pm_aPrint_inv {S : Nat → Nat → Nat} (hI : pm_Inv S) (f z : Int32) : pm_Inv (pm_aPrint S f z).2 := by
  rcases pm_cases f (n := 30) (by decide) with h | ⟨j, hj, rfl⟩
  · simp only [pm_aPrint, pm_ix_out h]; exact hI
  · rcases pm_cases z (n := 4) (by decide) with h | ⟨w, hw, rfl⟩
    · simp only [pm_aPrint, pm_ix_in hj (show (30 : Nat) < 2 ^ 31 by decide), pm_ix_out h]; exact hI
    · simp only [pm_aPrint, pm_ix_in hj (show (30 : Nat) < 2 ^ 31 by decide), pm_ix_in hw (show (4 : Nat) < 2 ^ 31 by decide)]
      have p1 := hI.pap
      split
      · exact hI
      · split
        · exact hI
        · exact pm_inv_c11 (pm_inv_tak (pm_inv_pap (pm_inv_prt hI hj (by omega) hw) (by omega)))
theorem pm_aBuy_inv {S : Nat → Nat → Nat} (hI : pm_Inv S) (b : Int32) : pm_Inv (pm_aBuy S b).2 := by
  rcases pm_cases b (n := 100) (by decide) with h | ⟨w, hw, rfl⟩
  · simp only [pm_aBuy, pm_ix_out h]; exact hI
  · simp only [pm_aBuy, pm_ix_in hw (show (100 : Nat) < 2 ^ 31 by decide)]
    split
    · exact hI
    · exact pm_inv_pap hI (by split <;> omega)
theorem pm_aReopen_inv {S : Nat → Nat → Nat} (hI : pm_Inv S) (f : Int32) : pm_Inv (pm_aReopen S f).2 := by
  rcases pm_cases f (n := 30) (by decide) with h | ⟨j, hj, rfl⟩
  · simp only [pm_aReopen, pm_ix_out h]; exact hI
  · simp only [pm_aReopen, pm_ix_in hj (show (30 : Nat) < 2 ^ 31 by decide)]
    split
    · exact hI
    · exact pm_inv_rop hI hj (by omega)
theorem pm_aSet_inv {S : Nat → Nat → Nat} (hI : pm_Inv S) (k v : Int32) : pm_Inv (pm_aSet S k v).2 := by
  rcases pm_cases k (n := 4) (by decide) with h | ⟨i, hi, rfl⟩
  · simp only [pm_aSet, pm_ix_out h]; exact hI
  · rcases pm_cases v (n := 10) (by decide) with h | ⟨w, hw, rfl⟩
    · simp only [pm_aSet, pm_ix_in hi (show (4 : Nat) < 2 ^ 31 by decide), pm_ix_out h]; exact hI
    · simp only [pm_aSet, pm_ix_in hi (show (4 : Nat) < 2 ^ 31 by decide), pm_ix_in hw (show (10 : Nat) < 2 ^ 31 by decide)]
      by_cases hr : (if i = 1 then 0 else 1) ≤ w ∧ w ≤ (if i = 0 then 3 else if i = 3 then 5 else 9)
      · rw [if_pos hr]
        show pm_Inv (pm_st S 9 i w)
        have b8 := hI.set
        have e : ∀ c, ¬ c = 9 → pm_st S 9 i w c = S c := fun c hc => pm_st_o hc
        refine pm_Inv.of (by rw [e 0 (by decide)]; exact hI.how) (by rw [e 4 (by decide)]; exact hI.okm) (by rw [e 0 (by decide), e 4 (by decide)]; exact hI.nom) (by rw [e 1 (by decide), e 10 (by decide)]; exact hI.dull) (by rw [e 2 (by decide)]; exact hI.size) (by rw [e 3 (by decide), e 10 (by decide)]; exact hI.chi) (by rw [e 0 (by decide), e 3 (by decide)]; exact hI.pick) (by rw [e 5 (by decide)]; exact hI.pts) ?_ (by rw [e 10 (by decide)]; exact hI.rnd) (by rw [e 10 (by decide)]; exact hI.pap)
        simp only [pm_st_v]
        rcases (show i = 0 ∨ i = 1 ∨ i = 2 ∨ i = 3 by omega) with rfl | rfl | rfl | rfl <;> simp at hr ⊢ <;> omega
      · rw [if_neg hr]
        exact hI
/-- a frame behind a round -/
theorem pm_rds_w {S : Nat → Nat → Nat} (hI : pm_Inv S) : ∀ n, n ≤ 30 → ∀ j, j < n → (pm_rds S n 0 j < 4 ∧ pm_rds S n 4 j = 0 ∧ pm_rds S n 1 j ≤ S 10 0 + 1 ∧ pm_rds S n 2 j < 4 ∧ pm_rds S n 3 j ≤ S 10 0 + 1 ∧ ((pm_rds S n 0 j = 1 ∨ pm_rds S n 0 j = 3) → 0 < pm_rds S n 3 j))
  | 0, _, j, hj => absurd hj (Nat.not_lt_zero j)
  | n + 1, hn, j, hj => by
    have a0 := hI.how n (by omega)
    have a2 := hI.nom n (by omega)
    have a3 := hI.dull n (by omega)
    have a4 := hI.size n (by omega)
    have a5 := hI.chi n (by omega)
    have a6 := hI.pick n (by omega)
    have g : ∀ c, c < 8 → pm_rds S n c n = S c n := fun c hc => pm_rds_o S hc n n (Nat.le_refl n)
    by_cases hjn : j = n
    · subst hjn
      by_cases h0 : S 0 j = 0
      · rw [pm_rds_p h0]
        have ea := pm_aft_r S j
        have e3 := pm_aft3 S j
        have ed : pm_dl (pm_rds S j) j ≤ S 10 0 + 1 := Nat.le_trans (pm_dl_le _ _) (by rw [g 1 (by decide)]; omega)
        have et : pm_tc (S 4 j) < 4 := pm_pc4 _
        generalize hT : pm_rds S j = T at *
        by_cases h1 : pm_aft T j = 1
        · rw [pm_jdg_p h1]
          simp only [pm_st, pm_chs]
          simp [updN]
          rw [g 4 (by decide), ea]
          have e10 : T 10 0 = S 10 0 := by rw [← hT]; exact pm_rds_9 S (by decide) 0 j
          rw [e10]
          omega
        · rw [pm_jdg_n h1]
          simp only [pm_st]
          simp [updN]
          rw [g 2 (by decide), g 3 (by decide), ea]
          rw [ea] at h1
          omega
      · rw [pm_rds_n h0, g 0 (by decide), g 4 (by decide), g 1 (by decide), g 2 (by decide), g 3 (by decide)]
        exact ⟨a0, a2 h0, by omega, a4, by omega, a6⟩
    · have ih := pm_rds_w hI n (by omega) j (by omega)
      by_cases h0 : S 0 n = 0
      · rw [pm_rds_p h0, pm_jdg_o hjn (by decide), pm_jdg_o hjn (by decide), pm_jdg_o hjn (by decide), pm_jdg_o hjn (by decide), pm_jdg_o hjn (by decide)]
        exact ih
      · rw [pm_rds_n h0]
        exact ih
theorem pm_pts_le {f : Nat → Nat} (h : ∀ e, e < 3 → f e ≤ 20) : ∀ n e, e < 3 → pm_pts f n e ≤ 20
  | 0, e, he => h e he
  | n + 1, e, he => by
    rw [pm_pts]
    unfold updN
    split
    · split <;> omega
    · exact pm_pts_le h n e he
theorem pm_aRound_inv {S : Nat → Nat → Nat} (hI : pm_Inv S) : pm_Inv (pm_aRound S).2 := by
  unfold pm_aRound
  by_cases h : 99 ≤ S 10 0
  · rw [if_pos h]
    exact hI
  · rw [if_neg h]
    show pm_Inv (pm_st (fun d => if d = 5 then pm_pts (S 5) 3 else pm_rds S 30 d) 10 0 (S 10 0 + 1))
    have e : ∀ c, ¬ c = 10 → ¬ c = 5 → pm_st (fun d => if d = 5 then pm_pts (S 5) 3 else pm_rds S 30 d) 10 0 (S 10 0 + 1) c = pm_rds S 30 c := fun c h1 h2 => by
      rw [pm_st_o h1]
      exact if_neg h2
    have w := pm_rds_w hI 30 (Nat.le_refl 30)
    have e10 : pm_rds S 30 10 = S 10 := pm_rds_5 S (by decide) 30
    have e9 : pm_rds S 30 9 = S 9 := pm_rds_5 S (by decide) 30
    have f0 : pm_st (fun d => if d = 5 then pm_pts (S 5) 3 else pm_rds S 30 d) 10 0 (S 10 0 + 1) 10 0 = S 10 0 + 1 := pm_st_s _ _ _ _
    have f1 : pm_st (fun d => if d = 5 then pm_pts (S 5) 3 else pm_rds S 30 d) 10 0 (S 10 0 + 1) 10 1 = S 10 1 := by
      rw [pm_st_k (by decide)]
      show pm_rds S 30 10 1 = S 10 1
      rw [e10]
    refine pm_Inv.of (by rw [e 0 (by decide) (by decide)]; exact fun j hj => (w j hj).1) (by rw [e 4 (by decide) (by decide)]; exact fun j hj => by rw [(w j hj).2.1]; decide) (by rw [e 4 (by decide) (by decide)]; exact fun j hj _ => (w j hj).2.1) (by rw [e 1 (by decide) (by decide), f0]; exact fun j hj => (w j hj).2.2.1) (by rw [e 2 (by decide) (by decide)]; exact fun j hj => (w j hj).2.2.2.1) (by rw [e 3 (by decide) (by decide), f0]; exact fun j hj => (w j hj).2.2.2.2.1) (by rw [e 0 (by decide) (by decide), e 3 (by decide) (by decide)]; exact fun j hj => (w j hj).2.2.2.2.2) ?_ (by rw [e 9 (by decide) (by decide), e9]; exact hI.set) (by rw [f0]; omega) (by rw [f1]; exact hI.pap)
    intro x hx
    rw [pm_st_o (c := 10) (d := 5) (by decide)]
    exact pm_pts_le hI.pts 3 x hx

