/-! ===== the law: what holds at its loop's head ===== -/
def pm_LI (S : Nat → Nat → Nat) (Bs : Nat → Nat → Nat → Nat) (pi : Nat → Nat) (kn : Nat) (Gs : Nat → Nat → Nat → Nat) (sv : Nat → Nat) (U : pm_PT) (gp gs : Nat → Int32) (Hs Sl : Nat → Nat → Nat → Nat) : Prop := pm_Inv S ∧ pm_CI Bs pi kn Gs sv Hs Sl ∧ pm_MH gp kn Hs ∧ pm_MS gs sv Sl ∧ (∀ i, i < kn → pm_Inv (Hs i)) ∧ (∀ j, j < 2 → sv j = 1 → pm_Inv (Sl j)) ∧ (∀ j, j < 2 → sv j = 0 ∨ sv j = 1) ∧ pm_PI U.1 U.2.1
def pm_lw (y : Nat → ClassId) (Ly : Nat → Nat → Nat) (qm : Nat → Nat) (S : Nat → Nat → Nat) (Bs : Nat → Nat → Nat → Nat) (pi : Nat → Nat) (kn : Nat) (Gs : Nat → Nat → Nat → Nat) (sv : Nat → Nat) (U : pm_PT) (gp gs : Nat → Int32) : va_W := pm_cl y Ly S Bs pi kn Gs sv U ++ (pm_mo y qm S gp gs kn U.2.1 sv U.1 ++ [])
theorem pm_push_inv {Hs : Nat → Nat → Nat → Nat} {kn : Nat} {S : Nat → Nat → Nat} (hI : pm_Inv S) (h : ∀ i, i < kn → pm_Inv (Hs i)) : ∀ i, i < pm_kn kn → pm_Inv (pm_push Hs kn S i) := by
  intro i hi
  unfold pm_kn at hi
  unfold pm_push
  by_cases h6 : kn = 6
  · rw [if_pos h6] at hi
    rw [if_pos h6]
    split
    · exact hI
    · exact h (i + 1) (by omega)
  · rw [if_neg h6] at hi
    rw [if_neg h6]
    split
    · exact hI
    · exact h i (by omega)
section PMLI
variable {S T : Nat → Nat → Nat} {Bs : Nat → Nat → Nat → Nat} {pi : Nat → Nat} {kn : Nat} {Gs : Nat → Nat → Nat → Nat} {sv : Nat → Nat} {U U' : pm_PT} {gp gs u : Nat → Int32} {Hs Sl : Nat → Nat → Nat → Nat}
theorem pm_CI_keep (S : Nat → Nat → Nat) (h : pm_CI Bs pi kn Gs sv Hs Sl) : pm_CI (pm_ub Bs (pi kn) S) (pm_kp pi kn) (pm_kn kn) Gs sv (pm_push Hs kn S) Sl := by
  obtain ⟨h1, h2, h3, h4, h5⟩ := h
  refine ⟨pm_kp_7 h1, pm_kp_i h2, ?_, pm_keep_H h2 h3 h4, h5⟩
  unfold pm_kn
  split <;> omega
theorem pm_LI_keep (h : pm_LI S Bs pi kn Gs sv U gp gs Hs Sl) (hT : pm_Inv T) (hU : pm_PI U'.1 U'.2.1) (hM : pm_MH u (pm_kn kn) (pm_push Hs kn S)) : pm_LI T (pm_ub Bs (pi kn) S) (pm_kp pi kn) (pm_kn kn) Gs sv U' u gs (pm_push Hs kn S) Sl := by
  obtain ⟨a1, a2, a3, a4, a5, a6, a7, a8⟩ := h
  exact ⟨hT, pm_CI_keep S a2, hM, a4, pm_push_inv a1 a5, a6, a7, hU⟩
theorem pm_LI_chg (r : Int32) (h : pm_LI S Bs pi kn Gs sv U gp gs Hs Sl) (hT : pm_Inv T) (hM : pm_MH u (pm_k2 r kn) (pm_h2 r Hs kn S)) : pm_LI T (pm_ub Bs (pi kn) S) (pm_rp pi kn r) (pm_rk kn r) Gs sv U u gs (pm_h2 r Hs kn S) Sl := by
  by_cases hr : r < 0
  · have e1 : pm_rp pi kn r = pi := if_pos hr
    have e2 : pm_rk kn r = kn := if_pos hr
    have e3 : pm_k2 r kn = kn := if_pos hr
    have e4 : pm_h2 r Hs kn S = Hs := if_pos hr
    rw [e3, e4] at hM
    rw [e1, e2, e4]
    obtain ⟨a1, a2, a3, a4, a5, a6, a7, a8⟩ := h
    exact ⟨hT, pm_CI_note S a2, hM, a4, a5, a6, a7, a8⟩
  · have e1 : pm_rp pi kn r = pm_kp pi kn := if_neg hr
    have e2 : pm_rk kn r = pm_kn kn := if_neg hr
    have e3 : pm_k2 r kn = pm_kn kn := if_neg hr
    have e4 : pm_h2 r Hs kn S = pm_push Hs kn S := if_neg hr
    rw [e3, e4] at hM
    rw [e1, e2, e4]
    exact pm_LI_keep h hT h.2.2.2.2.2.2.2 hM
theorem pm_LI_pad (h : pm_LI S Bs pi kn Gs sv U gp gs Hs Sl) (hU : pm_PI U'.1 U'.2.1) : pm_LI S Bs pi kn Gs sv U' gp gs Hs Sl := by
  obtain ⟨a1, a2, a3, a4, a5, a6, a7, a8⟩ := h
  exact ⟨a1, a2, a3, a4, a5, a6, a7, hU⟩
theorem pm_LI_undo (h : pm_LI S Bs pi kn Gs sv U gp gs Hs Sl) (hk0 : 0 < kn) : Bs (pi (kn - 1)) = Hs (kn - 1) ∧ pm_LI (Hs (kn - 1)) Bs pi (kn - 1) Gs sv U gp gs Hs Sl := by
  obtain ⟨a1, ⟨c1, c2, c3, c4, c5⟩, a3, a4, a5, a6, a7, a8⟩ := h
  refine ⟨c4 _ (by omega), a5 _ (by omega), ⟨c1, c2, by omega, fun i hi => c4 i (by omega), c5⟩, fun k hk => a3 k (by omega), a4, fun i hi => a5 i (by omega), a6, a7, a8⟩
theorem pm_LI_save (h : pm_LI S Bs pi kn Gs sv U gp gs Hs Sl) {j : Nat} (hj : j < 2) (hMS : pm_MS u (updN sv j 1) (pm_slp Sl j S)) : pm_LI S Bs pi kn (pm_ub Gs j S) (updN sv j 1) U gp u Hs (pm_slp Sl j S) := by
  obtain ⟨a1, ⟨c1, c2, c3, c4, c5⟩, a3, a4, a5, a6, a7, a8⟩ := h
  refine ⟨a1, ⟨c1, c2, c3, c4, fun i hi he => ?_⟩, a3, hMS, a5, fun i hi he => ?_, fun i hi => ?_, a8⟩
  · unfold pm_ub pm_slp
    by_cases e : i = j
    · rw [if_pos e, if_pos e]
    · rw [if_neg e, if_neg e]
      rw [updN_n sv 1 e] at he
      exact c5 i hi he
  · unfold pm_slp
    by_cases e : i = j
    · rw [if_pos e]
      exact a1
    · rw [if_neg e]
      rw [updN_n sv 1 e] at he
      exact a6 i hi he
  · by_cases e : i = j
    · rw [e, updN_s]
      exact Or.inr rfl
    · rw [updN_n sv 1 e]
      exact a7 i hi
theorem pm_LI_rest (h : pm_LI S Bs pi kn Gs sv U gp gs Hs Sl) {j : Nat} (hj : j < 2) (hs : sv j = 1) : Gs j = Sl j ∧ pm_Inv (Sl j) := ⟨h.2.1.2.2.2.2 j hj hs, h.2.2.2.2.2.1 j hj hs⟩
end PMLI
theorem pm_flt_le {P : Nat → Nat} {ln : Nat} : ∀ n p f, pm_flt P ln n p = some f → f ≤ p + 6 ∨ f ≤ ln + 7
  | 0, p, f, h => by cases h
  | n + 1, p, f, h => by
    have hz := pm_sz_oe P ln p
    cases hoe : pm_oe P ln p with
    | inr g =>
      rw [pm_flt_r hoe] at h
      rw [hoe] at hz
      have e : g = f := Option.some.inj h
      have hz : g ≤ p + 6 := hz
      omega
    | inl e =>
      have hl := pm_oe_l hoe
      by_cases he : e = ln
      · rw [pm_flt_e hoe he] at h
        cases h
      · by_cases h2 : e < ln ∧ P e = 59
        · rw [pm_flt_s hoe he h2] at h
          have := pm_flt_le n (e + 1) f h
          omega
        · rw [pm_flt_x hoe he h2] at h
          have e2 : e = f := Option.some.inj h
          omega
theorem pm_fa_6 {P : Nat → Nat} {ln : Nat} (hPI : pm_PI P ln) (h : pm_fa P ln = -6) : pm_flt P ln 80 0 = none := by
  have hln := hPI.1
  cases hf : pm_flt P ln 80 0 with
  | none => rfl
  | some f =>
    have := pm_flt_le 80 0 f hf
    rw [pm_fa_some hf] at h
    exact pm_nneg (n := f) (by omega) (by rw [h]; decide)
theorem pm_cls_co2 (S : Nat → Nat → Nat) (ln kn : Nat) (w : Int32) : pm_cls S ln kn w = pm_co2 S ln kn w := by
  rcases pm_cases w (n := 17) (by decide) with h | ⟨j, hj, rfl⟩
  · have h15 : pm_ix w 15 = none := pm_ix_out (pm_outle17 h)
    unfold pm_cls pm_co2 pm_co
    rw [pm_ix_out h, h15, if_neg (fun e => pm_io (by decide) (show 15 < 17 by decide) e h), if_neg (fun e => pm_io (by decide) (show 16 < 17 by decide) e h)]
  · unfold pm_cls pm_co2
    rw [pm_ix_in hj (by decide)]
    by_cases e15 : j = 15
    · subst e15
      exact if_pos rfl
    · by_cases e16 : j = 16
      · subst e16
        rw [if_neg (fun z => absurd ((nI_eq (by decide) (by decide)).mp z) (by decide)), if_pos rfl]
        rfl
      · rw [if_neg (fun z => e15 ((nI_eq (by omega) (by decide)).mp z)), if_neg (fun z => e16 ((nI_eq (by omega) (by decide)).mp z))]
        split
        · rename_i z
          cases z
        · rename_i z
          exact absurd (Option.some.inj z) e15
        · rename_i z
          exact absurd (Option.some.inj z) e16
        · rfl
theorem pm_a31 (x : Int32) : ∃ t, t < 32 ∧ x &&& nI 31 = nI t := by
  refine ⟨x.toBitVec.toNat % 32, Nat.mod_lt _ (by decide), ?_⟩
  apply Int32.toBitVec.inj
  rw [Int32.toBitVec_and]
  apply BitVec.eq_of_toNat_eq
  have e : (nI 31).toBitVec = BitVec.ofNat 32 31 := rfl
  have e2 : (nI (x.toBitVec.toNat % 32)).toBitVec = BitVec.ofNat 32 (x.toBitVec.toNat % 32) := rfl
  rw [e, e2]
  simp only [BitVec.toNat_and, BitVec.toNat_ofNat]
  have : (31 : Nat) % 2 ^ 32 = 2 ^ 5 - 1 := by decide
  rw [this, Nat.and_two_pow_sub_one_eq_mod]
  omega
theorem pm_LI_0 : pm_LI pm_S0 (fun _ => pm_S0) (fun j => j) 0 (fun _ => pm_S0) (fun _ => 0) pm_U0 (fun _ => 0) (fun _ => 0) (fun _ => pm_S0) (fun _ => pm_S0) := by
  refine ⟨?_, ⟨fun i hi => hi, fun i j _ _ h => h, (by decide), fun i hi => absurd hi (Nat.not_lt_zero i), fun i _ h => absurd (show (0 : Nat) = 1 from h) (by decide)⟩, fun k hk => absurd hk (Nat.not_lt_zero k), fun j _ h => absurd (show (0 : Nat) = 1 from h) (by decide), fun i hi => absurd hi (Nat.not_lt_zero i), fun j _ h => absurd (show (0 : Nat) = 1 from h) (by decide), fun j _ => Or.inl rfl, ⟨(by decide), fun p hp => absurd hp (Nat.not_lt_zero p)⟩⟩
  refine pm_Inv.of ?_ ?_ ?_ ?_ ?_ ?_ ?_ ?_ ?_ ?_ ?_ <;> decide

def pm_Go (p : Program) (l : Launch) (e : Env) (s : State) (m : MethodId) (below : List Frame) (meth : Method) (c : Code) (D : va_G) (y : Nat → ClassId) (b : Nat) (Ly : Nat → Nat → Nat) (qm : Nat → Nat) (i pc : Nat) : Prop := ∀ (S : Nat → Nat → Nat) (Bs : Nat → Nat → Nat → Nat) (pi : Nat → Nat) (kn : Nat) (Gs : Nat → Nat → Nat → Nat) (sv : Nat → Nat) (U : pm_PT) (gp gs : Nat → Int32) (Hs Sl : Nat → Nat → Nat → Nat) (H : Heap) (locs : List Loc) (ls : Array Slot), pm_LI S Bs pi kn Gs sv U gp gs Hs Sl → va_P D vwCl (pm_lw y Ly qm S Bs pi kn Gs sv U gp gs) H → va_D (fun q : Nat => s.heap.size ≤ q) (pm_lw y Ly qm S Bs pi kn Gs sv U gp gs) → va_S (fun q : Nat => s.heap.size ≤ q) s.heap H locs → lv_has ls 4 [(0, .ref b), (1, .ref (Ly 0 0)), (2, .ref (qm 0)), (3, .int (nI i))] → W p l e room_1 s m #[Value.ref b] below meth c H locs 143 3893 (lw_Z below #[Value.ref b] s) (F0 m pc ls [])