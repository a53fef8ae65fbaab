/-! ===== an order of the pad is obeyed ===== -/
theorem pm_o_t {S : Nat → Nat → Nat} {P : Nat → Nat} {ln p : Nat} {o ed ot nm sz : Int32} (h : pm_FS P ln p o ed ot nm sz) (hc : P p = 116) : pm_ord S P ln p = pm_aMark S ed nm (nI 1) := by
  obtain ⟨-, h1, -, -, -⟩ := h
  obtain ⟨e1, e2⟩ := h1 (Or.inl hc)
  rw [e1, e2]
  unfold pm_ord pm_mi
  rw [if_neg (by omega), if_neg (by omega), if_neg (by omega), if_neg (by omega), if_pos hc]
theorem pm_o_x {S : Nat → Nat → Nat} {P : Nat → Nat} {ln p : Nat} {o ed ot nm sz : Int32} (h : pm_FS P ln p o ed ot nm sz) (hc : P p = 120) : pm_ord S P ln p = pm_aMark S ed nm (nI 2) := by
  obtain ⟨-, h1, -, -, -⟩ := h
  obtain ⟨e1, e2⟩ := h1 (Or.inr (Or.inl hc))
  rw [e1, e2]
  unfold pm_ord pm_mi
  rw [if_neg (by omega), if_neg (by omega), if_neg (by omega), if_neg (by omega), if_neg (by omega), if_pos hc]
theorem pm_o_o {S : Nat → Nat → Nat} {P : Nat → Nat} {ln p : Nat} {o ed ot nm sz : Int32} (h : pm_FS P ln p o ed ot nm sz) (hc : P p = 111) : pm_ord S P ln p = pm_aMark S ed nm (nI 0) := by
  obtain ⟨-, h1, -, -, -⟩ := h
  obtain ⟨e1, e2⟩ := h1 (Or.inr (Or.inr hc))
  rw [e1, e2]
  unfold pm_ord pm_mi
  rw [if_neg (by omega), if_neg (by omega), if_neg (by omega), if_neg (by omega), if_neg (by omega), if_neg (by omega)]
theorem pm_o_a {S : Nat → Nat → Nat} {P : Nat → Nat} {ln p : Nat} {o ed ot nm sz : Int32} (h : pm_FS P ln p o ed ot nm sz) (hc : P p = 97) : pm_ord S P ln p = pm_aArgue S ed ot nm := by
  obtain ⟨-, -, h1, -, -⟩ := h
  obtain ⟨e1, e2, e3⟩ := h1 hc
  rw [e1, e2, e3]
  unfold pm_ord
  rw [if_pos hc]
theorem pm_o_p {S : Nat → Nat → Nat} {P : Nat → Nat} {ln p : Nat} {o ed ot nm sz : Int32} (h : pm_FS P ln p o ed ot nm sz) (hc : P p = 112) : pm_ord S P ln p = pm_aPrint S nm sz := by
  obtain ⟨-, -, -, h1, -⟩ := h
  obtain ⟨e1, e2⟩ := h1 hc
  rw [e1, e2]
  unfold pm_ord
  rw [if_neg (by omega), if_neg (by omega), if_pos hc]
theorem pm_o_b {S : Nat → Nat → Nat} {P : Nat → Nat} {ln p : Nat} {o ed ot nm sz : Int32} (h : pm_FS P ln p o ed ot nm sz) (hc : P p = 98) : pm_ord S P ln p = pm_aBuy S nm := by
  obtain ⟨-, -, -, -, h1⟩ := h
  rw [h1 hc]
  unfold pm_ord
  rw [if_neg (by omega), if_neg (by omega), if_neg (by omega), if_pos hc]
theorem pm_o_r {S : Nat → Nat → Nat} {P : Nat → Nat} {ln p : Nat} (hc : P p = 114) : pm_ord S P ln p = pm_aRound S := by
  unfold pm_ord
  rw [if_neg (by omega), if_pos hc]
theorem pm_nneg {n : Nat} (h : n < 2 ^ 31) {z : Prop} (h2 : nI n < 0) : z := absurd h2 (nI_pos h)
theorem pm_rct_30 (S : Nat → Nat → Nat) : ∀ n, pm_rct S n ≤ n
  | 0 => Nat.le_refl 0
  | n + 1 => by
    have := pm_rct_30 S n
    rw [pm_rct]
    split <;> omega
theorem pm_mark_o (S : Nat → Nat → Nat) (a b d : Int32) : (pm_aMark S a b d).2 = S ∨ 0 ≤ (pm_aMark S a b d).1 := by
  unfold pm_aMark
  repeat' split
  all_goals first | exact Or.inl rfl | exact Or.inr (nI_pos' (Nat.lt_trans (pm_lt4 _ _) (by decide)))
theorem pm_argue_o (S : Nat → Nat → Nat) (a b d : Int32) : (pm_aArgue S a b d).2 = S ∨ 0 ≤ (pm_aArgue S a b d).1 := by
  unfold pm_aArgue
  repeat' split
  all_goals first | exact Or.inl rfl | exact Or.inr (show (0 : Int32) ≤ 0 by decide) | exact Or.inr (show (0 : Int32) ≤ 1 by decide)
theorem pm_round_o (S : Nat → Nat → Nat) : (pm_aRound S).2 = S ∨ 0 ≤ (pm_aRound S).1 := by
  have := pm_rct_30 S 30
  unfold pm_aRound
  split
  · exact Or.inl rfl
  · exact Or.inr (nI_pos' (by omega))
theorem pm_print_o {S : Nat → Nat → Nat} (hI : pm_Inv S) (a b : Int32) : (pm_aPrint S a b).2 = S ∨ 0 ≤ (pm_aPrint S a b).1 := by
  have := hI.pap
  unfold pm_aPrint
  repeat' split
  all_goals first | exact Or.inl rfl | exact Or.inr (nI_pos' (Nat.lt_of_le_of_lt (Nat.sub_le _ _) (by omega)))
theorem pm_buy_o {S : Nat → Nat → Nat} (hI : pm_Inv S) (a : Int32) : (pm_aBuy S a).2 = S ∨ 0 ≤ (pm_aBuy S a).1 := by
  have := hI.pap
  unfold pm_aBuy
  repeat' split
  all_goals first | exact Or.inl rfl | exact Or.inr (nI_pos' (by omega))
theorem pm_mark_neg {S : Nat → Nat → Nat} {a b d : Int32} (h : (pm_aMark S a b d).1 < 0) : (pm_aMark S a b d).2 = S := (pm_mark_o S a b d).resolve_right (Int32.not_le.mpr h)
theorem pm_argue_neg {S : Nat → Nat → Nat} {a b d : Int32} (h : (pm_aArgue S a b d).1 < 0) : (pm_aArgue S a b d).2 = S := (pm_argue_o S a b d).resolve_right (Int32.not_le.mpr h)
theorem pm_round_neg {S : Nat → Nat → Nat} (h : (pm_aRound S).1 < 0) : (pm_aRound S).2 = S := (pm_round_o S).resolve_right (Int32.not_le.mpr h)
theorem pm_print_neg {S : Nat → Nat → Nat} (hI : pm_Inv S) {a b : Int32} (h : (pm_aPrint S a b).1 < 0) : (pm_aPrint S a b).2 = S := (pm_print_o hI a b).resolve_right (Int32.not_le.mpr h)
theorem pm_buy_neg {S : Nat → Nat → Nat} (hI : pm_Inv S) {a : Int32} (h : (pm_aBuy S a).1 < 0) : (pm_aBuy S a).2 = S := (pm_buy_o hI a).resolve_right (Int32.not_le.mpr h)
theorem pm_ord_neg {S : Nat → Nat → Nat} (hI : pm_Inv S) {P : Nat → Nat} {ln p : Nat} (h : (pm_ord S P ln p).1 < 0) : (pm_ord S P ln p).2 = S := by
  unfold pm_ord at h ⊢
  by_cases c1 : P p = 97
  · rw [if_pos c1] at h ⊢
    exact pm_argue_neg h
  · rw [if_neg c1] at h ⊢
    by_cases c2 : P p = 114
    · rw [if_pos c2] at h ⊢
      exact pm_round_neg h
    · rw [if_neg c2] at h ⊢
      by_cases c3 : P p = 112
      · rw [if_pos c3] at h ⊢
        exact pm_print_neg hI h
      · rw [if_neg c3] at h ⊢
        by_cases c4 : P p = 98
        · rw [if_pos c4] at h ⊢
          exact pm_buy_neg hI h
        · rw [if_neg c4] at h ⊢
          exact pm_mark_neg h
/-- the next order of a text without a fault -/
theorem pm_nx {P : Nat → Nat} {ln p n : Nat} {u : Nat × Int32 × Int32 × Int32 × Int32 × Int32} {r : Int32} (h0 : p = 0 ∨ (2 ≤ p ∧ (p = ln + 1 ∨ (p ≤ ln ∧ P (p - 1) = 59)))) (hn : p ≤ ln → pm_flt P ln (n + 1) p = none) (h : (¬ p - 1 = 0 ∧ ¬ (p - 1 < ln ∧ P (p - 1) = 59) ∧ u.1 = p - 1 ∧ r = nI 0) ∨ ((p - 1 = 0 ∨ (p - 1 < ln ∧ P (p - 1) = 59)) ∧ ((pm_oe P ln (pm_np (p - 1)) = .inl u.1 ∧ pm_FS P ln (pm_np (p - 1)) u.2.1 u.2.2.1 u.2.2.2.1 u.2.2.2.2.1 u.2.2.2.2.2 ∧ r = nI 1) ∨ (pm_oe P ln (pm_np (p - 1)) = .inr u.1 ∧ r = nI 0)))) : (r = nI 0 ∧ ¬ p < ln) ∨ (r = nI 1 ∧ pm_oe P ln p = .inl u.1 ∧ pm_FS P ln p u.2.1 u.2.2.1 u.2.2.2.1 u.2.2.2.2.1 u.2.2.2.2.2) := by
  have np : pm_np (p - 1) = p := by
    unfold pm_np
    split <;> omega
  rw [np] at h
  have ok : p ≤ ln → ∃ e, pm_oe P ln p = .inl e := fun z => by
    obtain ⟨e, he, -⟩ := pm_flt_ok (hn z)
    exact ⟨e, he⟩
  rcases h with ⟨h1, h2, -, h4⟩ | ⟨h1, ⟨h2, h3, h4⟩ | ⟨h2, -⟩⟩
  · refine Or.inl ⟨h4, ?_⟩
    rcases h0 with z | ⟨z, z2 | ⟨z2, z3⟩⟩
    · exact absurd (by omega) h1
    · omega
    · exact absurd ⟨by omega, z3⟩ h2
  · exact Or.inr ⟨h4, h2, h3⟩
  · exfalso
    have q : p ≤ ln := by
      rcases h0 with z | ⟨z, z2 | ⟨z2, z3⟩⟩
      · omega
      · rcases h1 with w | w
        · omega
        · have := w.1
          omega
      · exact z2
    obtain ⟨e, he⟩ := ok q
    rw [he] at h2
    cases h2
theorem pm_nx_e {P : Nat → Nat} {ln n p e : Nat} (h : pm_oe P ln p = .inl e) (hf : pm_flt P ln (n + 1) p = none) : (e + 1 ≤ ln → pm_flt P ln n (e + 1) = none) ∧ (e + 1 = ln + 1 ∨ (e + 1 ≤ ln ∧ P (e + 1 - 1) = 59)) := by
  obtain ⟨e2, he, hx⟩ := pm_flt_ok hf
  rw [h] at he
  cases he
  rw [Nat.add_sub_cancel]
  rcases hx with w | ⟨w1, w2, w3⟩
  · exact ⟨fun z => by omega, Or.inl (by omega)⟩
  · exact ⟨fun _ => w3, Or.inr ⟨by omega, w2⟩⟩
/-! ===== the cells in another order ===== -/
theorem pm_permP {D : va_G} {cl : List vw_C} {w w' : va_W} {H : Heap} (e : w.Perm w') (h : va_P D cl w H) : va_P D cl w' H := pm_P_mem h (fun z hz => e.symm.subset hz)
theorem pm_permD {A : Nat → Prop} {w w' : va_W} (e : w.Perm w') (h : va_D A w) : va_D A w' := by
  obtain ⟨h1, h2⟩ := pm_D_nd.mp h
  exact pm_D_nd.mpr ⟨(e.map Prod.fst).nodup_iff.mp h1, fun z hz => h2 z (e.symm.subset hz)⟩
theorem pm_pm0 {α : Type} (o h t p a g0 g1 : List α) : (o ++ (h ++ (t ++ (p ++ (a ++ (([] ++ g0) ++ g1)))))).Perm ((o ++ (h ++ (p ++ (a ++ g1)))) ++ ((g0 ++ t) ++ [])) := by
  simp only [List.append_assoc, List.nil_append, List.append_nil]
  refine List.Perm.append_left o (List.Perm.append_left h ?_)
  refine List.perm_append_comm.trans ?_
  simp only [List.append_assoc]
  refine List.Perm.append_left p (List.Perm.append_left a ?_)
  rw [← List.append_assoc, ← List.append_assoc]
  exact List.Perm.append_right t List.perm_append_comm
theorem pm_pm1 {α : Type} (o h t p a g0 g1 : List α) : (o ++ (h ++ (t ++ (p ++ (a ++ (([] ++ g0) ++ g1)))))).Perm ((o ++ (h ++ (p ++ (a ++ g0)))) ++ ((g1 ++ t) ++ [])) := by
  simp only [List.append_assoc, List.nil_append, List.append_nil]
  refine List.Perm.append_left o (List.Perm.append_left h ?_)
  refine List.perm_append_comm.trans ?_
  simp only [List.append_assoc]
  exact List.Perm.refl _
theorem pm_pmg {α : Type} (o h t p g : List α) : (o ++ (h ++ (t ++ (p ++ g)))).Perm (g ++ (o ++ (h ++ (t ++ p)))) := by
  refine List.Perm.trans ?_ List.perm_append_comm
  simp only [List.append_assoc]
  exact List.Perm.refl _
def pm_cR (y : Nat → ClassId) (L : Nat → Nat → Nat) (Bs : Nat → Nat → Nat → Nat) (pi : Nat → Nat) (kn : Nat) (Gs : Nat → Nat → Nat → Nat) (sv : Nat → Nat) (U : pm_PT) (j : Nat) : va_W := pm_cO L ++ (pm_cH y L Bs pi kn ++ (pm_cP y L U ++ ([(L 0 1, .inl (y 3, 2, .inr (.inr (.inr (.inr (fun i => some (pm_gL L i 0))))))), (L 0 2, .inl (y 2, 2, .inl (pm_vn sv)))] ++ pm_shS y (pm_gL L (1 - j)) (Gs (1 - j)))))
section PMCT
variable (y : Nat → ClassId) (L : Nat → Nat → Nat) (S : Nat → Nat → Nat) (Bs : Nat → Nat → Nat → Nat) (pi : Nat → Nat) (kn : Nat) (Gs : Nat → Nat → Nat → Nat) (sv : Nat → Nat) (U : pm_PT)
/-- a slot's sheet and the sheet, behind -/
theorem pm_cl_t {j : Nat} (hj : j < 2) : (pm_cl y L S Bs pi kn Gs sv U).Perm (pm_cR y L Bs pi kn Gs sv U j ++ ((pm_shS y (pm_gL L j) (Gs j) ++ pm_shS y (L 2) S) ++ [])) := by
  rcases (show j = 0 ∨ j = 1 by omega) with rfl | rfl
  · exact pm_pm0 _ _ _ _ _ _ _
  · exact pm_pm1 _ _ _ _ _ _ _
theorem pm_cl_u {j : Nat} (hj : j < 2) : (pm_cl y L S Bs pi kn Gs sv U).Perm (pm_cR y L Bs pi kn Gs sv U j ++ ((pm_shS y (L 2) S ++ pm_shS y (pm_gL L j) (Gs j)) ++ [])) := (pm_cl_t y L S Bs pi kn Gs sv U hj).trans (List.Perm.append_left _ (List.Perm.append_right _ List.perm_append_comm))
theorem pm_cl_v {j : Nat} (hj : j < 2) (T : Nat → Nat → Nat) : (pm_cR y L Bs pi kn Gs sv U j ++ ((pm_shS y (pm_gL L j) T ++ pm_shS y (L 2) S) ++ [])).Perm (pm_cl y L S Bs pi kn (pm_ub Gs j T) sv U) := by
  have h := (pm_cl_t y L S Bs pi kn (pm_ub Gs j T) sv U hj).symm
  have e1 : pm_ub Gs j T j = T := if_pos rfl
  have e2 : pm_cR y L Bs pi kn (pm_ub Gs j T) sv U j = pm_cR y L Bs pi kn Gs sv U j := by
    unfold pm_cR
    rw [show pm_ub Gs j T (1 - j) = Gs (1 - j) from if_neg (by omega)]
  rw [e1, e2] at h
  exact h
theorem pm_cl_g : (pm_cl y L S Bs pi kn Gs sv U).Perm (pm_cG y L Gs sv ++ (pm_cO L ++ (pm_cH y L Bs pi kn ++ (pm_shS y (L 2) S ++ pm_cP y L U)))) := pm_pmg _ _ _ _ _
end PMCT

set_option maxHeartbeats 4000000 in
set_option maxRecDepth 100000 in
theorem k_X3_obey (l : Launch) (D : va_G) (y : Nat → ClassId) (L : Nat → Nat → Nat) (S : Nat → Nat → Nat) (Bs : Nat → Nat → Nat → Nat) (pi : Nat → Nat) (kn : Nat) (Gs : Nat → Nat → Nat → Nat) (sv : Nat → Nat) (U : pm_PT) (Hs Sl : Nat → Nat → Nat → Nat) (p9 : Nat) (hI : pm_Inv S) (hF : pm_FS U.1 U.2.1 p9 U.2.2.2.1 U.2.2.2.2.1 U.2.2.2.2.2.1 U.2.2.2.2.2.2.1 U.2.2.2.2.2.2.2) (hkk : U.1 p9 = 116 ∨ U.1 p9 = 120 ∨ U.1 p9 = 111 ∨ U.1 p9 = 97 ∨ U.1 p9 = 114 ∨ U.1 p9 = 112 ∨ U.1 p9 = 98) : Met l yX3_obey wsX3_obey ({ frames := 5, cells := 0, slots := 0, locals := 108 } : Room) (pm_wrn D (pm_ty y) [.ref (L 0 0)] (pm_cl y L S Bs pi kn Gs sv U)) (pm_Qi D (fun (r : Int32) (_ : Unit) => r = (pm_ord S U.1 U.2.1 p9).1) (fun (_ : Unit) => pm_cl y L (pm_ord S U.1 U.2.1 p9).2 Bs pi kn Gs sv U) (pm_cl y L S Bs pi kn Gs sv U)) 0 0 (pm_ad (pm_cl y L S Bs pi kn Gs sv U)) := by
  refine Met.ofW (cc := cX3_obey) (maxL := 1) (ret := (some .int)) (by decide) rfl ?_
  intro p e s m args below meth c s₁ B hml hpre
  obtain ⟨rfl, ⟨hP, hK, hD0⟩, hN⟩ := hpre
  have hx := B.exec
  have hb := B.bytes
  have hr := B.returns
  have hts := atoms_spec (ws := wsX3_obey) B.pre
  have hown : s.vm.findClass RX3 = some m.cls := findClass_of_methodNamed B.named
  have hlocks := B.notSynchronized
  have hin3 : ∀ w ∈ u_ws RX3 TX3 5, w ∈ wsX3_obey := fun w h => List.mem_cons_of_mem _ (List.mem_append_left _ (List.mem_append_left _ (List.mem_append_right _ h)))
  have hin1 : ∀ w ∈ u_ws RX1 TX1 8, w ∈ wsX3_obey := fun w h => List.mem_cons_of_mem _ (List.mem_append_left _ (List.mem_append_right _ h))
  have hin2 : ∀ w ∈ u_ws RX2 TX2 15, w ∈ wsX3_obey := fun w h => List.mem_cons_of_mem _ (List.mem_append_right _ h)
  have hD := pm_ad_self hD0
  have hS : va_S (pm_ad (pm_cl y L S Bs pi kn Gs sv U)) s.heap s.heap [] := va_S.rf
  have hP : va_P D vwCl (pm_cl y L S Bs pi kn Gs sv U) s.heap := hP
  have hl := lv_entry ([.ref (L 0 0)]) (n := 1) (Nat.le_of_ble_eq_true rfl)
  rw [lg_entry_eq]
  generalize (lg_sl ([.ref (L 0 0)]) ++ List.replicate (1 - (lg_sl ([.ref (L 0 0)])).length) Slot.unset).toArray = ls at hl ⊢
  have hl : lv_has ls 1 [(0, .ref (L 0 0))] := hl
  refine lv_aload_n hx hb dX3_obey_0 rfl (lv_at hl 0 rfl) ?_
  refine va_get (D := D) (ci := 3) (v := .ref (L 3 0)) (C := RX3) (T := TX3) (N := 5) hx hb hts hin3 hown hK hP 0 rfl rfl 2 (by decide) (hts (.fieldLink RX3 26 "ProofMarks" "pad" "LProofMarks$Pad;") (List.mem_of_getElem? (i := 1) rfl)) (fun _ h9 => h9) rfl dX3_obey_1 ?_
  have hPc := pm_cutP (pm_eqP (pm_cl_p y L S Bs pi kn Gs sv U) hP)
  refine va_getN (host := "ProofMarks") (D := D) (ci := 1) (v := .int U.2.2.2.1) (C := RX1) (T := TX1) (N := 8) hx hb hts hin1 hown hK hPc 0 rfl rfl 3 (by decide) (hN.use 3 rfl) (fun _ h9 => h9) rfl dX3_obey_4 ?_
  rcases hkk with hc | hc | hc | hc | hc | hc | hc
  · have hO := pm_o_t (S := S) hF hc
    refine lv_topi (fun x9 e9 => ?_)
    obtain rfl : x9 = nI 116 := e9.trans (hF.1.trans (congrArg nI hc))
    refine lv_lookup (off := 57) (tgt := 64) hx hb dX3_obey_7 (by decide) (by decide) (by decide) ?_
    refine lv_aload_n hx hb dX3_obey_64 rfl (lv_at hl 0 rfl) ?_
    refine va_get (D := D) (ci := 3) (v := .ref (L 2 0)) (C := RX3) (T := TX3) (N := 5) hx hb hts hin3 hown hK hP 0 rfl rfl 0 (by decide) (hts (.fieldLink RX3 10 "ProofMarks" "sheet" "LProofMarks$Sheet;") (List.mem_of_getElem? (i := 2) rfl)) (fun _ h9 => h9) rfl dX3_obey_65 ?_
    refine lv_aload_n hx hb dX3_obey_68 rfl (lv_at hl 0 rfl) ?_
    refine va_get (D := D) (ci := 3) (v := .ref (L 3 0)) (C := RX3) (T := TX3) (N := 5) hx hb hts hin3 hown hK hP 0 rfl rfl 2 (by decide) (hts (.fieldLink RX3 26 "ProofMarks" "pad" "LProofMarks$Pad;") (List.mem_of_getElem? (i := 1) rfl)) (fun _ h9 => h9) rfl dX3_obey_69 ?_
    have hPc := pm_cutP (pm_eqP (pm_cl_p y L S Bs pi kn Gs sv U) hP)
    refine va_getN (host := "ProofMarks") (D := D) (ci := 1) (v := .int U.2.2.2.2.1) (C := RX1) (T := TX1) (N := 8) hx hb hts hin1 hown hK hPc 0 rfl rfl 4 (by decide) (hN.use 4 rfl) (fun _ h9 => h9) rfl dX3_obey_72 ?_
    refine lv_aload_n hx hb dX3_obey_75 rfl (lv_at hl 0 rfl) ?_
    refine va_get (D := D) (ci := 3) (v := .ref (L 3 0)) (C := RX3) (T := TX3) (N := 5) hx hb hts hin3 hown hK hP 0 rfl rfl 2 (by decide) (hts (.fieldLink RX3 26 "ProofMarks" "pad" "LProofMarks$Pad;") (List.mem_of_getElem? (i := 1) rfl)) (fun _ h9 => h9) rfl dX3_obey_76 ?_
    have hPc := pm_cutP (pm_eqP (pm_cl_p y L S Bs pi kn Gs sv U) hP)
    refine va_getN (host := "ProofMarks") (D := D) (ci := 1) (v := .int U.2.2.2.2.2.2.1) (C := RX1) (T := TX1) (N := 8) hx hb hts hin1 hown hK hPc 0 rfl rfl 6 (by decide) (hN.use 6 rfl) (fun _ h9 => h9) rfl dX3_obey_79 ?_
    refine lv_iconst (v := nI 1) hx hb dX3_obey_82 (by decide) ?_
    have hP := pm_eqP (pm_cl_s y L S Bs pi kn Gs sv U) hP
    have hD := pm_eqD (pm_cl_s y L S Bs pi kn Gs sv U) hD
    have hPc := pm_cutP hP
    have hDc := pm_cutD hD
    refine va_calli (va_runV (As := [.int U.2.2.2.2.1, .int U.2.2.2.2.2.2.1, .int (nI 1)]) (rest := []) ⟨hx, hb, hml, hown, hts⟩ (k_X2_putMark l D y (L 2) S U.2.2.2.2.1 U.2.2.2.2.2.2.1 (nI 1) hI) (cwV 3 hts gX3_obey_X2_putMark rfl rfl rfl hd_X2_putMark ⟨Nat.le_of_ble_eq_true rfl, Nat.le_of_ble_eq_true rfl⟩) ⟨pm_wr_blind, va_recv hK hPc (ci := 2) (q0 := 0) rfl rfl, pm_wr_pre hPc hK hDc⟩ rfl rfl hl.1 rfl (lv_room (Nat.le_of_ble_eq_true rfl)) dX3_obey_83 ⟨Nat.le_of_ble_eq_true rfl, Nat.le_of_ble_eq_true rfl⟩) hS (fun q _ h9 => pm_ad_all hDc q h9) (pm_ad_all hDc) (fun r9 u9 t9 H1 locs ht9 _ h9 hB9 _ hk9 hS => ?_)
    obtain ⟨hP, hD⟩ := pm_mid (w' := pm_shS y (L 2) (pm_aMark S U.2.2.2.2.1 U.2.2.2.2.2.2.1 (nI 1)).2) hP hD hk9 (by rw [← ht9]; exact hB9) (rfl)
    have hP : va_P D vwCl (pm_cl y L ((pm_aMark S U.2.2.2.2.1 U.2.2.2.2.2.2.1 (nI 1)).2) Bs pi kn Gs sv U) H1 := pm_eqP (pm_cl_s y L ((pm_aMark S U.2.2.2.2.1 U.2.2.2.2.2.2.1 (nI 1)).2) Bs pi kn Gs sv U).symm hP
    have hD : va_D (pm_ad (pm_cl y L S Bs pi kn Gs sv U)) (pm_cl y L ((pm_aMark S U.2.2.2.2.1 U.2.2.2.2.2.2.1 (nI 1)).2) Bs pi kn Gs sv U) := pm_eqD (pm_cl_s y L ((pm_aMark S U.2.2.2.2.1 U.2.2.2.2.2.2.1 (nI 1)).2) Bs pi kn Gs sv U).symm hD
    obtain rfl : r9 = (pm_aMark S U.2.2.2.2.1 U.2.2.2.2.2.2.1 (nI 1)).1 := h9
    exact W.iret hx hb hr (fun t ht _ => ⟨⟨_, (), rfl, (by rw [hO]), (by show va_P D vwCl (pm_cl y L (pm_ord S U.1 U.2.1 p9).2 Bs pi kn Gs sv U) t.heap; rw [ht]; exact (by rw [hO]; exact hP))⟩, hS.F ht⟩) hS.2.2 dX3_obey_86
  · have hO := pm_o_x (S := S) hF hc
    refine lv_topi (fun x9 e9 => ?_)
    obtain rfl : x9 = nI 120 := e9.trans (hF.1.trans (congrArg nI hc))
    refine lv_lookup (off := 80) (tgt := 87) hx hb dX3_obey_7 (by decide) (by decide) (by decide) ?_
    refine lv_aload_n hx hb dX3_obey_87 rfl (lv_at hl 0 rfl) ?_
    refine va_get (D := D) (ci := 3) (v := .ref (L 2 0)) (C := RX3) (T := TX3) (N := 5) hx hb hts hin3 hown hK hP 0 rfl rfl 0 (by decide) (hts (.fieldLink RX3 10 "ProofMarks" "sheet" "LProofMarks$Sheet;") (List.mem_of_getElem? (i := 2) rfl)) (fun _ h9 => h9) rfl dX3_obey_88 ?_
    refine lv_aload_n hx hb dX3_obey_91 rfl (lv_at hl 0 rfl) ?_
    refine va_get (D := D) (ci := 3) (v := .ref (L 3 0)) (C := RX3) (T := TX3) (N := 5) hx hb hts hin3 hown hK hP 0 rfl rfl 2 (by decide) (hts (.fieldLink RX3 26 "ProofMarks" "pad" "LProofMarks$Pad;") (List.mem_of_getElem? (i := 1) rfl)) (fun _ h9 => h9) rfl dX3_obey_92 ?_
    have hPc := pm_cutP (pm_eqP (pm_cl_p y L S Bs pi kn Gs sv U) hP)
    refine va_getN (host := "ProofMarks") (D := D) (ci := 1) (v := .int U.2.2.2.2.1) (C := RX1) (T := TX1) (N := 8) hx hb hts hin1 hown hK hPc 0 rfl rfl 4 (by decide) (hN.use 4 rfl) (fun _ h9 => h9) rfl dX3_obey_95 ?_
    refine lv_aload_n hx hb dX3_obey_98 rfl (lv_at hl 0 rfl) ?_
    refine va_get (D := D) (ci := 3) (v := .ref (L 3 0)) (C := RX3) (T := TX3) (N := 5) hx hb hts hin3 hown hK hP 0 rfl rfl 2 (by decide) (hts (.fieldLink RX3 26 "ProofMarks" "pad" "LProofMarks$Pad;") (List.mem_of_getElem? (i := 1) rfl)) (fun _ h9 => h9) rfl dX3_obey_99 ?_
    have hPc := pm_cutP (pm_eqP (pm_cl_p y L S Bs pi kn Gs sv U) hP)
    refine va_getN (host := "ProofMarks") (D := D) (ci := 1) (v := .int U.2.2.2.2.2.2.1) (C := RX1) (T := TX1) (N := 8) hx hb hts hin1 hown hK hPc 0 rfl rfl 6 (by decide) (hN.use 6 rfl) (fun _ h9 => h9) rfl dX3_obey_102 ?_
    refine lv_iconst (v := nI 2) hx hb dX3_obey_105 (by decide) ?_
    have hP := pm_eqP (pm_cl_s y L S Bs pi kn Gs sv U) hP
    have hD := pm_eqD (pm_cl_s y L S Bs pi kn Gs sv U) hD
    have hPc := pm_cutP hP
    have hDc := pm_cutD hD
    refine va_calli (va_runV (As := [.int U.2.2.2.2.1, .int U.2.2.2.2.2.2.1, .int (nI 2)]) (rest := []) ⟨hx, hb, hml, hown, hts⟩ (k_X2_putMark l D y (L 2) S U.2.2.2.2.1 U.2.2.2.2.2.2.1 (nI 2) hI) (cwV 3 hts gX3_obey_X2_putMark rfl rfl rfl hd_X2_putMark ⟨Nat.le_of_ble_eq_true rfl, Nat.le_of_ble_eq_true rfl⟩) ⟨pm_wr_blind, va_recv hK hPc (ci := 2) (q0 := 0) rfl rfl, pm_wr_pre hPc hK hDc⟩ rfl rfl hl.1 rfl (lv_room (Nat.le_of_ble_eq_true rfl)) dX3_obey_106 ⟨Nat.le_of_ble_eq_true rfl, Nat.le_of_ble_eq_true rfl⟩) hS (fun q _ h9 => pm_ad_all hDc q h9) (pm_ad_all hDc) (fun r9 u9 t9 H1 locs ht9 _ h9 hB9 _ hk9 hS => ?_)
    obtain ⟨hP, hD⟩ := pm_mid (w' := pm_shS y (L 2) (pm_aMark S U.2.2.2.2.1 U.2.2.2.2.2.2.1 (nI 2)).2) hP hD hk9 (by rw [← ht9]; exact hB9) (rfl)
    have hP : va_P D vwCl (pm_cl y L ((pm_aMark S U.2.2.2.2.1 U.2.2.2.2.2.2.1 (nI 2)).2) Bs pi kn Gs sv U) H1 := pm_eqP (pm_cl_s y L ((pm_aMark S U.2.2.2.2.1 U.2.2.2.2.2.2.1 (nI 2)).2) Bs pi kn Gs sv U).symm hP
    have hD : va_D (pm_ad (pm_cl y L S Bs pi kn Gs sv U)) (pm_cl y L ((pm_aMark S U.2.2.2.2.1 U.2.2.2.2.2.2.1 (nI 2)).2) Bs pi kn Gs sv U) := pm_eqD (pm_cl_s y L ((pm_aMark S U.2.2.2.2.1 U.2.2.2.2.2.2.1 (nI 2)).2) Bs pi kn Gs sv U).symm hD
    obtain rfl : r9 = (pm_aMark S U.2.2.2.2.1 U.2.2.2.2.2.2.1 (nI 2)).1 := h9
    exact W.iret hx hb hr (fun t ht _ => ⟨⟨_, (), rfl, (by rw [hO]), (by show va_P D vwCl (pm_cl y L (pm_ord S U.1 U.2.1 p9).2 Bs pi kn Gs sv U) t.heap; rw [ht]; exact (by rw [hO]; exact hP))⟩, hS.F ht⟩) hS.2.2 dX3_obey_109
  · have hO := pm_o_o (S := S) hF hc
    refine lv_topi (fun x9 e9 => ?_)
    obtain rfl : x9 = nI 111 := e9.trans (hF.1.trans (congrArg nI hc))
    refine lv_lookup (off := 103) (tgt := 110) hx hb dX3_obey_7 (by decide) (by decide) (by decide) ?_
    refine lv_aload_n hx hb dX3_obey_110 rfl (lv_at hl 0 rfl) ?_
    refine va_get (D := D) (ci := 3) (v := .ref (L 2 0)) (C := RX3) (T := TX3) (N := 5) hx hb hts hin3 hown hK hP 0 rfl rfl 0 (by decide) (hts (.fieldLink RX3 10 "ProofMarks" "sheet" "LProofMarks$Sheet;") (List.mem_of_getElem? (i := 2) rfl)) (fun _ h9 => h9) rfl dX3_obey_111 ?_
    refine lv_aload_n hx hb dX3_obey_114 rfl (lv_at hl 0 rfl) ?_
    refine va_get (D := D) (ci := 3) (v := .ref (L 3 0)) (C := RX3) (T := TX3) (N := 5) hx hb hts hin3 hown hK hP 0 rfl rfl 2 (by decide) (hts (.fieldLink RX3 26 "ProofMarks" "pad" "LProofMarks$Pad;") (List.mem_of_getElem? (i := 1) rfl)) (fun _ h9 => h9) rfl dX3_obey_115 ?_
    have hPc := pm_cutP (pm_eqP (pm_cl_p y L S Bs pi kn Gs sv U) hP)
    refine va_getN (host := "ProofMarks") (D := D) (ci := 1) (v := .int U.2.2.2.2.1) (C := RX1) (T := TX1) (N := 8) hx hb hts hin1 hown hK hPc 0 rfl rfl 4 (by decide) (hN.use 4 rfl) (fun _ h9 => h9) rfl dX3_obey_118 ?_
    refine lv_aload_n hx hb dX3_obey_121 rfl (lv_at hl 0 rfl) ?_
    refine va_get (D := D) (ci := 3) (v := .ref (L 3 0)) (C := RX3) (T := TX3) (N := 5) hx hb hts hin3 hown hK hP 0 rfl rfl 2 (by decide) (hts (.fieldLink RX3 26 "ProofMarks" "pad" "LProofMarks$Pad;") (List.mem_of_getElem? (i := 1) rfl)) (fun _ h9 => h9) rfl dX3_obey_122 ?_
    have hPc := pm_cutP (pm_eqP (pm_cl_p y L S Bs pi kn Gs sv U) hP)
    refine va_getN (host := "ProofMarks") (D := D) (ci := 1) (v := .int U.2.2.2.2.2.2.1) (C := RX1) (T := TX1) (N := 8) hx hb hts hin1 hown hK hPc 0 rfl rfl 6 (by decide) (hN.use 6 rfl) (fun _ h9 => h9) rfl dX3_obey_125 ?_
    refine lv_iconst (v := nI 0) hx hb dX3_obey_128 (by decide) ?_
    have hP := pm_eqP (pm_cl_s y L S Bs pi kn Gs sv U) hP
    have hD := pm_eqD (pm_cl_s y L S Bs pi kn Gs sv U) hD
    have hPc := pm_cutP hP
    have hDc := pm_cutD hD
    refine va_calli (va_runV (As := [.int U.2.2.2.2.1, .int U.2.2.2.2.2.2.1, .int (nI 0)]) (rest := []) ⟨hx, hb, hml, hown, hts⟩ (k_X2_putMark l D y (L 2) S U.2.2.2.2.1 U.2.2.2.2.2.2.1 (nI 0) hI) (cwV 3 hts gX3_obey_X2_putMark rfl rfl rfl hd_X2_putMark ⟨Nat.le_of_ble_eq_true rfl, Nat.le_of_ble_eq_true rfl⟩) ⟨pm_wr_blind, va_recv hK hPc (ci := 2) (q0 := 0) rfl rfl, pm_wr_pre hPc hK hDc⟩ rfl rfl hl.1 rfl (lv_room (Nat.le_of_ble_eq_true rfl)) dX3_obey_129 ⟨Nat.le_of_ble_eq_true rfl, Nat.le_of_ble_eq_true rfl⟩) hS (fun q _ h9 => pm_ad_all hDc q h9) (pm_ad_all hDc) (fun r9 u9 t9 H1 locs ht9 _ h9 hB9 _ hk9 hS => ?_)
    obtain ⟨hP, hD⟩ := pm_mid (w' := pm_shS y (L 2) (pm_aMark S U.2.2.2.2.1 U.2.2.2.2.2.2.1 (nI 0)).2) hP hD hk9 (by rw [← ht9]; exact hB9) (rfl)
    have hP : va_P D vwCl (pm_cl y L ((pm_aMark S U.2.2.2.2.1 U.2.2.2.2.2.2.1 (nI 0)).2) Bs pi kn Gs sv U) H1 := pm_eqP (pm_cl_s y L ((pm_aMark S U.2.2.2.2.1 U.2.2.2.2.2.2.1 (nI 0)).2) Bs pi kn Gs sv U).symm hP
    have hD : va_D (pm_ad (pm_cl y L S Bs pi kn Gs sv U)) (pm_cl y L ((pm_aMark S U.2.2.2.2.1 U.2.2.2.2.2.2.1 (nI 0)).2) Bs pi kn Gs sv U) := pm_eqD (pm_cl_s y L ((pm_aMark S U.2.2.2.2.1 U.2.2.2.2.2.2.1 (nI 0)).2) Bs pi kn Gs sv U).symm hD
    obtain rfl : r9 = (pm_aMark S U.2.2.2.2.1 U.2.2.2.2.2.2.1 (nI 0)).1 := h9
    exact W.iret hx hb hr (fun t ht _ => ⟨⟨_, (), rfl, (by rw [hO]), (by show va_P D vwCl (pm_cl y L (pm_ord S U.1 U.2.1 p9).2 Bs pi kn Gs sv U) t.heap; rw [ht]; exact (by rw [hO]; exact hP))⟩, hS.F ht⟩) hS.2.2 dX3_obey_132
  · have hO := pm_o_a (S := S) hF hc
    refine lv_topi (fun x9 e9 => ?_)
    obtain rfl : x9 = nI 97 := e9.trans (hF.1.trans (congrArg nI hc))
    refine lv_lookup (off := 126) (tgt := 133) hx hb dX3_obey_7 (by decide) (by decide) (by decide) ?_
    refine lv_aload_n hx hb dX3_obey_133 rfl (lv_at hl 0 rfl) ?_
    refine va_get (D := D) (ci := 3) (v := .ref (L 2 0)) (C := RX3) (T := TX3) (N := 5) hx hb hts hin3 hown hK hP 0 rfl rfl 0 (by decide) (hts (.fieldLink RX3 10 "ProofMarks" "sheet" "LProofMarks$Sheet;") (List.mem_of_getElem? (i := 2) rfl)) (fun _ h9 => h9) rfl dX3_obey_134 ?_
    refine lv_aload_n hx hb dX3_obey_137 rfl (lv_at hl 0 rfl) ?_
    refine va_get (D := D) (ci := 3) (v := .ref (L 3 0)) (C := RX3) (T := TX3) (N := 5) hx hb hts hin3 hown hK hP 0 rfl rfl 2 (by decide) (hts (.fieldLink RX3 26 "ProofMarks" "pad" "LProofMarks$Pad;") (List.mem_of_getElem? (i := 1) rfl)) (fun _ h9 => h9) rfl dX3_obey_138 ?_
    have hPc := pm_cutP (pm_eqP (pm_cl_p y L S Bs pi kn Gs sv U) hP)
    refine va_getN (host := "ProofMarks") (D := D) (ci := 1) (v := .int U.2.2.2.2.1) (C := RX1) (T := TX1) (N := 8) hx hb hts hin1 hown hK hPc 0 rfl rfl 4 (by decide) (hN.use 4 rfl) (fun _ h9 => h9) rfl dX3_obey_141 ?_
    refine lv_aload_n hx hb dX3_obey_144 rfl (lv_at hl 0 rfl) ?_
    refine va_get (D := D) (ci := 3) (v := .ref (L 3 0)) (C := RX3) (T := TX3) (N := 5) hx hb hts hin3 hown hK hP 0 rfl rfl 2 (by decide) (hts (.fieldLink RX3 26 "ProofMarks" "pad" "LProofMarks$Pad;") (List.mem_of_getElem? (i := 1) rfl)) (fun _ h9 => h9) rfl dX3_obey_145 ?_
    have hPc := pm_cutP (pm_eqP (pm_cl_p y L S Bs pi kn Gs sv U) hP)
    refine va_getN (host := "ProofMarks") (D := D) (ci := 1) (v := .int U.2.2.2.2.2.1) (C := RX1) (T := TX1) (N := 8) hx hb hts hin1 hown hK hPc 0 rfl rfl 5 (by decide) (hN.use 5 rfl) (fun _ h9 => h9) rfl dX3_obey_148 ?_
    refine lv_aload_n hx hb dX3_obey_151 rfl (lv_at hl 0 rfl) ?_
    refine va_get (D := D) (ci := 3) (v := .ref (L 3 0)) (C := RX3) (T := TX3) (N := 5) hx hb hts hin3 hown hK hP 0 rfl rfl 2 (by decide) (hts (.fieldLink RX3 26 "ProofMarks" "pad" "LProofMarks$Pad;") (List.mem_of_getElem? (i := 1) rfl)) (fun _ h9 => h9) rfl dX3_obey_152 ?_
    have hPc := pm_cutP (pm_eqP (pm_cl_p y L S Bs pi kn Gs sv U) hP)
    refine va_getN (host := "ProofMarks") (D := D) (ci := 1) (v := .int U.2.2.2.2.2.2.1) (C := RX1) (T := TX1) (N := 8) hx hb hts hin1 hown hK hPc 0 rfl rfl 6 (by decide) (hN.use 6 rfl) (fun _ h9 => h9) rfl dX3_obey_155 ?_
    have hP := pm_eqP (pm_cl_s y L S Bs pi kn Gs sv U) hP
    have hD := pm_eqD (pm_cl_s y L S Bs pi kn Gs sv U) hD
    have hPc := pm_cutP hP
    have hDc := pm_cutD hD
    refine va_calli (va_runV (As := [.int U.2.2.2.2.1, .int U.2.2.2.2.2.1, .int U.2.2.2.2.2.2.1]) (rest := []) ⟨hx, hb, hml, hown, hts⟩ (k_X2_argueAgainst l D y (L 2) S U.2.2.2.2.1 U.2.2.2.2.2.1 U.2.2.2.2.2.2.1 hI) (cwV 3 hts gX3_obey_X2_argueAgainst rfl rfl rfl hd_X2_argueAgainst ⟨Nat.le_of_ble_eq_true rfl, Nat.le_of_ble_eq_true rfl⟩) ⟨pm_wr_blind, va_recv hK hPc (ci := 2) (q0 := 0) rfl rfl, pm_wr_pre hPc hK hDc⟩ rfl rfl hl.1 rfl (lv_room (Nat.le_of_ble_eq_true rfl)) dX3_obey_158 ⟨Nat.le_of_ble_eq_true rfl, Nat.le_of_ble_eq_true rfl⟩) hS (fun q _ h9 => pm_ad_all hDc q h9) (pm_ad_all hDc) (fun r9 u9 t9 H1 locs ht9 _ h9 hB9 _ hk9 hS => ?_)
    obtain ⟨hP, hD⟩ := pm_mid (w' := pm_shS y (L 2) (pm_aArgue S U.2.2.2.2.1 U.2.2.2.2.2.1 U.2.2.2.2.2.2.1).2) hP hD hk9 (by rw [← ht9]; exact hB9) (rfl)
    have hP : va_P D vwCl (pm_cl y L ((pm_aArgue S U.2.2.2.2.1 U.2.2.2.2.2.1 U.2.2.2.2.2.2.1).2) Bs pi kn Gs sv U) H1 := pm_eqP (pm_cl_s y L ((pm_aArgue S U.2.2.2.2.1 U.2.2.2.2.2.1 U.2.2.2.2.2.2.1).2) Bs pi kn Gs sv U).symm hP
    have hD : va_D (pm_ad (pm_cl y L S Bs pi kn Gs sv U)) (pm_cl y L ((pm_aArgue S U.2.2.2.2.1 U.2.2.2.2.2.1 U.2.2.2.2.2.2.1).2) Bs pi kn Gs sv U) := pm_eqD (pm_cl_s y L ((pm_aArgue S U.2.2.2.2.1 U.2.2.2.2.2.1 U.2.2.2.2.2.2.1).2) Bs pi kn Gs sv U).symm hD
    obtain rfl : r9 = (pm_aArgue S U.2.2.2.2.1 U.2.2.2.2.2.1 U.2.2.2.2.2.2.1).1 := h9
    exact W.iret hx hb hr (fun t ht _ => ⟨⟨_, (), rfl, (by rw [hO]), (by show va_P D vwCl (pm_cl y L (pm_ord S U.1 U.2.1 p9).2 Bs pi kn Gs sv U) t.heap; rw [ht]; exact (by rw [hO]; exact hP))⟩, hS.F ht⟩) hS.2.2 dX3_obey_161
  · have hO := pm_o_r (S := S) (ln := U.2.1) hc
    refine lv_topi (fun x9 e9 => ?_)
    obtain rfl : x9 = nI 114 := e9.trans (hF.1.trans (congrArg nI hc))
    refine lv_lookup (off := 192) (tgt := 199) hx hb dX3_obey_7 (by decide) (by decide) (by decide) ?_
    refine lv_aload_n hx hb dX3_obey_199 rfl (lv_at hl 0 rfl) ?_
    refine va_get (D := D) (ci := 3) (v := .ref (L 2 0)) (C := RX3) (T := TX3) (N := 5) hx hb hts hin3 hown hK hP 0 rfl rfl 0 (by decide) (hts (.fieldLink RX3 10 "ProofMarks" "sheet" "LProofMarks$Sheet;") (List.mem_of_getElem? (i := 2) rfl)) (fun _ h9 => h9) rfl dX3_obey_200 ?_
    have hP := pm_eqP (pm_cl_s y L S Bs pi kn Gs sv U) hP
    have hD := pm_eqD (pm_cl_s y L S Bs pi kn Gs sv U) hD
    have hPc := pm_cutP hP
    have hDc := pm_cutD hD
    refine va_calli (va_runV (As := []) (rest := []) ⟨hx, hb, hml, hown, hts⟩ (k_X2_endRound l D y (L 2) S  hI) (cwV 0 hts gX3_obey_X2_endRound rfl rfl rfl hd_X2_endRound ⟨Nat.le_of_ble_eq_true rfl, Nat.le_of_ble_eq_true rfl⟩) ⟨pm_wr_blind, va_recv hK hPc (ci := 2) (q0 := 0) rfl rfl, pm_wr_pre hPc hK hDc⟩ rfl rfl hl.1 rfl (lv_room (Nat.le_of_ble_eq_true rfl)) dX3_obey_203 ⟨Nat.le_of_ble_eq_true rfl, Nat.le_of_ble_eq_true rfl⟩) hS (fun q _ h9 => pm_ad_all hDc q h9) (pm_ad_all hDc) (fun r9 u9 t9 H1 locs ht9 _ h9 hB9 _ hk9 hS => ?_)
    obtain ⟨hP, hD⟩ := pm_mid (w' := pm_shS y (L 2) (pm_aRound S).2) hP hD hk9 (by rw [← ht9]; exact hB9) (rfl)
    have hP : va_P D vwCl (pm_cl y L ((pm_aRound S).2) Bs pi kn Gs sv U) H1 := pm_eqP (pm_cl_s y L ((pm_aRound S).2) Bs pi kn Gs sv U).symm hP
    have hD : va_D (pm_ad (pm_cl y L S Bs pi kn Gs sv U)) (pm_cl y L ((pm_aRound S).2) Bs pi kn Gs sv U) := pm_eqD (pm_cl_s y L ((pm_aRound S).2) Bs pi kn Gs sv U).symm hD
    obtain rfl : r9 = (pm_aRound S).1 := h9
    exact W.iret hx hb hr (fun t ht _ => ⟨⟨_, (), rfl, (by rw [hO]), (by show va_P D vwCl (pm_cl y L (pm_ord S U.1 U.2.1 p9).2 Bs pi kn Gs sv U) t.heap; rw [ht]; exact (by rw [hO]; exact hP))⟩, hS.F ht⟩) hS.2.2 dX3_obey_206
  · have hO := pm_o_p (S := S) hF hc
    refine lv_topi (fun x9 e9 => ?_)
    obtain rfl : x9 = nI 112 := e9.trans (hF.1.trans (congrArg nI hc))
    refine lv_lookup (off := 155) (tgt := 162) hx hb dX3_obey_7 (by decide) (by decide) (by decide) ?_
    refine lv_aload_n hx hb dX3_obey_162 rfl (lv_at hl 0 rfl) ?_
    refine va_get (D := D) (ci := 3) (v := .ref (L 2 0)) (C := RX3) (T := TX3) (N := 5) hx hb hts hin3 hown hK hP 0 rfl rfl 0 (by decide) (hts (.fieldLink RX3 10 "ProofMarks" "sheet" "LProofMarks$Sheet;") (List.mem_of_getElem? (i := 2) rfl)) (fun _ h9 => h9) rfl dX3_obey_163 ?_
    refine lv_aload_n hx hb dX3_obey_166 rfl (lv_at hl 0 rfl) ?_
    refine va_get (D := D) (ci := 3) (v := .ref (L 3 0)) (C := RX3) (T := TX3) (N := 5) hx hb hts hin3 hown hK hP 0 rfl rfl 2 (by decide) (hts (.fieldLink RX3 26 "ProofMarks" "pad" "LProofMarks$Pad;") (List.mem_of_getElem? (i := 1) rfl)) (fun _ h9 => h9) rfl dX3_obey_167 ?_
    have hPc := pm_cutP (pm_eqP (pm_cl_p y L S Bs pi kn Gs sv U) hP)
    refine va_getN (host := "ProofMarks") (D := D) (ci := 1) (v := .int U.2.2.2.2.2.2.1) (C := RX1) (T := TX1) (N := 8) hx hb hts hin1 hown hK hPc 0 rfl rfl 6 (by decide) (hN.use 6 rfl) (fun _ h9 => h9) rfl dX3_obey_170 ?_
    refine lv_aload_n hx hb dX3_obey_173 rfl (lv_at hl 0 rfl) ?_
    refine va_get (D := D) (ci := 3) (v := .ref (L 3 0)) (C := RX3) (T := TX3) (N := 5) hx hb hts hin3 hown hK hP 0 rfl rfl 2 (by decide) (hts (.fieldLink RX3 26 "ProofMarks" "pad" "LProofMarks$Pad;") (List.mem_of_getElem? (i := 1) rfl)) (fun _ h9 => h9) rfl dX3_obey_174 ?_
    have hPc := pm_cutP (pm_eqP (pm_cl_p y L S Bs pi kn Gs sv U) hP)
    refine va_getN (host := "ProofMarks") (D := D) (ci := 1) (v := .int U.2.2.2.2.2.2.2) (C := RX1) (T := TX1) (N := 8) hx hb hts hin1 hown hK hPc 0 rfl rfl 7 (by decide) (hN.use 7 rfl) (fun _ h9 => h9) rfl dX3_obey_177 ?_
    have hP := pm_eqP (pm_cl_s y L S Bs pi kn Gs sv U) hP
    have hD := pm_eqD (pm_cl_s y L S Bs pi kn Gs sv U) hD
    have hPc := pm_cutP hP
    have hDc := pm_cutD hD
    refine va_calli (va_runV (As := [.int U.2.2.2.2.2.2.1, .int U.2.2.2.2.2.2.2]) (rest := []) ⟨hx, hb, hml, hown, hts⟩ (k_X2_printFrame l D y (L 2) S U.2.2.2.2.2.2.1 U.2.2.2.2.2.2.2 hI) (cwV 2 hts gX3_obey_X2_printFrame rfl rfl rfl hd_X2_printFrame ⟨Nat.le_of_ble_eq_true rfl, Nat.le_of_ble_eq_true rfl⟩) ⟨pm_wr_blind, va_recv hK hPc (ci := 2) (q0 := 0) rfl rfl, pm_wr_pre hPc hK hDc⟩ rfl rfl hl.1 rfl (lv_room (Nat.le_of_ble_eq_true rfl)) dX3_obey_180 ⟨Nat.le_of_ble_eq_true rfl, Nat.le_of_ble_eq_true rfl⟩) hS (fun q _ h9 => pm_ad_all hDc q h9) (pm_ad_all hDc) (fun r9 u9 t9 H1 locs ht9 _ h9 hB9 _ hk9 hS => ?_)
    obtain ⟨hP, hD⟩ := pm_mid (w' := pm_shS y (L 2) (pm_aPrint S U.2.2.2.2.2.2.1 U.2.2.2.2.2.2.2).2) hP hD hk9 (by rw [← ht9]; exact hB9) (rfl)
    have hP : va_P D vwCl (pm_cl y L ((pm_aPrint S U.2.2.2.2.2.2.1 U.2.2.2.2.2.2.2).2) Bs pi kn Gs sv U) H1 := pm_eqP (pm_cl_s y L ((pm_aPrint S U.2.2.2.2.2.2.1 U.2.2.2.2.2.2.2).2) Bs pi kn Gs sv U).symm hP
    have hD : va_D (pm_ad (pm_cl y L S Bs pi kn Gs sv U)) (pm_cl y L ((pm_aPrint S U.2.2.2.2.2.2.1 U.2.2.2.2.2.2.2).2) Bs pi kn Gs sv U) := pm_eqD (pm_cl_s y L ((pm_aPrint S U.2.2.2.2.2.2.1 U.2.2.2.2.2.2.2).2) Bs pi kn Gs sv U).symm hD
    obtain rfl : r9 = (pm_aPrint S U.2.2.2.2.2.2.1 U.2.2.2.2.2.2.2).1 := h9
    exact W.iret hx hb hr (fun t ht _ => ⟨⟨_, (), rfl, (by rw [hO]), (by show va_P D vwCl (pm_cl y L (pm_ord S U.1 U.2.1 p9).2 Bs pi kn Gs sv U) t.heap; rw [ht]; exact (by rw [hO]; exact hP))⟩, hS.F ht⟩) hS.2.2 dX3_obey_183
  · have hO := pm_o_b (S := S) hF hc
    refine lv_topi (fun x9 e9 => ?_)
    obtain rfl : x9 = nI 98 := e9.trans (hF.1.trans (congrArg nI hc))
    refine lv_lookup (off := 177) (tgt := 184) hx hb dX3_obey_7 (by decide) (by decide) (by decide) ?_
    refine lv_aload_n hx hb dX3_obey_184 rfl (lv_at hl 0 rfl) ?_
    refine va_get (D := D) (ci := 3) (v := .ref (L 2 0)) (C := RX3) (T := TX3) (N := 5) hx hb hts hin3 hown hK hP 0 rfl rfl 0 (by decide) (hts (.fieldLink RX3 10 "ProofMarks" "sheet" "LProofMarks$Sheet;") (List.mem_of_getElem? (i := 2) rfl)) (fun _ h9 => h9) rfl dX3_obey_185 ?_
    refine lv_aload_n hx hb dX3_obey_188 rfl (lv_at hl 0 rfl) ?_
    refine va_get (D := D) (ci := 3) (v := .ref (L 3 0)) (C := RX3) (T := TX3) (N := 5) hx hb hts hin3 hown hK hP 0 rfl rfl 2 (by decide) (hts (.fieldLink RX3 26 "ProofMarks" "pad" "LProofMarks$Pad;") (List.mem_of_getElem? (i := 1) rfl)) (fun _ h9 => h9) rfl dX3_obey_189 ?_
    have hPc := pm_cutP (pm_eqP (pm_cl_p y L S Bs pi kn Gs sv U) hP)
    refine va_getN (host := "ProofMarks") (D := D) (ci := 1) (v := .int U.2.2.2.2.2.2.1) (C := RX1) (T := TX1) (N := 8) hx hb hts hin1 hown hK hPc 0 rfl rfl 6 (by decide) (hN.use 6 rfl) (fun _ h9 => h9) rfl dX3_obey_192 ?_
    have hP := pm_eqP (pm_cl_s y L S Bs pi kn Gs sv U) hP
    have hD := pm_eqD (pm_cl_s y L S Bs pi kn Gs sv U) hD
    have hPc := pm_cutP hP
    have hDc := pm_cutD hD
    refine va_calli (va_runV (As := [.int U.2.2.2.2.2.2.1]) (rest := []) ⟨hx, hb, hml, hown, hts⟩ (k_X2_addPaper l D y (L 2) S U.2.2.2.2.2.2.1 hI) (cwV 1 hts gX3_obey_X2_addPaper rfl rfl rfl hd_X2_addPaper ⟨Nat.le_of_ble_eq_true rfl, Nat.le_of_ble_eq_true rfl⟩) ⟨pm_wr_blind, va_recv hK hPc (ci := 2) (q0 := 0) rfl rfl, pm_wr_pre hPc hK hDc⟩ rfl rfl hl.1 rfl (lv_room (Nat.le_of_ble_eq_true rfl)) dX3_obey_195 ⟨Nat.le_of_ble_eq_true rfl, Nat.le_of_ble_eq_true rfl⟩) hS (fun q _ h9 => pm_ad_all hDc q h9) (pm_ad_all hDc) (fun r9 u9 t9 H1 locs ht9 _ h9 hB9 _ hk9 hS => ?_)
    obtain ⟨hP, hD⟩ := pm_mid (w' := pm_shS y (L 2) (pm_aBuy S U.2.2.2.2.2.2.1).2) hP hD hk9 (by rw [← ht9]; exact hB9) (rfl)
    have hP : va_P D vwCl (pm_cl y L ((pm_aBuy S U.2.2.2.2.2.2.1).2) Bs pi kn Gs sv U) H1 := pm_eqP (pm_cl_s y L ((pm_aBuy S U.2.2.2.2.2.2.1).2) Bs pi kn Gs sv U).symm hP
    have hD : va_D (pm_ad (pm_cl y L S Bs pi kn Gs sv U)) (pm_cl y L ((pm_aBuy S U.2.2.2.2.2.2.1).2) Bs pi kn Gs sv U) := pm_eqD (pm_cl_s y L ((pm_aBuy S U.2.2.2.2.2.2.1).2) Bs pi kn Gs sv U).symm hD
    obtain rfl : r9 = (pm_aBuy S U.2.2.2.2.2.2.1).1 := h9
    exact W.iret hx hb hr (fun t ht _ => ⟨⟨_, (), rfl, (by rw [hO]), (by show va_P D vwCl (pm_cl y L (pm_ord S U.1 U.2.1 p9).2 Bs pi kn Gs sv U) t.heap; rw [ht]; exact (by rw [hO]; exact hP))⟩, hS.F ht⟩) hS.2.2 dX3_obey_198

set_option maxHeartbeats 4000000 in
set_option maxRecDepth 100000 in
theorem k_X3_carryOrders (l : Launch) (D : va_G) (y : Nat → ClassId) (L : Nat → Nat → Nat) (S : Nat → Nat → Nat) (Bs : Nat → Nat → Nat → Nat) (pi : Nat → Nat) (kn : Nat) (Gs : Nat → Nat → Nat → Nat) (sv : Nat → Nat) (U : pm_PT) (Hs Sl : Nat → Nat → Nat → Nat) (hI : pm_Inv S) (hPI : pm_PI U.1 U.2.1) (hnf : pm_flt U.1 U.2.1 80 0 = none) : Met l yX3_carryOrders wsX3_carryOrders ({ frames := 6, cells := 0, slots := 0, locals := 128 } : Room) (pm_wrn D (pm_ty y) [.ref (L 0 0)] (pm_cl y L S Bs pi kn Gs sv U)) (pm_Qi D (fun (r : Int32) (u : Nat × Nat × Int32 × Int32 × Int32 × Int32 × Int32) => u.1 ≤ 80 ∧ r = nI u.1 ∧ (∀ k, k < u.1 → pm_go S U.1 U.2.1 k) ∧ ¬ pm_go S U.1 U.2.1 u.1) (fun (u : Nat × Nat × Int32 × Int32 × Int32 × Int32 × Int32) => pm_cl y L (pm_rs S U.1 U.2.1 u.1) Bs pi kn Gs sv (U.1, U.2.1, u.2)) (pm_cl y L S Bs pi kn Gs sv U)) 0 0 (pm_ad (pm_cl y L S Bs pi kn Gs sv U)) := by
  refine Met.ofW (cc := cX3_carryOrders) (maxL := 2) (ret := (some .int)) (by decide) rfl ?_
  intro p e s m args below meth c s₁ B hml hpre
  obtain ⟨rfl, ⟨hP, hK, hD0⟩, hN⟩ := hpre
  have hx := B.exec
  have hb := B.bytes
  have hr := B.returns
  have hts := atoms_spec (ws := wsX3_carryOrders) B.pre
  have hown : s.vm.findClass RX3 = some m.cls := findClass_of_methodNamed B.named
  have hlocks := B.notSynchronized
  have hin3 : ∀ w ∈ u_ws RX3 TX3 5, w ∈ wsX3_carryOrders := fun w h => List.mem_cons_of_mem _ (List.mem_append_left _ (List.mem_append_left _ (List.mem_append_right _ h)))
  have hin1 : ∀ w ∈ u_ws RX1 TX1 8, w ∈ wsX3_carryOrders := fun w h => List.mem_cons_of_mem _ (List.mem_append_left _ (List.mem_append_right _ h))
  have hin2 : ∀ w ∈ u_ws RX2 TX2 15, w ∈ wsX3_carryOrders := fun w h => List.mem_cons_of_mem _ (List.mem_append_right _ h)
  have hD := pm_ad_self hD0
  have hS : va_S (pm_ad (pm_cl y L S Bs pi kn Gs sv U)) s.heap s.heap [] := va_S.rf
  have hP : va_P D vwCl (pm_cl y L S Bs pi kn Gs sv U) s.heap := hP
  have hl := lv_entry ([.ref (L 0 0)]) (n := 2) (Nat.le_of_ble_eq_true rfl)
  rw [lg_entry_eq]
  generalize (lg_sl ([.ref (L 0 0)]) ++ List.replicate (2 - (lg_sl ([.ref (L 0 0)])).length) Slot.unset).toArray = ls at hl ⊢
  have hl : lv_has ls 2 [(0, .ref (L 0 0))] := hl
  have hln := hPI.1
  refine lv_aload_n hx hb dX3_carryOrders_0 rfl (lv_at hl 0 rfl) ?_
  refine va_get (D := D) (ci := 3) (v := .ref (L 3 0)) (C := RX3) (T := TX3) (N := 5) hx hb hts hin3 hown hK hP 0 rfl rfl 2 (by decide) (hts (.fieldLink RX3 26 "ProofMarks" "pad" "LProofMarks$Pad;") (List.mem_of_getElem? (i := 1) rfl)) (fun _ h9 => h9) rfl dX3_carryOrders_1 ?_
  have hP := pm_eqP (pm_cl_p y L S Bs pi kn Gs sv U) hP
  have hD := pm_eqD (pm_cl_p y L S Bs pi kn Gs sv U) hD
  have hPc := pm_cutP hP
  have hDc := pm_cutD hD
  refine va_callv (va_runV (As := []) (rest := []) ⟨hx, hb, hml, hown, hts⟩ (k_X1_rewind l D y (L 3) U.1 U.2.1 U.2.2.1 U.2.2.2.1 U.2.2.2.2.1 U.2.2.2.2.2.1 U.2.2.2.2.2.2.1 U.2.2.2.2.2.2.2) (cwV 0 hts gX3_carryOrders_X1_rewind rfl rfl rfl hd_X1_rewind ⟨Nat.le_of_ble_eq_true rfl, Nat.le_of_ble_eq_true rfl⟩) ⟨pm_wr_blind, va_recv hK hPc (ci := 1) (q0 := 0) rfl rfl, pm_wr_pre hPc hK hDc⟩ rfl rfl hl.1 rfl (lv_room (Nat.le_of_ble_eq_true rfl)) dX3_carryOrders_4 ⟨Nat.le_of_ble_eq_true rfl, Nat.le_of_ble_eq_true rfl⟩) hS (fun q _ h9 => pm_ad_all hDc q h9) (pm_ad_all hDc) (fun u9 t9 H1 locs ht9 _ h9 hB9 _ hk9 hS => ?_)
  obtain ⟨hP, hD⟩ := pm_mid (w' := pm_cP y L (U.1, U.2.1, 0, U.2.2.2)) hP hD hk9 (by rw [← ht9]; exact hB9) (rfl)
  have hP : va_P D vwCl (pm_cl y L S Bs pi kn Gs sv (U.1, U.2.1, 0, U.2.2.2)) H1 := pm_eqP (pm_cl_p y L S Bs pi kn Gs sv (U.1, U.2.1, 0, U.2.2.2)).symm hP
  have hD : va_D (pm_ad (pm_cl y L S Bs pi kn Gs sv U)) (pm_cl y L S Bs pi kn Gs sv (U.1, U.2.1, 0, U.2.2.2)) := pm_eqD (pm_cl_p y L S Bs pi kn Gs sv (U.1, U.2.1, 0, U.2.2.2)).symm hD
  refine lv_iconst (v := nI 0) hx hb dX3_carryOrders_7 (by decide) ?_
  refine lv_istore_n (lv' := [(1, .int (nI 0)), (0, .ref (L 0 0))]) hx hb dX3_carryOrders_8 rfl hl (by decide) rfl (fun ls hl => ?_)
  have LOOP9 : ∀ (n k : Nat) (ls : Array Slot) (H : Heap) (locs : List Loc) (V5 : Int32 × Int32 × Int32 × Int32 × Int32), va_P D vwCl (pm_cl y L (pm_rs S U.1 U.2.1 k) Bs pi kn Gs sv (U.1, U.2.1, pm_pos U.1 U.2.1 k - 1, V5)) H → va_D (pm_ad (pm_cl y L S Bs pi kn Gs sv U)) (pm_cl y L (pm_rs S U.1 U.2.1 k) Bs pi kn Gs sv (U.1, U.2.1, pm_pos U.1 U.2.1 k - 1, V5)) → va_S (pm_ad (pm_cl y L S Bs pi kn Gs sv U)) s.heap H locs → k ≤ 80 → 80 - k < n → lv_has ls 2 [(0, .ref (L 0 0)), (1, .int (nI k))] → (∀ j, j < k → pm_go S U.1 U.2.1 j) → (pm_pos U.1 U.2.1 k ≤ U.2.1 → pm_flt U.1 U.2.1 (80 - k) (pm_pos U.1 U.2.1 k) = none) → (2 * k ≤ pm_pos U.1 U.2.1 k ∧ pm_pos U.1 U.2.1 k ≤ U.2.1 + 1) → (pm_pos U.1 U.2.1 k = 0 ∨ (2 ≤ pm_pos U.1 U.2.1 k ∧ (pm_pos U.1 U.2.1 k = U.2.1 + 1 ∨ (pm_pos U.1 U.2.1 k ≤ U.2.1 ∧ U.1 (pm_pos U.1 U.2.1 k - 1) = 59)))) → W p l e (headSpec wsX3_carryOrders ({ frames := 6, cells := 0, slots := 0, locals := 128 } : Room)).room s m ([.ref (L 0 0)] : List Value).toArray below meth c H locs 0 0 (MQ below (pm_Qi D (fun (r : Int32) (u : Nat × Nat × Int32 × Int32 × Int32 × Int32 × Int32) => u.1 ≤ 80 ∧ r = nI u.1 ∧ (∀ k, k < u.1 → pm_go S U.1 U.2.1 k) ∧ ¬ pm_go S U.1 U.2.1 u.1) (fun (u : Nat × Nat × Int32 × Int32 × Int32 × Int32 × Int32) => pm_cl y L (pm_rs S U.1 U.2.1 u.1) Bs pi kn Gs sv (U.1, U.2.1, u.2)) (pm_cl y L S Bs pi kn Gs sv U)) ([.ref (L 0 0)] : List Value).toArray s 0 0 (pm_ad (pm_cl y L S Bs pi kn Gs sv U))) (F0 m 9 ls []) := by
    intro n
    induction n with
    | zero => intro k _ _ _ _ _ _ _ hi hn; omega
    | succ n ih1 =>
      intro k ls H locs V5 hP hD hS hi_k hn_k hl hh9_0 hh9_1 hh9_2 hh9_3
      refine lv_iload_n hx hb dX3_carryOrders_9 rfl (lv_at hl 1 rfl) ?_
      refine lv_bipush (v := nI 80) hx hb dX3_carryOrders_10 (by decide) ?_
      refine kx_icmp_ge (tgt := 38) hx hb (by omega) (by decide) dX3_carryOrders_12 (by decide) (fun c2 => by exfalso; omega) (fun c2 => ?_)
      refine lv_aload_n hx hb dX3_carryOrders_15 rfl (lv_at hl 0 rfl) ?_
      refine va_get (D := D) (ci := 3) (v := .ref (L 3 0)) (C := RX3) (T := TX3) (N := 5) hx hb hts hin3 hown hK hP 0 rfl rfl 2 (by decide) (hts (.fieldLink RX3 26 "ProofMarks" "pad" "LProofMarks$Pad;") (List.mem_of_getElem? (i := 1) rfl)) (fun _ h9 => h9) rfl dX3_carryOrders_16 ?_
      have hP := pm_eqP (pm_cl_p y L (pm_rs S U.1 U.2.1 k) Bs pi kn Gs sv (U.1, U.2.1, pm_pos U.1 U.2.1 k - 1, V5)) hP
      have hD := pm_eqD (pm_cl_p y L (pm_rs S U.1 U.2.1 k) Bs pi kn Gs sv (U.1, U.2.1, pm_pos U.1 U.2.1 k - 1, V5)) hD
      have hPc := pm_cutP hP
      have hDc := pm_cutD hD
      refine va_calli (va_runV (As := []) (rest := []) ⟨hx, hb, hml, hown, hts⟩ (k_X1_nextOrder l D y (L 3) U.1 U.2.1 (pm_pos U.1 U.2.1 k - 1) V5.1 V5.2.1 V5.2.2.1 V5.2.2.2.1 V5.2.2.2.2 hPI (by omega)) (cwV 0 hts gX3_carryOrders_X1_nextOrder rfl rfl rfl hd_X1_nextOrder ⟨Nat.le_of_ble_eq_true rfl, Nat.le_of_ble_eq_true rfl⟩) ⟨pm_wr_blind, va_recv hK hPc (ci := 1) (q0 := 0) rfl rfl, pm_wr_pre hPc hK hDc⟩ rfl rfl hl.1 rfl (lv_room (Nat.le_of_ble_eq_true rfl)) dX3_carryOrders_19 ⟨Nat.le_of_ble_eq_true rfl, Nat.le_of_ble_eq_true rfl⟩) hS (fun q _ h9 => pm_ad_all hDc q h9) (pm_ad_all hDc) (fun r9 u9 t9 H1 locs ht9 _ h9 hB9 _ hk9 hS => ?_)
      obtain ⟨hP, hD⟩ := pm_mid (w' := pm_cP y L (U.1, U.2.1, u9)) hP hD hk9 (by rw [← ht9]; exact hB9) (rfl)
      have hP : va_P D vwCl (pm_cl y L (pm_rs S U.1 U.2.1 k) Bs pi kn Gs sv (U.1, U.2.1, u9)) H1 := pm_eqP (pm_cl_p y L (pm_rs S U.1 U.2.1 k) Bs pi kn Gs sv (U.1, U.2.1, u9)).symm hP
      have hD : va_D (pm_ad (pm_cl y L S Bs pi kn Gs sv U)) (pm_cl y L (pm_rs S U.1 U.2.1 k) Bs pi kn Gs sv (U.1, U.2.1, u9)) := pm_eqD (pm_cl_p y L (pm_rs S U.1 U.2.1 k) Bs pi kn Gs sv (U.1, U.2.1, u9)).symm hD
      rcases pm_nx (n := 80 - (k + 1)) hh9_3 (fun z => by rw [show 80 - (k + 1) + 1 = 80 - k by omega]; exact hh9_1 z) h9 with ⟨rfl, hz9⟩ | ⟨rfl, hoe, hF9⟩
      · skip
        refine lv_if_eq (tgt := 38) hx hb dX3_carryOrders_22 (by decide) (fun _ => ?_) (fun c3 => (c3 (by decide)).elim)
        refine lv_iload_n hx hb dX3_carryOrders_38 rfl (lv_at hl 1 rfl) ?_
        exact W.iret hx hb hr (fun t ht _ => ⟨⟨_, (k, u9), rfl, ⟨by omega, rfl, hh9_0, fun z : pm_go S U.1 U.2.1 k => hz9 z.1⟩, (by show va_P D vwCl (pm_cl y L (pm_rs S U.1 U.2.1 k) Bs pi kn Gs sv (U.1, U.2.1, u9)) t.heap; rw [ht]; exact hP)⟩, hS.F ht⟩) hS.2.2 dX3_carryOrders_39
      · have hlt := (pm_k_s hoe).1
        refine lv_if_eq (tgt := 38) hx hb dX3_carryOrders_22 (by decide) (fun c4 => absurd c4 (by decide)) (fun _ => ?_)
        refine lv_aload_n hx hb dX3_carryOrders_25 rfl (lv_at hl 0 rfl) ?_
        refine va_calli (va_runV (As := []) (rest := []) ⟨hx, hb, hml, hown, hts⟩ (k_X3_obey l D y L (pm_rs S U.1 U.2.1 k) Bs pi kn Gs sv (U.1, U.2.1, u9) Hs Sl (pm_pos U.1 U.2.1 k) (pm_rs_inv hI U.1 U.2.1 k) hF9 (pm_k_s hoe).2) (cwV 0 hts gX3_carryOrders_X3_obey rfl rfl rfl hd_X3_obey ⟨Nat.le_of_ble_eq_true rfl, Nat.le_of_ble_eq_true rfl⟩) ⟨pm_wrn_blind, va_recv hK hP (ci := 3) (q0 := 0) rfl rfl, pm_wrn_pre hP hK hD hN⟩ rfl rfl hl.1 rfl (lv_room (Nat.le_of_ble_eq_true rfl)) dX3_carryOrders_26 ⟨Nat.le_of_ble_eq_true rfl, Nat.le_of_ble_eq_true rfl⟩) hS (fun q _ h9 => pm_ad_all hD q h9) (pm_ad_all hD) (fun r9 u8 t9 H1 locs ht9 _ h9 hB9 _ hk9 hS => ?_)
        have hP : va_P D vwCl (pm_cl y L ((pm_ord (pm_rs S U.1 U.2.1 k) U.1 U.2.1 (pm_pos U.1 U.2.1 k)).2) Bs pi kn Gs sv (U.1, U.2.1, u9)) H1 := by rw [← ht9]; exact hB9
        have hD : va_D (pm_ad (pm_cl y L S Bs pi kn Gs sv U)) (pm_cl y L ((pm_ord (pm_rs S U.1 U.2.1 k) U.1 U.2.1 (pm_pos U.1 U.2.1 k)).2) Bs pi kn Gs sv (U.1, U.2.1, u9)) := pm_D_same (pm_cl_fst ..) hD
        obtain rfl : r9 = (pm_ord (pm_rs S U.1 U.2.1 k) U.1 U.2.1 (pm_pos U.1 U.2.1 k)).1 := h9
        refine lv_if_lt (tgt := 38) hx hb dX3_carryOrders_29 (by decide) (fun c5 => ?_) (fun c5 => ?_)
        · skip
          refine lv_iload_n hx hb dX3_carryOrders_38 rfl (lv_at hl 1 rfl) ?_
          have E9 := pm_ord_neg (pm_rs_inv hI U.1 U.2.1 k) (P := U.1) (ln := U.2.1) (p := pm_pos U.1 U.2.1 k) (by assumption)
          exact W.iret hx hb hr (fun t ht _ => ⟨⟨_, (k, u9), rfl, ⟨by omega, rfl, hh9_0, fun z : pm_go S U.1 U.2.1 k => Int32.not_lt.mpr z.2 (by assumption)⟩, (by show va_P D vwCl (pm_cl y L (pm_rs S U.1 U.2.1 k) Bs pi kn Gs sv (U.1, U.2.1, u9)) t.heap; rw [ht]; exact (by rw [← E9]; exact hP))⟩, hS.F ht⟩) hS.2.2 dX3_carryOrders_39
        · skip
          have hps : pm_pos U.1 U.2.1 (k + 1) - 1 = u9.1 := by rw [pm_pos_s hoe]; rfl
          have hnx := pm_nx_e (n := 80 - (k + 1)) hoe (by rw [show 80 - (k + 1) + 1 = 80 - k by omega]; exact hh9_1 (by omega))
          have hel := pm_oe_l hoe
          refine kx_iinc (a := k) (lv' := [(1, .int (nI (k + 1))), (0, .ref (L 0 0))]) hx hb dX3_carryOrders_32 hl (k := 1) rfl (by decide) rfl (fun ls hl => ?_)
          refine lv_goto (tgt := 9) hx hb dX3_carryOrders_35 (by decide) ?_
          generalize H1 = H at hP hS ⊢
          exact ih1 (k + 1) ls H locs u9.2 (by rw [hps]; exact hP) (by rw [hps]; exact hD) hS (by omega) (by omega) (by exact lv_sub hl [1, 0] rfl) (fun j hj => by rcases (show j < k ∨ j = k by omega) with z | z; exact hh9_0 j z; rw [z]; exact ⟨hlt, Int32.not_lt.mp (by assumption)⟩) (by rw [pm_pos_s hoe]; exact hnx.1) (by rw [pm_pos_s hoe]; omega) (by rw [pm_pos_s hoe]; exact Or.inr ⟨by omega, hnx.2⟩)
  exact LOOP9 (80 + 1) 0 ls H1 locs U.2.2.2 hP hD hS (by omega) (by omega) (lv_sub hl [1, 0] rfl) (fun j hj => absurd hj (Nat.not_lt_zero j)) (fun _ => hnf) ⟨Nat.le_refl 0, Nat.zero_le _⟩ (Or.inl rfl)

set_option maxHeartbeats 4000000 in
set_option maxRecDepth 100000 in
theorem k_X3_carryOut_f (l : Launch) (D : va_G) (y : Nat → ClassId) (L : Nat → Nat → Nat) (S : Nat → Nat → Nat) (Bs : Nat → Nat → Nat → Nat) (pi : Nat → Nat) (kn : Nat) (Gs : Nat → Nat → Nat → Nat) (sv : Nat → Nat) (U : pm_PT) (Hs Sl : Nat → Nat → Nat → Nat) (hPI : pm_PI U.1 U.2.1) (hf : ¬ pm_fa U.1 U.2.1 = -6) : Met l yX3_carryOut wsX3_carryOut ({ frames := 6, cells := 0, slots := 0, locals := 124 } : Room) (pm_wrn D (pm_ty y) [.ref (L 0 0)] (pm_cl y L S Bs pi kn Gs sv U)) (pm_Qi D (fun (r : Int32) (u : Nat × Int32 × Int32 × Int32 × Int32 × Int32) => r = -3) (fun (u : Nat × Int32 × Int32 × Int32 × Int32 × Int32) => pm_cl y L S Bs pi kn Gs sv (U.1, U.2.1, u)) (pm_cl y L S Bs pi kn Gs sv U)) 0 0 (pm_ad (pm_cl y L S Bs pi kn Gs sv U)) := by
  refine Met.ofW (cc := cX3_carryOut) (maxL := 2) (ret := (some .int)) (by decide) rfl ?_
  intro p e s m args below meth c s₁ B hml hpre
  obtain ⟨rfl, ⟨hP, hK, hD0⟩, hN⟩ := hpre
  have hx := B.exec
  have hb := B.bytes
  have hr := B.returns
  have hts := atoms_spec (ws := wsX3_carryOut) B.pre
  have hown : s.vm.findClass RX3 = some m.cls := findClass_of_methodNamed B.named
  have hlocks := B.notSynchronized
  have hin3 : ∀ w ∈ u_ws RX3 TX3 5, w ∈ wsX3_carryOut := fun w h => List.mem_cons_of_mem _ (List.mem_append_left _ (List.mem_append_left _ (List.mem_append_left _ (List.mem_append_right _ h))))
  have hin1 : ∀ w ∈ u_ws RX1 TX1 8, w ∈ wsX3_carryOut := fun w h => List.mem_cons_of_mem _ (List.mem_append_left _ (List.mem_append_left _ (List.mem_append_right _ h)))
  have hin0 : ∀ w ∈ u_ws RX0 TX0 2, w ∈ wsX3_carryOut := fun w h => List.mem_cons_of_mem _ (List.mem_append_left _ (List.mem_append_right _ h))
  have hin2 : ∀ w ∈ u_ws RX2 TX2 15, w ∈ wsX3_carryOut := fun w h => List.mem_cons_of_mem _ (List.mem_append_right _ h)
  have hD := pm_ad_self hD0
  have hS : va_S (pm_ad (pm_cl y L S Bs pi kn Gs sv U)) s.heap s.heap [] := va_S.rf
  have hP : va_P D vwCl (pm_cl y L S Bs pi kn Gs sv U) s.heap := hP
  have hl := lv_entry ([.ref (L 0 0)]) (n := 2) (Nat.le_of_ble_eq_true rfl)
  rw [lg_entry_eq]
  generalize (lg_sl ([.ref (L 0 0)]) ++ List.replicate (2 - (lg_sl ([.ref (L 0 0)])).length) Slot.unset).toArray = ls at hl ⊢
  have hl : lv_has ls 2 [(0, .ref (L 0 0))] := hl
  refine lv_aload_n hx hb dX3_carryOut_0 rfl (lv_at hl 0 rfl) ?_
  refine va_get (D := D) (ci := 3) (v := .ref (L 3 0)) (C := RX3) (T := TX3) (N := 5) hx hb hts hin3 hown hK hP 0 rfl rfl 2 (by decide) (hts (.fieldLink RX3 26 "ProofMarks" "pad" "LProofMarks$Pad;") (List.mem_of_getElem? (i := 1) rfl)) (fun _ h9 => h9) rfl dX3_carryOut_1 ?_
  have hP := pm_eqP (pm_cl_p y L S Bs pi kn Gs sv U) hP
  have hD := pm_eqD (pm_cl_p y L S Bs pi kn Gs sv U) hD
  have hPc := pm_cutP hP
  have hDc := pm_cutD hD
  refine va_calli (va_runV (As := []) (rest := []) ⟨hx, hb, hml, hown, hts⟩ (k_X1_faultAt l D y (L 3) U.1 U.2.1 U.2.2.1 U.2.2.2.1 U.2.2.2.2.1 U.2.2.2.2.2.1 U.2.2.2.2.2.2.1 U.2.2.2.2.2.2.2 hPI) (cwV 0 hts gX3_carryOut_X1_faultAt rfl rfl rfl hd_X1_faultAt ⟨Nat.le_of_ble_eq_true rfl, Nat.le_of_ble_eq_true rfl⟩) ⟨pm_wr_blind, va_recv hK hPc (ci := 1) (q0 := 0) rfl rfl, pm_wr_pre hPc hK hDc⟩ rfl rfl hl.1 rfl (lv_room (Nat.le_of_ble_eq_true rfl)) dX3_carryOut_4 ⟨Nat.le_of_ble_eq_true rfl, Nat.le_of_ble_eq_true rfl⟩) hS (fun q _ h9 => pm_ad_all hDc q h9) (pm_ad_all hDc) (fun r9 u6 t9 H1 locs ht9 _ h9 hB9 _ hk9 hS => ?_)
  obtain ⟨hP, hD⟩ := pm_mid (w' := pm_cP y L (U.1, U.2.1, u6)) hP hD hk9 (by rw [← ht9]; exact hB9) (rfl)
  have hP : va_P D vwCl (pm_cl y L S Bs pi kn Gs sv (U.1, U.2.1, u6)) H1 := pm_eqP (pm_cl_p y L S Bs pi kn Gs sv (U.1, U.2.1, u6)).symm hP
  have hD : va_D (pm_ad (pm_cl y L S Bs pi kn Gs sv U)) (pm_cl y L S Bs pi kn Gs sv (U.1, U.2.1, u6)) := pm_eqD (pm_cl_p y L S Bs pi kn Gs sv (U.1, U.2.1, u6)).symm hD
  obtain rfl : r9 = pm_fa U.1 U.2.1 := h9
  refine lv_bipush (v := (-6)) hx hb dX3_carryOut_7 (by decide) ?_
  refine lv_icmp_eq (tgt := 15) hx hb dX3_carryOut_9 (by decide) (fun c1 => by exfalso; exact absurd (by assumption) hf) (fun c1 => ?_)
  refine lv_bipush (v := (-3)) hx hb dX3_carryOut_12 (by decide) ?_
  exact W.iret hx hb hr (fun t ht _ => ⟨⟨_, u6, rfl, rfl, (by show va_P D vwCl (pm_cl y L S Bs pi kn Gs sv (U.1, U.2.1, u6)) t.heap; rw [ht]; exact hP)⟩, hS.F ht⟩) hS.2.2 dX3_carryOut_14

set_option maxHeartbeats 4000000 in
set_option maxRecDepth 100000 in
theorem k_X3_carryOut (l : Launch) (D : va_G) (y : Nat → ClassId) (L : Nat → Nat → Nat) (S : Nat → Nat → Nat) (Bs : Nat → Nat → Nat → Nat) (pi : Nat → Nat) (kn : Nat) (Gs : Nat → Nat → Nat → Nat) (sv : Nat → Nat) (U : pm_PT) (Hs Sl : Nat → Nat → Nat → Nat) (hC : pm_CI Bs pi kn Gs sv Hs Sl) (hI : pm_Inv S) (hPI : pm_PI U.1 U.2.1) (hnf : pm_flt U.1 U.2.1 80 0 = none) : Met l yX3_carryOut wsX3_carryOut ({ frames := 7, cells := 0, slots := 0, locals := 149 } : Room) (pm_wrn D (pm_ty y) [.ref (L 0 0)] (pm_cl y L S Bs pi kn Gs sv U)) (pm_Qi D (fun (r : Int32) (u : Nat × Nat × Int32 × Int32 × Int32 × Int32 × Int32) => r = nI u.1 ∧ (∀ k, k < u.1 → pm_go S U.1 U.2.1 k) ∧ ¬ pm_go S U.1 U.2.1 u.1) (fun (u : Nat × Nat × Int32 × Int32 × Int32 × Int32 × Int32) => pm_cl y L (pm_rs S U.1 U.2.1 u.1) (pm_ub Bs (pi kn) S) (pm_kp pi kn) (pm_kn kn) Gs sv (U.1, 0, u.2)) (pm_cl y L S Bs pi kn Gs sv U)) 0 0 (pm_ad (pm_cl y L S Bs pi kn Gs sv U)) := by
  refine Met.ofW (cc := cX3_carryOut) (maxL := 2) (ret := (some .int)) (by decide) rfl ?_
  intro p e s m args below meth c s₁ B hml hpre
  obtain ⟨rfl, ⟨hP, hK, hD0⟩, hN⟩ := hpre
  have hx := B.exec
  have hb := B.bytes
  have hr := B.returns
  have hts := atoms_spec (ws := wsX3_carryOut) B.pre
  have hown : s.vm.findClass RX3 = some m.cls := findClass_of_methodNamed B.named
  have hlocks := B.notSynchronized
  have hin3 : ∀ w ∈ u_ws RX3 TX3 5, w ∈ wsX3_carryOut := fun w h => List.mem_cons_of_mem _ (List.mem_append_left _ (List.mem_append_left _ (List.mem_append_left _ (List.mem_append_right _ h))))
  have hin1 : ∀ w ∈ u_ws RX1 TX1 8, w ∈ wsX3_carryOut := fun w h => List.mem_cons_of_mem _ (List.mem_append_left _ (List.mem_append_left _ (List.mem_append_right _ h)))
  have hin0 : ∀ w ∈ u_ws RX0 TX0 2, w ∈ wsX3_carryOut := fun w h => List.mem_cons_of_mem _ (List.mem_append_left _ (List.mem_append_right _ h))
  have hin2 : ∀ w ∈ u_ws RX2 TX2 15, w ∈ wsX3_carryOut := fun w h => List.mem_cons_of_mem _ (List.mem_append_right _ h)
  have hD := pm_ad_self hD0
  have hS : va_S (pm_ad (pm_cl y L S Bs pi kn Gs sv U)) s.heap s.heap [] := va_S.rf
  have hP : va_P D vwCl (pm_cl y L S Bs pi kn Gs sv U) s.heap := hP
  have hl := lv_entry ([.ref (L 0 0)]) (n := 2) (Nat.le_of_ble_eq_true rfl)
  rw [lg_entry_eq]
  generalize (lg_sl ([.ref (L 0 0)]) ++ List.replicate (2 - (lg_sl ([.ref (L 0 0)])).length) Slot.unset).toArray = ls at hl ⊢
  have hl : lv_has ls 2 [(0, .ref (L 0 0))] := hl
  refine lv_aload_n hx hb dX3_carryOut_0 rfl (lv_at hl 0 rfl) ?_
  refine va_get (D := D) (ci := 3) (v := .ref (L 3 0)) (C := RX3) (T := TX3) (N := 5) hx hb hts hin3 hown hK hP 0 rfl rfl 2 (by decide) (hts (.fieldLink RX3 26 "ProofMarks" "pad" "LProofMarks$Pad;") (List.mem_of_getElem? (i := 1) rfl)) (fun _ h9 => h9) rfl dX3_carryOut_1 ?_
  have hP := pm_eqP (pm_cl_p y L S Bs pi kn Gs sv U) hP
  have hD := pm_eqD (pm_cl_p y L S Bs pi kn Gs sv U) hD
  have hPc := pm_cutP hP
  have hDc := pm_cutD hD
  refine va_calli (va_runV (As := []) (rest := []) ⟨hx, hb, hml, hown, hts⟩ (k_X1_faultAt l D y (L 3) U.1 U.2.1 U.2.2.1 U.2.2.2.1 U.2.2.2.2.1 U.2.2.2.2.2.1 U.2.2.2.2.2.2.1 U.2.2.2.2.2.2.2 hPI) (cwV 0 hts gX3_carryOut_X1_faultAt rfl rfl rfl hd_X1_faultAt ⟨Nat.le_of_ble_eq_true rfl, Nat.le_of_ble_eq_true rfl⟩) ⟨pm_wr_blind, va_recv hK hPc (ci := 1) (q0 := 0) rfl rfl, pm_wr_pre hPc hK hDc⟩ rfl rfl hl.1 rfl (lv_room (Nat.le_of_ble_eq_true rfl)) dX3_carryOut_4 ⟨Nat.le_of_ble_eq_true rfl, Nat.le_of_ble_eq_true rfl⟩) hS (fun q _ h9 => pm_ad_all hDc q h9) (pm_ad_all hDc) (fun r9 u6 t9 H1 locs ht9 _ h9 hB9 _ hk9 hS => ?_)
  obtain ⟨hP, hD⟩ := pm_mid (w' := pm_cP y L (U.1, U.2.1, u6)) hP hD hk9 (by rw [← ht9]; exact hB9) (rfl)
  have hP : va_P D vwCl (pm_cl y L S Bs pi kn Gs sv (U.1, U.2.1, u6)) H1 := pm_eqP (pm_cl_p y L S Bs pi kn Gs sv (U.1, U.2.1, u6)).symm hP
  have hD : va_D (pm_ad (pm_cl y L S Bs pi kn Gs sv U)) (pm_cl y L S Bs pi kn Gs sv (U.1, U.2.1, u6)) := pm_eqD (pm_cl_p y L S Bs pi kn Gs sv (U.1, U.2.1, u6)).symm hD
  obtain rfl : r9 = pm_fa U.1 U.2.1 := h9
  refine lv_bipush (v := (-6)) hx hb dX3_carryOut_7 (by decide) ?_
  refine lv_icmp_eq (tgt := 15) hx hb dX3_carryOut_9 (by decide) (fun c1 => ?_) (fun c1 => by exfalso; exact absurd (pm_fa_none hnf) (by assumption))
  refine lv_aload_n hx hb dX3_carryOut_15 rfl (lv_at hl 0 rfl) ?_
  refine va_get (D := D) (ci := 3) (v := .ref (L 1 0)) (C := RX3) (T := TX3) (N := 5) hx hb hts hin3 hown hK hP 0 rfl rfl 1 (by decide) (hts (.fieldLink RX3 19 "ProofMarks" "history" "LProofMarks$History;") (List.mem_of_getElem? (i := 2) rfl)) (fun _ h9 => h9) rfl dX3_carryOut_16 ?_
  refine lv_aload_n hx hb dX3_carryOut_19 rfl (lv_at hl 0 rfl) ?_
  refine va_get (D := D) (ci := 3) (v := .ref (L 2 0)) (C := RX3) (T := TX3) (N := 5) hx hb hts hin3 hown hK hP 0 rfl rfl 0 (by decide) (hts (.fieldLink RX3 10 "ProofMarks" "sheet" "LProofMarks$Sheet;") (List.mem_of_getElem? (i := 3) rfl)) (fun _ h9 => h9) rfl dX3_carryOut_20 ?_
  have hP := pm_eqP (pm_cl_hs y L S Bs pi kn Gs sv (U.1, U.2.1, u6)) hP
  have hD := pm_eqD (pm_cl_hs y L S Bs pi kn Gs sv (U.1, U.2.1, u6)) hD
  have hPc := pm_cutP hP
  have hDc := pm_cutD hD
  refine va_callv (va_runV (As := [.ref (L 2 0)]) (rest := []) ⟨hx, hb, hml, hown, hts⟩ (k_X0_note l D y (L 1) (pm_bL L) Bs pi kn (L 2) S hC.1 hC.2.2.1) (cwV 1 hts gX3_carryOut_X0_note rfl rfl rfl hd_X0_note ⟨Nat.le_of_ble_eq_true rfl, Nat.le_of_ble_eq_true rfl⟩) ⟨pm_wr_blind, va_recv hK hPc (ci := 0) (q0 := 0) rfl rfl, pm_wr_pre hPc hK hDc⟩ rfl rfl hl.1 rfl (lv_room (Nat.le_of_ble_eq_true rfl)) dX3_carryOut_23 ⟨Nat.le_of_ble_eq_true rfl, Nat.le_of_ble_eq_true rfl⟩) hS (fun q _ h9 => pm_ad_all hDc q h9) (pm_ad_all hDc) (fun u9 t9 H1 locs ht9 _ h9 hB9 _ hk9 hS => ?_)
  obtain ⟨hP, hD⟩ := pm_mid (w' := pm_hc y (L 1) (pm_bL L) (pm_ub Bs (pi kn) S) (pm_rf (pm_bL L) pi) kn (L 2) S) hP hD hk9 (by rw [← ht9]; exact hB9) (pm_hc_fst ..)
  have hP : va_P D vwCl (pm_cl y L S (pm_ub Bs (pi kn) S) pi kn Gs sv (U.1, U.2.1, u6)) H1 := pm_eqP (pm_cl_hs y L S (pm_ub Bs (pi kn) S) pi kn Gs sv (U.1, U.2.1, u6)).symm hP
  have hD : va_D (pm_ad (pm_cl y L S Bs pi kn Gs sv U)) (pm_cl y L S (pm_ub Bs (pi kn) S) pi kn Gs sv (U.1, U.2.1, u6)) := pm_eqD (pm_cl_hs y L S (pm_ub Bs (pi kn) S) pi kn Gs sv (U.1, U.2.1, u6)).symm hD
  replace hC := pm_CI_note S hC
  refine lv_aload_n hx hb dX3_carryOut_26 rfl (lv_at hl 0 rfl) ?_
  refine va_calli (va_runV (As := []) (rest := []) ⟨hx, hb, hml, hown, hts⟩ (k_X3_carryOrders l D y L S (pm_ub Bs (pi kn) S) pi kn Gs sv (U.1, U.2.1, u6) Hs Sl hI hPI hnf) (cwV 0 hts gX3_carryOut_X3_carryOrders rfl rfl rfl hd_X3_carryOrders ⟨Nat.le_of_ble_eq_true rfl, Nat.le_of_ble_eq_true rfl⟩) ⟨pm_wrn_blind, va_recv hK hP (ci := 3) (q0 := 0) rfl rfl, pm_wrn_pre hP hK hD hN⟩ rfl rfl hl.1 rfl (lv_room (Nat.le_of_ble_eq_true rfl)) dX3_carryOut_27 ⟨Nat.le_of_ble_eq_true rfl, Nat.le_of_ble_eq_true rfl⟩) hS (fun q _ h9 => pm_ad_all hD q h9) (pm_ad_all hD) (fun r9 u9 t9 H1 locs ht9 _ h9 hB9 _ hk9 hS => ?_)
  obtain ⟨h91, h92, h93, h94⟩ := h9
  have hP : va_P D vwCl (pm_cl y L (pm_rs S U.1 U.2.1 u9.1) (pm_ub Bs (pi kn) S) pi kn Gs sv (U.1, U.2.1, u9.2)) H1 := by rw [← ht9]; exact hB9
  have hD : va_D (pm_ad (pm_cl y L S Bs pi kn Gs sv U)) (pm_cl y L (pm_rs S U.1 U.2.1 u9.1) (pm_ub Bs (pi kn) S) pi kn Gs sv (U.1, U.2.1, u9.2)) := pm_D_same (pm_cl_fst ..) hD
  obtain rfl : r9 = nI u9.1 := h92
  refine lv_istore_n (lv' := [(1, .int (nI u9.1)), (0, .ref (L 0 0))]) hx hb dX3_carryOut_30 rfl hl (by decide) rfl (fun ls hl => ?_)
  refine lv_aload_n hx hb dX3_carryOut_31 rfl (lv_at hl 1 rfl) ?_
  refine va_get (D := D) (ci := 3) (v := .ref (L 3 0)) (C := RX3) (T := TX3) (N := 5) hx hb hts hin3 hown hK hP 0 rfl rfl 2 (by decide) (hts (.fieldLink RX3 26 "ProofMarks" "pad" "LProofMarks$Pad;") (List.mem_of_getElem? (i := 1) rfl)) (fun _ h9 => h9) rfl dX3_carryOut_32 ?_
  clear hk9 hB9 ht9
  have hP := pm_eqP (pm_cl_p y L (pm_rs S U.1 U.2.1 u9.1) (pm_ub Bs (pi kn) S) pi kn Gs sv (U.1, U.2.1, u9.2)) hP
  have hD := pm_eqD (pm_cl_p y L (pm_rs S U.1 U.2.1 u9.1) (pm_ub Bs (pi kn) S) pi kn Gs sv (U.1, U.2.1, u9.2)) hD
  have hPc := pm_cutP hP
  have hDc := pm_cutD hD
  refine va_calli (va_runV (As := []) (rest := []) ⟨hx, hb, hml, hown, hts⟩ (k_X1_empty l D y (L 3) U.1 U.2.1 u9.2.1 u9.2.2.1 u9.2.2.2.1 u9.2.2.2.2.1 u9.2.2.2.2.2.1 u9.2.2.2.2.2.2) (cwV 0 hts gX3_carryOut_X1_empty rfl rfl rfl hd_X1_empty ⟨Nat.le_of_ble_eq_true rfl, Nat.le_of_ble_eq_true rfl⟩) ⟨pm_wr_blind, va_recv hK hPc (ci := 1) (q0 := 0) rfl rfl, pm_wr_pre hPc hK hDc⟩ rfl rfl hl.1 rfl (lv_room (Nat.le_of_ble_eq_true rfl)) dX3_carryOut_35 ⟨Nat.le_of_ble_eq_true rfl, Nat.le_of_ble_eq_true rfl⟩) hS (fun q _ h9 => pm_ad_all hDc q h9) (pm_ad_all hDc) (fun r7 u7 t9 H1 locs ht9 _ h7 hB9 _ hk9 hS => ?_)
  obtain ⟨hP, hD⟩ := pm_mid (w' := pm_cP y L (U.1, 0, u9.2)) hP hD hk9 (by rw [← ht9]; exact hB9) (rfl)
  have hP : va_P D vwCl (pm_cl y L (pm_rs S U.1 U.2.1 u9.1) (pm_ub Bs (pi kn) S) pi kn Gs sv (U.1, 0, u9.2)) H1 := pm_eqP (pm_cl_p y L (pm_rs S U.1 U.2.1 u9.1) (pm_ub Bs (pi kn) S) pi kn Gs sv (U.1, 0, u9.2)).symm hP
  have hD : va_D (pm_ad (pm_cl y L S Bs pi kn Gs sv U)) (pm_cl y L (pm_rs S U.1 U.2.1 u9.1) (pm_ub Bs (pi kn) S) pi kn Gs sv (U.1, 0, u9.2)) := pm_eqD (pm_cl_p y L (pm_rs S U.1 U.2.1 u9.1) (pm_ub Bs (pi kn) S) pi kn Gs sv (U.1, 0, u9.2)).symm hD
  refine lv_pop hx hb dX3_carryOut_38 rfl ?_
  refine lv_aload_n hx hb dX3_carryOut_39 rfl (lv_at hl 1 rfl) ?_
  refine lv_iload_n hx hb dX3_carryOut_40 rfl (lv_at hl 0 rfl) ?_
  refine va_calli (va_runV (As := [.int (nI u9.1)]) (rest := []) ⟨hx, hb, hml, hown, hts⟩ (k_X3_recorded l D y L (pm_rs S U.1 U.2.1 u9.1) (pm_ub Bs (pi kn) S) pi kn Gs sv (U.1, 0, u9.2) Hs Sl (nI u9.1) hC) (cwV 1 hts gX3_carryOut_X3_recorded rfl rfl rfl hd_X3_recorded ⟨Nat.le_of_ble_eq_true rfl, Nat.le_of_ble_eq_true rfl⟩) ⟨pm_wr_blind, va_recv hK hP (ci := 3) (q0 := 0) rfl rfl, pm_wr_pre hP hK hD⟩ rfl rfl hl.1 rfl (lv_room (Nat.le_of_ble_eq_true rfl)) dX3_carryOut_41 ⟨Nat.le_of_ble_eq_true rfl, Nat.le_of_ble_eq_true rfl⟩) hS (fun q _ h9 => pm_ad_all hD q h9) (pm_ad_all hD) (fun r8 u8 t8 H2 locs ht8 _ h8 hB8 _ hk8 hS => ?_)
  have hP : va_P D vwCl (pm_cl y L (pm_rs S U.1 U.2.1 u9.1) (pm_ub Bs (pi kn) S) (pm_rp pi kn (nI u9.1)) (pm_rk kn (nI u9.1)) Gs sv (U.1, 0, u9.2)) H2 := by rw [← ht8]; exact hB8
  have hD : va_D (pm_ad (pm_cl y L S Bs pi kn Gs sv U)) (pm_cl y L (pm_rs S U.1 U.2.1 u9.1) (pm_ub Bs (pi kn) S) (pm_rp pi kn (nI u9.1)) (pm_rk kn (nI u9.1)) Gs sv (U.1, 0, u9.2)) := pm_D_same (pm_cl_fst ..) hD
  obtain rfl : r8 = nI u9.1 := h8
  have hn7 : ¬ nI u9.1 < 0 := nI_pos (by omega)
  have Epi : pm_rp pi kn (nI u9.1) = pm_kp pi kn := if_neg hn7
  have Ekn : pm_rk kn (nI u9.1) = pm_kn kn := if_neg hn7
  rw [Epi, Ekn] at hP
  exact W.iret hx hb hr (fun t ht _ => ⟨⟨_, u9, rfl, ⟨rfl, h93, h94⟩, (by show va_P D vwCl (pm_cl y L (pm_rs S U.1 U.2.1 u9.1) (pm_ub Bs (pi kn) S) (pm_kp pi kn) (pm_kn kn) Gs sv (U.1, 0, u9.2)) t.heap; rw [ht]; exact hP)⟩, hS.F ht⟩) hS.2.2 dX3_carryOut_44

set_option maxHeartbeats 4000000 in
set_option maxRecDepth 100000 in
theorem k_X3_undo_0 (l : Launch) (D : va_G) (y : Nat → ClassId) (L : Nat → Nat → Nat) (S : Nat → Nat → Nat) (Bs : Nat → Nat → Nat → Nat) (pi : Nat → Nat) (kn : Nat) (Gs : Nat → Nat → Nat → Nat) (sv : Nat → Nat) (U : pm_PT) (Hs Sl : Nat → Nat → Nat → Nat) (h0 : kn = 0) : Met l yX3_undo wsX3_undo ({ frames := 0, cells := 0, slots := 0, locals := 0 } : Room) (pm_ron D (pm_ty y) [.ref (L 0 0)] (pm_cl y L S Bs pi kn Gs sv U)) (vp_Si (fun r : Int32 => r = -5)) 0 0 (fun _ => False) := by
  refine Met.ofW (cc := cX3_undo) (maxL := 1) (ret := (some .int)) (by decide) rfl ?_
  intro p e s m args below meth c s₁ B hml hpre
  obtain ⟨rfl, ⟨hP, hK⟩, hN⟩ := hpre
  have hx := B.exec
  have hb := B.bytes
  have hr := B.returns
  have hts := atoms_spec (ws := wsX3_undo) B.pre
  have hown : s.vm.findClass RX3 = some m.cls := findClass_of_methodNamed B.named
  have hlocks := B.notSynchronized
  have hin3 : ∀ w ∈ u_ws RX3 TX3 5, w ∈ wsX3_undo := fun w h => List.mem_cons_of_mem _ (List.mem_append_left _ (List.mem_append_left _ (List.mem_append_right _ h)))
  have hin0 : ∀ w ∈ u_ws RX0 TX0 2, w ∈ wsX3_undo := fun w h => List.mem_cons_of_mem _ (List.mem_append_left _ (List.mem_append_right _ h))
  have hin2 : ∀ w ∈ u_ws RX2 TX2 15, w ∈ wsX3_undo := fun w h => List.mem_cons_of_mem _ (List.mem_append_right _ h)
  have hP : va_P D vwCl (pm_cl y L S Bs pi kn Gs sv U) s.heap := hP
  have hl := lv_entry ([.ref (L 0 0)]) (n := 1) (Nat.le_of_ble_eq_true rfl)
  rw [lg_entry_eq]
  generalize (lg_sl ([.ref (L 0 0)]) ++ List.replicate (1 - (lg_sl ([.ref (L 0 0)])).length) Slot.unset).toArray = ls at hl ⊢
  have hl : lv_has ls 1 [(0, .ref (L 0 0))] := hl
  refine lv_aload_n hx hb dX3_undo_0 rfl (lv_at hl 0 rfl) ?_
  refine va_get (D := D) (ci := 3) (v := .ref (L 1 0)) (C := RX3) (T := TX3) (N := 5) hx hb hts hin3 hown hK hP 0 rfl rfl 1 (by decide) (hts (.fieldLink RX3 19 "ProofMarks" "history" "LProofMarks$History;") (List.mem_of_getElem? (i := 1) rfl)) (fun _ h9 => h9) rfl dX3_undo_1 ?_
  have hPc := pm_cutP (pm_eqP (pm_cl_h y L S Bs pi kn Gs sv U) hP)
  refine va_getN (host := "ProofMarks") (D := D) (ci := 0) (v := .int (nI kn)) (C := RX0) (T := TX0) (N := 2) hx hb hts hin0 hown hK hPc 0 rfl rfl 1 (by decide) (hN.use 1 rfl) (fun _ h9 => h9) rfl dX3_undo_4 ?_
  refine kx_if_ne (tgt := 13) hx hb (by omega) dX3_undo_7 (by decide) (fun c1 => by exfalso; omega) (fun c1 => ?_)
  refine lv_bipush (v := (-5)) hx hb dX3_undo_10 (by decide) ?_
  exact W.iret hx hb hr (fun t ht _ => ⟨_, rfl, rfl, ht⟩) (fun _ h => absurd h List.not_mem_nil) dX3_undo_12

set_option maxHeartbeats 4000000 in
set_option maxRecDepth 100000 in
theorem k_X3_undo (l : Launch) (D : va_G) (y : Nat → ClassId) (L : Nat → Nat → Nat) (S : Nat → Nat → Nat) (Bs : Nat → Nat → Nat → Nat) (pi : Nat → Nat) (kn : Nat) (Gs : Nat → Nat → Nat → Nat) (sv : Nat → Nat) (U : pm_PT) (Hs Sl : Nat → Nat → Nat → Nat) (hC : pm_CI Bs pi kn Gs sv Hs Sl) (hk0 : 0 < kn) : Met l yX3_undo wsX3_undo ({ frames := 3, cells := 0, slots := 0, locals := 60 } : Room) (pm_wrn D (pm_ty y) [.ref (L 0 0)] (pm_cl y L S Bs pi kn Gs sv U)) (pm_Qi D (fun (r : Int32) (_ : Unit) => r = nI (kn - 1)) (fun (_ : Unit) => pm_cl y L (Bs (pi (kn - 1))) Bs pi (kn - 1) Gs sv U) (pm_cl y L S Bs pi kn Gs sv U)) 0 0 (pm_ad (pm_cl y L S Bs pi kn Gs sv U)) := by
  refine Met.ofW (cc := cX3_undo) (maxL := 1) (ret := (some .int)) (by decide) rfl ?_
  intro p e s m args below meth c s₁ B hml hpre
  obtain ⟨rfl, ⟨hP, hK, hD0⟩, hN⟩ := hpre
  have hx := B.exec
  have hb := B.bytes
  have hr := B.returns
  have hts := atoms_spec (ws := wsX3_undo) B.pre
  have hown : s.vm.findClass RX3 = some m.cls := findClass_of_methodNamed B.named
  have hlocks := B.notSynchronized
  have hin3 : ∀ w ∈ u_ws RX3 TX3 5, w ∈ wsX3_undo := fun w h => List.mem_cons_of_mem _ (List.mem_append_left _ (List.mem_append_left _ (List.mem_append_right _ h)))
  have hin0 : ∀ w ∈ u_ws RX0 TX0 2, w ∈ wsX3_undo := fun w h => List.mem_cons_of_mem _ (List.mem_append_left _ (List.mem_append_right _ h))
  have hin2 : ∀ w ∈ u_ws RX2 TX2 15, w ∈ wsX3_undo := fun w h => List.mem_cons_of_mem _ (List.mem_append_right _ h)
  have hD := pm_ad_self hD0
  have hS : va_S (pm_ad (pm_cl y L S Bs pi kn Gs sv U)) s.heap s.heap [] := va_S.rf
  have hP : va_P D vwCl (pm_cl y L S Bs pi kn Gs sv U) s.heap := hP
  have hl := lv_entry ([.ref (L 0 0)]) (n := 1) (Nat.le_of_ble_eq_true rfl)
  rw [lg_entry_eq]
  generalize (lg_sl ([.ref (L 0 0)]) ++ List.replicate (1 - (lg_sl ([.ref (L 0 0)])).length) Slot.unset).toArray = ls at hl ⊢
  have hl : lv_has ls 1 [(0, .ref (L 0 0))] := hl
  have hk6 := hC.2.2.1
  refine lv_aload_n hx hb dX3_undo_0 rfl (lv_at hl 0 rfl) ?_
  refine va_get (D := D) (ci := 3) (v := .ref (L 1 0)) (C := RX3) (T := TX3) (N := 5) hx hb hts hin3 hown hK hP 0 rfl rfl 1 (by decide) (hts (.fieldLink RX3 19 "ProofMarks" "history" "LProofMarks$History;") (List.mem_of_getElem? (i := 1) rfl)) (fun _ h9 => h9) rfl dX3_undo_1 ?_
  have hPc := pm_cutP (pm_eqP (pm_cl_h y L S Bs pi kn Gs sv U) hP)
  refine va_getN (host := "ProofMarks") (D := D) (ci := 0) (v := .int (nI kn)) (C := RX0) (T := TX0) (N := 2) hx hb hts hin0 hown hK hPc 0 rfl rfl 1 (by decide) (hN.use 1 rfl) (fun _ h9 => h9) rfl dX3_undo_4 ?_
  refine kx_if_ne (tgt := 13) hx hb (by omega) dX3_undo_7 (by decide) (fun c1 => ?_) (fun c1 => by exfalso; omega)
  refine lv_aload_n hx hb dX3_undo_13 rfl (lv_at hl 0 rfl) ?_
  refine va_get (D := D) (ci := 3) (v := .ref (L 1 0)) (C := RX3) (T := TX3) (N := 5) hx hb hts hin3 hown hK hP 0 rfl rfl 1 (by decide) (hts (.fieldLink RX3 19 "ProofMarks" "history" "LProofMarks$History;") (List.mem_of_getElem? (i := 1) rfl)) (fun _ h9 => h9) rfl dX3_undo_14 ?_
  refine lv_aload_n hx hb dX3_undo_17 rfl (lv_at hl 0 rfl) ?_
  refine va_get (D := D) (ci := 3) (v := .ref (L 2 0)) (C := RX3) (T := TX3) (N := 5) hx hb hts hin3 hown hK hP 0 rfl rfl 0 (by decide) (hts (.fieldLink RX3 10 "ProofMarks" "sheet" "LProofMarks$Sheet;") (List.mem_of_getElem? (i := 2) rfl)) (fun _ h9 => h9) rfl dX3_undo_18 ?_
  have hP := pm_eqP (pm_cl_hs y L S Bs pi kn Gs sv U) hP
  have hD := pm_eqD (pm_cl_hs y L S Bs pi kn Gs sv U) hD
  have hPc := pm_cutP hP
  have hDc := pm_cutD hD
  refine va_callv (va_runV (As := [.ref (L 2 0)]) (rest := []) ⟨hx, hb, hml, hown, hts⟩ (k_X0_bringBack l D y (L 1) (pm_bL L) Bs pi kn (L 2) S hC.1 hC.2.2.1 hk0) (cwV 1 hts gX3_undo_X0_bringBack rfl rfl rfl hd_X0_bringBack ⟨Nat.le_of_ble_eq_true rfl, Nat.le_of_ble_eq_true rfl⟩) ⟨pm_wr_blind, va_recv hK hPc (ci := 0) (q0 := 0) rfl rfl, pm_wr_pre hPc hK hDc⟩ rfl rfl hl.1 rfl (lv_room (Nat.le_of_ble_eq_true rfl)) dX3_undo_21 ⟨Nat.le_of_ble_eq_true rfl, Nat.le_of_ble_eq_true rfl⟩) hS (fun q _ h9 => pm_ad_all hDc q h9) (pm_ad_all hDc) (fun u9 t9 H1 locs ht9 _ h9 hB9 _ hk9 hS => ?_)
  obtain ⟨hP, hD⟩ := pm_mid (w' := pm_hc y (L 1) (pm_bL L) Bs (pm_rf (pm_bL L) pi) (kn - 1) (L 2) (Bs (pi (kn - 1)))) hP hD hk9 (by rw [← ht9]; exact hB9) (pm_hc_fst ..)
  have hP : va_P D vwCl (pm_cl y L (Bs (pi (kn - 1))) Bs pi (kn - 1) Gs sv U) H1 := pm_eqP (pm_cl_hs y L (Bs (pi (kn - 1))) Bs pi (kn - 1) Gs sv U).symm hP
  have hD : va_D (pm_ad (pm_cl y L S Bs pi kn Gs sv U)) (pm_cl y L (Bs (pi (kn - 1))) Bs pi (kn - 1) Gs sv U) := pm_eqD (pm_cl_hs y L (Bs (pi (kn - 1))) Bs pi (kn - 1) Gs sv U).symm hD
  refine lv_aload_n hx hb dX3_undo_24 rfl (lv_at hl 0 rfl) ?_
  refine va_get (D := D) (ci := 3) (v := .ref (L 1 0)) (C := RX3) (T := TX3) (N := 5) hx hb hts hin3 hown hK hP 0 rfl rfl 1 (by decide) (hts (.fieldLink RX3 19 "ProofMarks" "history" "LProofMarks$History;") (List.mem_of_getElem? (i := 1) rfl)) (fun _ h9 => h9) rfl dX3_undo_25 ?_
  have hPc := pm_cutP (pm_eqP (pm_cl_h y L (Bs (pi (kn - 1))) Bs pi (kn - 1) Gs sv U) hP)
  refine va_getN (host := "ProofMarks") (D := D) (ci := 0) (v := .int (nI (kn - 1))) (C := RX0) (T := TX0) (N := 2) hx hb hts hin0 hown hK hPc 0 rfl rfl 1 (by decide) (hN.use 1 rfl) (fun _ h9 => h9) rfl dX3_undo_28 ?_
  exact W.iret hx hb hr (fun t ht _ => ⟨⟨_, (), rfl, rfl, (by show va_P D vwCl (pm_cl y L (Bs (pi (kn - 1))) Bs pi (kn - 1) Gs sv U) t.heap; rw [ht]; exact hP)⟩, hS.F ht⟩) hS.2.2 dX3_undo_31

set_option maxHeartbeats 4000000 in
set_option maxRecDepth 100000 in
theorem k_X3_save_o (l : Launch) (D : va_G) (y : Nat → ClassId) (L : Nat → Nat → Nat) (S : Nat → Nat → Nat) (Bs : Nat → Nat → Nat → Nat) (pi : Nat → Nat) (kn : Nat) (Gs : Nat → Nat → Nat → Nat) (sv : Nat → Nat) (U : pm_PT) (Hs Sl : Nat → Nat → Nat → Nat) (xs : Int32) (ho : xs < 0 ∨ nI 2 ≤ xs) : Met l yX3_save wsX3_save ({ frames := 1, cells := 0, slots := 0, locals := 20 } : Room) (pm_ron D (pm_ty y) [.ref (L 0 0), .int xs] (pm_cl y L S Bs pi kn Gs sv U)) (vp_Si (fun r : Int32 => r = -2)) 0 0 (fun _ => False) := by
  refine Met.ofW (cc := cX3_save) (maxL := 2) (ret := (some .int)) (by decide) rfl ?_
  intro p e s m args below meth c s₁ B hml hpre
  obtain ⟨rfl, ⟨hP, hK⟩, hN⟩ := hpre
  have hx := B.exec
  have hb := B.bytes
  have hr := B.returns
  have hts := atoms_spec (ws := wsX3_save) B.pre
  have hown : s.vm.findClass RX3 = some m.cls := findClass_of_methodNamed B.named
  have hlocks := B.notSynchronized
  have hin3 : ∀ w ∈ u_ws RX3 TX3 5, w ∈ wsX3_save := fun w h => List.mem_cons_of_mem _ (List.mem_append_left _ (List.mem_append_right _ h))
  have hin2 : ∀ w ∈ u_ws RX2 TX2 15, w ∈ wsX3_save := fun w h => List.mem_cons_of_mem _ (List.mem_append_right _ h)
  have hP : va_P D vwCl (pm_cl y L S Bs pi kn Gs sv U) s.heap := hP
  have hl := lv_entry ([.ref (L 0 0), .int xs]) (n := 2) (Nat.le_of_ble_eq_true rfl)
  rw [lg_entry_eq]
  generalize (lg_sl ([.ref (L 0 0), .int xs]) ++ List.replicate (2 - (lg_sl ([.ref (L 0 0), .int xs])).length) Slot.unset).toArray = ls at hl ⊢
  have hl : lv_has ls 2 [(0, .ref (L 0 0)), (1, .int xs)] := hl
  refine lv_iload_n hx hb dX3_save_0 rfl (lv_at hl 1 rfl) ?_
  refine vp_callSi (W.runS (As := [.int xs]) (rest := []) ⟨hx, hb, hml, hown, hts⟩ (k_X3_isSlot l xs) (va_cwS 1 hts gX3_save_X3_isSlot rfl rfl rfl hd_X3_isSlot ⟨Nat.le_of_ble_eq_true rfl, Nat.le_of_ble_eq_true rfl⟩) ⟨pm_no_blind, pm_no_pre⟩ rfl rfl hl.1 rfl (lv_room (Nat.le_of_ble_eq_true rfl)) dX3_save_1 ⟨Nat.le_of_ble_eq_true rfl, Nat.le_of_ble_eq_true rfl⟩) (fun r9 h9 => ?_)
  rcases h9 with ⟨j9, hj9, ej9, rfl⟩ | ⟨ho9, rfl⟩
  · exact (pm_io (by decide) hj9 ej9 ho).elim
  · skip
    refine lv_if_ne (tgt := 10) hx hb dX3_save_4 (by decide) (fun c1 => (c1 (by decide)).elim) (fun _ => ?_)
    refine lv_bipush (v := (-2)) hx hb dX3_save_7 (by decide) ?_
    exact W.iret hx hb hr (fun t ht _ => ⟨_, rfl, rfl, ht⟩) (fun _ h => absurd h List.not_mem_nil) dX3_save_9

set_option maxHeartbeats 4000000 in
set_option maxRecDepth 100000 in
theorem k_X3_save (l : Launch) (D : va_G) (y : Nat → ClassId) (L : Nat → Nat → Nat) (S : Nat → Nat → Nat) (Bs : Nat → Nat → Nat → Nat) (pi : Nat → Nat) (kn : Nat) (Gs : Nat → Nat → Nat → Nat) (sv : Nat → Nat) (U : pm_PT) (Hs Sl : Nat → Nat → Nat → Nat) (j : Nat) (hj : j < 2) : Met l yX3_save wsX3_save ({ frames := 2, cells := 0, slots := 0, locals := 39 } : Room) (pm_wrn D (pm_ty y) [.ref (L 0 0), .int (nI j)] (pm_cl y L S Bs pi kn Gs sv U)) (pm_Qi D (fun (r : Int32) (_ : Unit) => r = nI (S 10 0)) (fun (_ : Unit) => pm_cl y L S Bs pi kn (pm_ub Gs j S) (updN sv j 1) U) (pm_cl y L S Bs pi kn Gs sv U)) 0 0 (pm_ad (pm_cl y L S Bs pi kn Gs sv U)) := by
  refine Met.ofW (cc := cX3_save) (maxL := 2) (ret := (some .int)) (by decide) rfl ?_
  intro p e s m args below meth c s₁ B hml hpre
  obtain ⟨rfl, ⟨hP, hK, hD0⟩, hN⟩ := hpre
  have hx := B.exec
  have hb := B.bytes
  have hr := B.returns
  have hts := atoms_spec (ws := wsX3_save) B.pre
  have hown : s.vm.findClass RX3 = some m.cls := findClass_of_methodNamed B.named
  have hlocks := B.notSynchronized
  have hin3 : ∀ w ∈ u_ws RX3 TX3 5, w ∈ wsX3_save := fun w h => List.mem_cons_of_mem _ (List.mem_append_left _ (List.mem_append_right _ h))
  have hin2 : ∀ w ∈ u_ws RX2 TX2 15, w ∈ wsX3_save := fun w h => List.mem_cons_of_mem _ (List.mem_append_right _ h)
  have hD := pm_ad_self hD0
  have hS : va_S (pm_ad (pm_cl y L S Bs pi kn Gs sv U)) s.heap s.heap [] := va_S.rf
  have hP : va_P D vwCl (pm_cl y L S Bs pi kn Gs sv U) s.heap := hP
  have hl := lv_entry ([.ref (L 0 0), .int (nI j)]) (n := 2) (Nat.le_of_ble_eq_true rfl)
  rw [lg_entry_eq]
  generalize (lg_sl ([.ref (L 0 0), .int (nI j)]) ++ List.replicate (2 - (lg_sl ([.ref (L 0 0), .int (nI j)])).length) Slot.unset).toArray = ls at hl ⊢
  have hl : lv_has ls 2 [(0, .ref (L 0 0)), (1, .int (nI j))] := hl
  refine lv_iload_n hx hb dX3_save_0 rfl (lv_at hl 1 rfl) ?_
  refine vp_callSi (W.runS (As := [.int (nI j)]) (rest := []) ⟨hx, hb, hml, hown, hts⟩ (k_X3_isSlot l (nI j)) (va_cwS 1 hts gX3_save_X3_isSlot rfl rfl rfl hd_X3_isSlot ⟨Nat.le_of_ble_eq_true rfl, Nat.le_of_ble_eq_true rfl⟩) ⟨pm_no_blind, pm_no_pre⟩ rfl rfl hl.1 rfl (lv_room (Nat.le_of_ble_eq_true rfl)) dX3_save_1 ⟨Nat.le_of_ble_eq_true rfl, Nat.le_of_ble_eq_true rfl⟩) (fun r9 h9 => ?_)
  rcases h9 with ⟨j9, hj9, ej9, rfl⟩ | ⟨ho9, rfl⟩
  · skip
    refine lv_if_ne (tgt := 10) hx hb dX3_save_4 (by decide) (fun _ => ?_) (fun c1 => absurd c1 (by decide))
    refine lv_aload_n hx hb dX3_save_10 rfl (lv_at hl 0 rfl) ?_
    refine va_get (D := D) (ci := 3) (v := .ref (L 0 1)) (C := RX3) (T := TX3) (N := 5) hx hb hts hin3 hown hK hP 0 rfl rfl 3 (by decide) (hts (.fieldLink RX3 30 "ProofMarks" "slots" "[LProofMarks$Sheet;") (List.mem_of_getElem? (i := 1) rfl)) (fun _ h9 => h9) rfl dX3_save_11 ?_
    refine lv_iload_n hx hb dX3_save_14 rfl (lv_at hl 1 rfl) ?_
    have hPg : va_P D vwCl (pm_cG y L Gs sv) s.heap := pm_P_mem hP (fun z hz => (pm_cl_g y L S Bs pi kn Gs sv U).symm.subset (List.mem_append_left _ hz))
    refine kx_aald (v := pm_gL L j 0) hx hb hK hPg 0 3 rfl rfl (by omega) (by decide) rfl dX3_save_15 ?_
    refine lv_aload_n hx hb dX3_save_16 rfl (lv_at hl 0 rfl) ?_
    refine va_get (D := D) (ci := 3) (v := .ref (L 2 0)) (C := RX3) (T := TX3) (N := 5) hx hb hts hin3 hown hK hP 0 rfl rfl 0 (by decide) (hts (.fieldLink RX3 10 "ProofMarks" "sheet" "LProofMarks$Sheet;") (List.mem_of_getElem? (i := 2) rfl)) (fun _ h9 => h9) rfl dX3_save_17 ?_
    have hP := pm_permP (pm_cl_t y L S Bs pi kn Gs sv U hj) hP
    have hD := pm_permD (pm_cl_t y L S Bs pi kn Gs sv U hj) hD
    have hPc := pm_cutP hP
    have hDc := pm_cutD hD
    refine va_callv (va_runV (As := [.ref (L 2 0)]) (rest := []) ⟨hx, hb, hml, hown, hts⟩ (k_X2_takeOver l D y (pm_gL L j) (L 2) (Gs j) S) (cwV 1 hts gX3_save_X2_takeOver rfl rfl rfl hd_X2_takeOver ⟨Nat.le_of_ble_eq_true rfl, Nat.le_of_ble_eq_true rfl⟩) ⟨pm_wr_blind, va_recv hK hPc (ci := 2) (q0 := 0) rfl rfl, pm_wr_pre hPc hK hDc⟩ rfl rfl hl.1 rfl (lv_room (Nat.le_of_ble_eq_true rfl)) dX3_save_20 ⟨Nat.le_of_ble_eq_true rfl, Nat.le_of_ble_eq_true rfl⟩) hS (fun q _ h9 => pm_ad_all hDc q h9) (pm_ad_all hDc) (fun u9 t9 H1 locs ht9 _ h9 hB9 _ hk9 hS => ?_)
    obtain ⟨hP, hD⟩ := pm_mid (w' := pm_shS y (pm_gL L j) S ++ pm_shS y (L 2) S) hP hD hk9 (by rw [← ht9]; exact hB9) rfl
    have hP : va_P D vwCl (pm_cl y L S Bs pi kn (pm_ub Gs j S) sv U) H1 := pm_permP (pm_cl_v y L S Bs pi kn Gs sv U hj S) hP
    have hD : va_D (pm_ad (pm_cl y L S Bs pi kn Gs sv U)) (pm_cl y L S Bs pi kn (pm_ub Gs j S) sv U) := pm_permD (pm_cl_v y L S Bs pi kn Gs sv U hj S) hD
    refine lv_aload_n hx hb dX3_save_23 rfl (lv_at hl 0 rfl) ?_
    refine va_get (D := D) (ci := 3) (v := .ref (L 0 2)) (C := RX3) (T := TX3) (N := 5) hx hb hts hin3 hown hK hP 0 rfl rfl 4 (by decide) (hts (.fieldLink RX3 34 "ProofMarks" "saved" "[Z") (List.mem_of_getElem? (i := 3) rfl)) (fun _ h9 => h9) rfl dX3_save_24 ?_
    refine lv_iload_n hx hb dX3_save_27 rfl (lv_at hl 1 rfl) ?_
    refine lv_iconst (v := nI 1) hx hb dX3_save_28 (by decide) ?_
    have hP := pm_permP (pm_cl_g y L S Bs pi kn (pm_ub Gs j S) sv U) hP
    have hD := pm_permD (pm_cl_g y L S Bs pi kn (pm_ub Gs j S) sv U) hD
    refine kx_zast1 (ws' := pm_cG y L (pm_ub Gs j S) (updN sv j 1) ++ (pm_cO L ++ (pm_cH y L Bs pi kn ++ (pm_shS y (L 2) S ++ pm_cP y L U)))) hx hb hK hP hD hS 1 2 rfl rfl (by omega) (by decide) (pm_vn_u _ _ _) rfl dX3_save_29 (fun H1 locs hP hD hS => ?_)
    have hP : va_P D vwCl (pm_cl y L S Bs pi kn (pm_ub Gs j S) (updN sv j 1) U) H1 := pm_permP (pm_cl_g y L S Bs pi kn (pm_ub Gs j S) (updN sv j 1) U).symm hP
    have hD : va_D (pm_ad (pm_cl y L S Bs pi kn Gs sv U)) (pm_cl y L S Bs pi kn (pm_ub Gs j S) (updN sv j 1) U) := pm_permD (pm_cl_g y L S Bs pi kn (pm_ub Gs j S) (updN sv j 1) U).symm hD
    refine lv_aload_n hx hb dX3_save_30 rfl (lv_at hl 0 rfl) ?_
    refine va_get (D := D) (ci := 3) (v := .ref (L 2 0)) (C := RX3) (T := TX3) (N := 5) hx hb hts hin3 hown hK hP 0 rfl rfl 0 (by decide) (hts (.fieldLink RX3 10 "ProofMarks" "sheet" "LProofMarks$Sheet;") (List.mem_of_getElem? (i := 2) rfl)) (fun _ h9 => h9) rfl dX3_save_31 ?_
    have hPc := pm_cutP (pm_eqP (pm_cl_s y L S Bs pi kn (pm_ub Gs j S) (updN sv j 1) U) hP)
    refine va_getN (host := "ProofMarks") (D := D) (ci := 2) (v := .int (nI (S 10 0))) (C := RX2) (T := TX2) (N := 15) hx hb hts hin2 hown hK hPc 0 rfl rfl 12 (by decide) (hN.use 0 rfl) (fun _ h9 => h9) rfl dX3_save_34 ?_
    exact W.iret hx hb hr (fun t ht _ => ⟨⟨_, (), rfl, rfl, (by show va_P D vwCl (pm_cl y L S Bs pi kn (pm_ub Gs j S) (updN sv j 1) U) t.heap; rw [ht]; exact hP)⟩, hS.F ht⟩) hS.2.2 dX3_save_37
  · exact absurd (pm_rout (by omega) (by decide) ho9) (by omega)

set_option maxHeartbeats 4000000 in
set_option maxRecDepth 100000 in
theorem k_X3_restore_o (l : Launch) (D : va_G) (y : Nat → ClassId) (L : Nat → Nat → Nat) (S : Nat → Nat → Nat) (Bs : Nat → Nat → Nat → Nat) (pi : Nat → Nat) (kn : Nat) (Gs : Nat → Nat → Nat → Nat) (sv : Nat → Nat) (U : pm_PT) (Hs Sl : Nat → Nat → Nat → Nat) (xs : Int32) (ho : xs < 0 ∨ nI 2 ≤ xs) : Met l yX3_restore wsX3_restore ({ frames := 1, cells := 0, slots := 0, locals := 20 } : Room) (pm_ron D (pm_ty y) [.ref (L 0 0), .int xs] (pm_cl y L S Bs pi kn Gs sv U)) (vp_Si (fun r : Int32 => r = -2)) 0 0 (fun _ => False) := by
  refine Met.ofW (cc := cX3_restore) (maxL := 2) (ret := (some .int)) (by decide) rfl ?_
  intro p e s m args below meth c s₁ B hml hpre
  obtain ⟨rfl, ⟨hP, hK⟩, hN⟩ := hpre
  have hx := B.exec
  have hb := B.bytes
  have hr := B.returns
  have hts := atoms_spec (ws := wsX3_restore) B.pre
  have hown : s.vm.findClass RX3 = some m.cls := findClass_of_methodNamed B.named
  have hlocks := B.notSynchronized
  have hin3 : ∀ w ∈ u_ws RX3 TX3 5, w ∈ wsX3_restore := fun w h => List.mem_cons_of_mem _ (List.mem_append_left _ (List.mem_append_left _ (List.mem_append_right _ h)))
  have hin2 : ∀ w ∈ u_ws RX2 TX2 15, w ∈ wsX3_restore := fun w h => List.mem_cons_of_mem _ (List.mem_append_left _ (List.mem_append_right _ h))
  have hin0 : ∀ w ∈ u_ws RX0 TX0 2, w ∈ wsX3_restore := fun w h => List.mem_cons_of_mem _ (List.mem_append_right _ h)
  have hP : va_P D vwCl (pm_cl y L S Bs pi kn Gs sv U) s.heap := hP
  have hl := lv_entry ([.ref (L 0 0), .int xs]) (n := 2) (Nat.le_of_ble_eq_true rfl)
  rw [lg_entry_eq]
  generalize (lg_sl ([.ref (L 0 0), .int xs]) ++ List.replicate (2 - (lg_sl ([.ref (L 0 0), .int xs])).length) Slot.unset).toArray = ls at hl ⊢
  have hl : lv_has ls 2 [(0, .ref (L 0 0)), (1, .int xs)] := hl
  refine lv_iload_n hx hb dX3_restore_0 rfl (lv_at hl 1 rfl) ?_
  refine vp_callSi (W.runS (As := [.int xs]) (rest := []) ⟨hx, hb, hml, hown, hts⟩ (k_X3_isSlot l xs) (va_cwS 1 hts gX3_restore_X3_isSlot rfl rfl rfl hd_X3_isSlot ⟨Nat.le_of_ble_eq_true rfl, Nat.le_of_ble_eq_true rfl⟩) ⟨pm_no_blind, pm_no_pre⟩ rfl rfl hl.1 rfl (lv_room (Nat.le_of_ble_eq_true rfl)) dX3_restore_1 ⟨Nat.le_of_ble_eq_true rfl, Nat.le_of_ble_eq_true rfl⟩) (fun r9 h9 => ?_)
  rcases h9 with ⟨j9, hj9, ej9, rfl⟩ | ⟨ho9, rfl⟩
  · exact (pm_io (by decide) hj9 ej9 ho).elim
  · skip
    refine lv_if_ne (tgt := 10) hx hb dX3_restore_4 (by decide) (fun c1 => (c1 (by decide)).elim) (fun _ => ?_)
    refine lv_bipush (v := (-2)) hx hb dX3_restore_7 (by decide) ?_
    exact W.iret hx hb hr (fun t ht _ => ⟨_, rfl, rfl, ht⟩) (fun _ h => absurd h List.not_mem_nil) dX3_restore_9

set_option maxHeartbeats 4000000 in
set_option maxRecDepth 100000 in
theorem k_X3_restore_n (l : Launch) (D : va_G) (y : Nat → ClassId) (L : Nat → Nat → Nat) (S : Nat → Nat → Nat) (Bs : Nat → Nat → Nat → Nat) (pi : Nat → Nat) (kn : Nat) (Gs : Nat → Nat → Nat → Nat) (sv : Nat → Nat) (U : pm_PT) (Hs Sl : Nat → Nat → Nat → Nat) (j : Nat) (hj : j < 2) (hsv : sv j = 0) : Met l yX3_restore wsX3_restore ({ frames := 1, cells := 0, slots := 0, locals := 20 } : Room) (pm_ron D (pm_ty y) [.ref (L 0 0), .int (nI j)] (pm_cl y L S Bs pi kn Gs sv U)) (vp_Si (fun r : Int32 => r = -5)) 0 0 (fun _ => False) := by
  refine Met.ofW (cc := cX3_restore) (maxL := 2) (ret := (some .int)) (by decide) rfl ?_
  intro p e s m args below meth c s₁ B hml hpre
  obtain ⟨rfl, ⟨hP, hK⟩, hN⟩ := hpre
  have hx := B.exec
  have hb := B.bytes
  have hr := B.returns
  have hts := atoms_spec (ws := wsX3_restore) B.pre
  have hown : s.vm.findClass RX3 = some m.cls := findClass_of_methodNamed B.named
  have hlocks := B.notSynchronized
  have hin3 : ∀ w ∈ u_ws RX3 TX3 5, w ∈ wsX3_restore := fun w h => List.mem_cons_of_mem _ (List.mem_append_left _ (List.mem_append_left _ (List.mem_append_right _ h)))
  have hin2 : ∀ w ∈ u_ws RX2 TX2 15, w ∈ wsX3_restore := fun w h => List.mem_cons_of_mem _ (List.mem_append_left _ (List.mem_append_right _ h))
  have hin0 : ∀ w ∈ u_ws RX0 TX0 2, w ∈ wsX3_restore := fun w h => List.mem_cons_of_mem _ (List.mem_append_right _ h)
  have hP : va_P D vwCl (pm_cl y L S Bs pi kn Gs sv U) s.heap := hP
  have hl := lv_entry ([.ref (L 0 0), .int (nI j)]) (n := 2) (Nat.le_of_ble_eq_true rfl)
  rw [lg_entry_eq]
  generalize (lg_sl ([.ref (L 0 0), .int (nI j)]) ++ List.replicate (2 - (lg_sl ([.ref (L 0 0), .int (nI j)])).length) Slot.unset).toArray = ls at hl ⊢
  have hl : lv_has ls 2 [(0, .ref (L 0 0)), (1, .int (nI j))] := hl
  refine lv_iload_n hx hb dX3_restore_0 rfl (lv_at hl 1 rfl) ?_
  refine vp_callSi (W.runS (As := [.int (nI j)]) (rest := []) ⟨hx, hb, hml, hown, hts⟩ (k_X3_isSlot l (nI j)) (va_cwS 1 hts gX3_restore_X3_isSlot rfl rfl rfl hd_X3_isSlot ⟨Nat.le_of_ble_eq_true rfl, Nat.le_of_ble_eq_true rfl⟩) ⟨pm_no_blind, pm_no_pre⟩ rfl rfl hl.1 rfl (lv_room (Nat.le_of_ble_eq_true rfl)) dX3_restore_1 ⟨Nat.le_of_ble_eq_true rfl, Nat.le_of_ble_eq_true rfl⟩) (fun r9 h9 => ?_)
  rcases h9 with ⟨j9, hj9, ej9, rfl⟩ | ⟨ho9, rfl⟩
  · skip
    refine lv_if_ne (tgt := 10) hx hb dX3_restore_4 (by decide) (fun _ => ?_) (fun c1 => absurd c1 (by decide))
    refine lv_aload_n hx hb dX3_restore_10 rfl (lv_at hl 0 rfl) ?_
    refine va_get (D := D) (ci := 3) (v := .ref (L 0 2)) (C := RX3) (T := TX3) (N := 5) hx hb hts hin3 hown hK hP 0 rfl rfl 4 (by decide) (hts (.fieldLink RX3 34 "ProofMarks" "saved" "[Z") (List.mem_of_getElem? (i := 1) rfl)) (fun _ h9 => h9) rfl dX3_restore_11 ?_
    refine lv_iload_n hx hb dX3_restore_14 rfl (lv_at hl 1 rfl) ?_
    have hPg : va_P D vwCl (pm_cG y L Gs sv) s.heap := pm_P_mem hP (fun z hz => (pm_cl_g y L S Bs pi kn Gs sv U).symm.subset (List.mem_append_left _ hz))
    refine kx_zald (v := nI (sv j)) hx hb hK hPg 1 2 rfl rfl (by omega) (by decide) rfl dX3_restore_15 ?_
    refine kx_if_ne (tgt := 22) hx hb (by omega) dX3_restore_16 (by decide) (fun c2 => by exfalso; omega) (fun c2 => ?_)
    refine lv_bipush (v := (-5)) hx hb dX3_restore_19 (by decide) ?_
    exact W.iret hx hb hr (fun t ht _ => ⟨_, rfl, rfl, ht⟩) (fun _ h => absurd h List.not_mem_nil) dX3_restore_21
  · exact absurd (pm_rout (by omega) (by decide) ho9) (by omega)

set_option maxHeartbeats 4000000 in
set_option maxRecDepth 100000 in
theorem k_X3_restore (l : Launch) (D : va_G) (y : Nat → ClassId) (L : Nat → Nat → Nat) (S : Nat → Nat → Nat) (Bs : Nat → Nat → Nat → Nat) (pi : Nat → Nat) (kn : Nat) (Gs : Nat → Nat → Nat → Nat) (sv : Nat → Nat) (U : pm_PT) (Hs Sl : Nat → Nat → Nat → Nat) (j : Nat) (hC : pm_CI Bs pi kn Gs sv Hs Sl) (hj : j < 2) (hsv : sv j = 1) (hIj : pm_Inv (Gs j)) : Met l yX3_restore wsX3_restore ({ frames := 3, cells := 0, slots := 0, locals := 60 } : Room) (pm_wrn D (pm_ty y) [.ref (L 0 0), .int (nI j)] (pm_cl y L S Bs pi kn Gs sv U)) (pm_Qi D (fun (r : Int32) (_ : Unit) => r = nI (Gs j 10 0)) (fun (_ : Unit) => pm_cl y L (Gs j) (pm_ub Bs (pi kn) S) (pm_kp pi kn) (pm_kn kn) Gs sv U) (pm_cl y L S Bs pi kn Gs sv U)) 0 0 (pm_ad (pm_cl y L S Bs pi kn Gs sv U)) := by
  refine Met.ofW (cc := cX3_restore) (maxL := 2) (ret := (some .int)) (by decide) rfl ?_
  intro p e s m args below meth c s₁ B hml hpre
  obtain ⟨rfl, ⟨hP, hK, hD0⟩, hN⟩ := hpre
  have hx := B.exec
  have hb := B.bytes
  have hr := B.returns
  have hts := atoms_spec (ws := wsX3_restore) B.pre
  have hown : s.vm.findClass RX3 = some m.cls := findClass_of_methodNamed B.named
  have hlocks := B.notSynchronized
  have hin3 : ∀ w ∈ u_ws RX3 TX3 5, w ∈ wsX3_restore := fun w h => List.mem_cons_of_mem _ (List.mem_append_left _ (List.mem_append_left _ (List.mem_append_right _ h)))
  have hin2 : ∀ w ∈ u_ws RX2 TX2 15, w ∈ wsX3_restore := fun w h => List.mem_cons_of_mem _ (List.mem_append_left _ (List.mem_append_right _ h))
  have hin0 : ∀ w ∈ u_ws RX0 TX0 2, w ∈ wsX3_restore := fun w h => List.mem_cons_of_mem _ (List.mem_append_right _ h)
  have hD := pm_ad_self hD0
  have hS : va_S (pm_ad (pm_cl y L S Bs pi kn Gs sv U)) s.heap s.heap [] := va_S.rf
  have hP : va_P D vwCl (pm_cl y L S Bs pi kn Gs sv U) s.heap := hP
  have hl := lv_entry ([.ref (L 0 0), .int (nI j)]) (n := 2) (Nat.le_of_ble_eq_true rfl)
  rw [lg_entry_eq]
  generalize (lg_sl ([.ref (L 0 0), .int (nI j)]) ++ List.replicate (2 - (lg_sl ([.ref (L 0 0), .int (nI j)])).length) Slot.unset).toArray = ls at hl ⊢
  have hl : lv_has ls 2 [(0, .ref (L 0 0)), (1, .int (nI j))] := hl
  have hr9 := hIj.rnd
  refine lv_iload_n hx hb dX3_restore_0 rfl (lv_at hl 1 rfl) ?_
  refine vp_callSi (W.runS (As := [.int (nI j)]) (rest := []) ⟨hx, hb, hml, hown, hts⟩ (k_X3_isSlot l (nI j)) (va_cwS 1 hts gX3_restore_X3_isSlot rfl rfl rfl hd_X3_isSlot ⟨Nat.le_of_ble_eq_true rfl, Nat.le_of_ble_eq_true rfl⟩) ⟨pm_no_blind, pm_no_pre⟩ rfl rfl hl.1 rfl (lv_room (Nat.le_of_ble_eq_true rfl)) dX3_restore_1 ⟨Nat.le_of_ble_eq_true rfl, Nat.le_of_ble_eq_true rfl⟩) (fun r9 h9 => ?_)
  rcases h9 with ⟨j9, hj9, ej9, rfl⟩ | ⟨ho9, rfl⟩
  · skip
    refine lv_if_ne (tgt := 10) hx hb dX3_restore_4 (by decide) (fun _ => ?_) (fun c1 => absurd c1 (by decide))
    refine lv_aload_n hx hb dX3_restore_10 rfl (lv_at hl 0 rfl) ?_
    refine va_get (D := D) (ci := 3) (v := .ref (L 0 2)) (C := RX3) (T := TX3) (N := 5) hx hb hts hin3 hown hK hP 0 rfl rfl 4 (by decide) (hts (.fieldLink RX3 34 "ProofMarks" "saved" "[Z") (List.mem_of_getElem? (i := 1) rfl)) (fun _ h9 => h9) rfl dX3_restore_11 ?_
    refine lv_iload_n hx hb dX3_restore_14 rfl (lv_at hl 1 rfl) ?_
    have hPg : va_P D vwCl (pm_cG y L Gs sv) s.heap := pm_P_mem hP (fun z hz => (pm_cl_g y L S Bs pi kn Gs sv U).symm.subset (List.mem_append_left _ hz))
    refine kx_zald (v := nI (sv j)) hx hb hK hPg 1 2 rfl rfl (by omega) (by decide) rfl dX3_restore_15 ?_
    refine kx_if_ne (tgt := 22) hx hb (by omega) dX3_restore_16 (by decide) (fun c2 => ?_) (fun c2 => by exfalso; omega)
    refine lv_aload_n hx hb dX3_restore_22 rfl (lv_at hl 0 rfl) ?_
    refine va_get (D := D) (ci := 3) (v := .ref (L 1 0)) (C := RX3) (T := TX3) (N := 5) hx hb hts hin3 hown hK hP 0 rfl rfl 1 (by decide) (hts (.fieldLink RX3 19 "ProofMarks" "history" "LProofMarks$History;") (List.mem_of_getElem? (i := 2) rfl)) (fun _ h9 => h9) rfl dX3_restore_23 ?_
    refine lv_aload_n hx hb dX3_restore_26 rfl (lv_at hl 0 rfl) ?_
    refine va_get (D := D) (ci := 3) (v := .ref (L 2 0)) (C := RX3) (T := TX3) (N := 5) hx hb hts hin3 hown hK hP 0 rfl rfl 0 (by decide) (hts (.fieldLink RX3 10 "ProofMarks" "sheet" "LProofMarks$Sheet;") (List.mem_of_getElem? (i := 3) rfl)) (fun _ h9 => h9) rfl dX3_restore_27 ?_
    have hP := pm_eqP (pm_cl_hs y L S Bs pi kn Gs sv U) hP
    have hD := pm_eqD (pm_cl_hs y L S Bs pi kn Gs sv U) hD
    have hPc := pm_cutP hP
    have hDc := pm_cutD hD
    refine va_callv (va_runV (As := [.ref (L 2 0)]) (rest := []) ⟨hx, hb, hml, hown, hts⟩ (k_X0_note l D y (L 1) (pm_bL L) Bs pi kn (L 2) S hC.1 hC.2.2.1) (cwV 1 hts gX3_restore_X0_note rfl rfl rfl hd_X0_note ⟨Nat.le_of_ble_eq_true rfl, Nat.le_of_ble_eq_true rfl⟩) ⟨pm_wr_blind, va_recv hK hPc (ci := 0) (q0 := 0) rfl rfl, pm_wr_pre hPc hK hDc⟩ rfl rfl hl.1 rfl (lv_room (Nat.le_of_ble_eq_true rfl)) dX3_restore_30 ⟨Nat.le_of_ble_eq_true rfl, Nat.le_of_ble_eq_true rfl⟩) hS (fun q _ h9 => pm_ad_all hDc q h9) (pm_ad_all hDc) (fun u9 t9 H1 locs ht9 _ h9 hB9 _ hk9 hS => ?_)
    obtain ⟨hP, hD⟩ := pm_mid (w' := pm_hc y (L 1) (pm_bL L) (pm_ub Bs (pi kn) S) (pm_rf (pm_bL L) pi) kn (L 2) S) hP hD hk9 (by rw [← ht9]; exact hB9) (pm_hc_fst ..)
    have hP : va_P D vwCl (pm_cl y L S (pm_ub Bs (pi kn) S) pi kn Gs sv U) H1 := pm_eqP (pm_cl_hs y L S (pm_ub Bs (pi kn) S) pi kn Gs sv U).symm hP
    have hD : va_D (pm_ad (pm_cl y L S Bs pi kn Gs sv U)) (pm_cl y L S (pm_ub Bs (pi kn) S) pi kn Gs sv U) := pm_eqD (pm_cl_hs y L S (pm_ub Bs (pi kn) S) pi kn Gs sv U).symm hD
    replace hC := pm_CI_note S hC
    refine lv_aload_n hx hb dX3_restore_33 rfl (lv_at hl 0 rfl) ?_
    refine va_get (D := D) (ci := 3) (v := .ref (L 2 0)) (C := RX3) (T := TX3) (N := 5) hx hb hts hin3 hown hK hP 0 rfl rfl 0 (by decide) (hts (.fieldLink RX3 10 "ProofMarks" "sheet" "LProofMarks$Sheet;") (List.mem_of_getElem? (i := 3) rfl)) (fun _ h9 => h9) rfl dX3_restore_34 ?_
    refine lv_aload_n hx hb dX3_restore_37 rfl (lv_at hl 0 rfl) ?_
    refine va_get (D := D) (ci := 3) (v := .ref (L 0 1)) (C := RX3) (T := TX3) (N := 5) hx hb hts hin3 hown hK hP 0 rfl rfl 3 (by decide) (hts (.fieldLink RX3 30 "ProofMarks" "slots" "[LProofMarks$Sheet;") (List.mem_of_getElem? (i := 4) rfl)) (fun _ h9 => h9) rfl dX3_restore_38 ?_
    refine lv_iload_n hx hb dX3_restore_41 rfl (lv_at hl 1 rfl) ?_
    have hPg : va_P D vwCl (pm_cG y L Gs sv) H1 := pm_P_mem hP (fun z hz => (pm_cl_g y L S (pm_ub Bs (pi kn) S) pi kn Gs sv U).symm.subset (List.mem_append_left _ hz))
    refine kx_aald (v := pm_gL L j 0) hx hb hK hPg 0 3 rfl rfl (by omega) (by decide) rfl dX3_restore_42 ?_
    have hP := pm_permP (pm_cl_u y L S (pm_ub Bs (pi kn) S) pi kn Gs sv U hj) hP
    have hD := pm_permD (pm_cl_u y L S (pm_ub Bs (pi kn) S) pi kn Gs sv U hj) hD
    have hPc := pm_cutP hP
    have hDc := pm_cutD hD
    refine va_callv (va_runV (As := [.ref (pm_gL L j 0)]) (rest := []) ⟨hx, hb, hml, hown, hts⟩ (k_X2_takeOver l D y (L 2) (pm_gL L j) S (Gs j)) (cwV 1 hts gX3_restore_X2_takeOver rfl rfl rfl hd_X2_takeOver ⟨Nat.le_of_ble_eq_true rfl, Nat.le_of_ble_eq_true rfl⟩) ⟨pm_wr_blind, va_recv hK hPc (ci := 2) (q0 := 0) rfl rfl, pm_wr_pre hPc hK hDc⟩ rfl rfl hl.1 rfl (lv_room (Nat.le_of_ble_eq_true rfl)) dX3_restore_43 ⟨Nat.le_of_ble_eq_true rfl, Nat.le_of_ble_eq_true rfl⟩) hS (fun q _ h9 => pm_ad_all hDc q h9) (pm_ad_all hDc) (fun u9 t9 H1 locs ht9 _ h9 hB9 _ hk9 hS => ?_)
    obtain ⟨hP, hD⟩ := pm_mid (w' := pm_shS y (L 2) (Gs j) ++ pm_shS y (pm_gL L j) (Gs j)) hP hD hk9 (by rw [← ht9]; exact hB9) rfl
    have hP : va_P D vwCl (pm_cl y L (Gs j) (pm_ub Bs (pi kn) S) pi kn Gs sv U) H1 := pm_permP (pm_cl_u y L (Gs j) (pm_ub Bs (pi kn) S) pi kn Gs sv U hj).symm hP
    have hD : va_D (pm_ad (pm_cl y L S Bs pi kn Gs sv U)) (pm_cl y L (Gs j) (pm_ub Bs (pi kn) S) pi kn Gs sv U) := pm_permD (pm_cl_u y L (Gs j) (pm_ub Bs (pi kn) S) pi kn Gs sv U hj).symm hD
    refine lv_aload_n hx hb dX3_restore_46 rfl (lv_at hl 0 rfl) ?_
    refine lv_aload_n hx hb dX3_restore_47 rfl (lv_at hl 0 rfl) ?_
    refine va_get (D := D) (ci := 3) (v := .ref (L 2 0)) (C := RX3) (T := TX3) (N := 5) hx hb hts hin3 hown hK hP 0 rfl rfl 0 (by decide) (hts (.fieldLink RX3 10 "ProofMarks" "sheet" "LProofMarks$Sheet;") (List.mem_of_getElem? (i := 3) rfl)) (fun _ h9 => h9) rfl dX3_restore_48 ?_
    have hPc := pm_cutP (pm_eqP (pm_cl_s y L (Gs j) (pm_ub Bs (pi kn) S) pi kn Gs sv U) hP)
    refine va_getN (host := "ProofMarks") (D := D) (ci := 2) (v := .int (nI ((Gs j) 10 0))) (C := RX2) (T := TX2) (N := 15) hx hb hts hin2 hown hK hPc 0 rfl rfl 12 (by decide) (hN.use 0 rfl) (fun _ h9 => h9) rfl dX3_restore_51 ?_
    refine va_calli (va_runV (As := [.int (nI ((Gs j) 10 0))]) (rest := []) ⟨hx, hb, hml, hown, hts⟩ (k_X3_recorded l D y L (Gs j) (pm_ub Bs (pi kn) S) pi kn Gs sv U Hs Sl (nI ((Gs j) 10 0)) hC) (cwV 1 hts gX3_restore_X3_recorded rfl rfl rfl hd_X3_recorded ⟨Nat.le_of_ble_eq_true rfl, Nat.le_of_ble_eq_true rfl⟩) ⟨pm_wr_blind, va_recv hK hP (ci := 3) (q0 := 0) rfl rfl, pm_wr_pre hP hK hD⟩ rfl rfl hl.1 rfl (lv_room (Nat.le_of_ble_eq_true rfl)) dX3_restore_54 ⟨Nat.le_of_ble_eq_true rfl, Nat.le_of_ble_eq_true rfl⟩) hS (fun q _ h9 => pm_ad_all hD q h9) (pm_ad_all hD) (fun r8 u8 t8 H2 locs ht8 _ h8 hB8 _ hk8 hS => ?_)
    have hP : va_P D vwCl (pm_cl y L (Gs j) (pm_ub Bs (pi kn) S) (pm_rp pi kn (nI ((Gs j) 10 0))) (pm_rk kn (nI ((Gs j) 10 0))) Gs sv U) H2 := by rw [← ht8]; exact hB8
    have hD : va_D (pm_ad (pm_cl y L S Bs pi kn Gs sv U)) (pm_cl y L (Gs j) (pm_ub Bs (pi kn) S) (pm_rp pi kn (nI ((Gs j) 10 0))) (pm_rk kn (nI ((Gs j) 10 0))) Gs sv U) := pm_D_same (pm_cl_fst ..) hD
    obtain rfl : r8 = nI ((Gs j) 10 0) := h8
    have hn7 : ¬ nI ((Gs j) 10 0) < 0 := nI_pos (by omega)
    have Epi : pm_rp pi kn (nI ((Gs j) 10 0)) = pm_kp pi kn := if_neg hn7
    have Ekn : pm_rk kn (nI ((Gs j) 10 0)) = pm_kn kn := if_neg hn7
    rw [Epi, Ekn] at hP
    exact W.iret hx hb hr (fun t ht _ => ⟨⟨_, (), rfl, rfl, (by show va_P D vwCl (pm_cl y L (Gs j) (pm_ub Bs (pi kn) S) (pm_kp pi kn) (pm_kn kn) Gs sv U) t.heap; rw [ht]; exact hP)⟩, hS.F ht⟩) hS.2.2 dX3_restore_57
  · exact absurd (pm_rout (by omega) (by decide) ho9) (by omega)
