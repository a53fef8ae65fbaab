/-! ===== an order of the pad is obeyed ===== -/
theorem pm_nneg {n : Nat} (h : n < 2 ^ 31) {z : Prop} (h2 : nI n < 0) : z := absurd h2 (nI_pos h)
theorem pm_rct_30 (S : Nat → Nat → Nat) : ∀ n, pm_rct S n ≤ n
  | 0 => Nat.le_refl 0
  | n + 1 => by
    have := pm_rct_30 S n
    rw [pm_rct]
    split <;> omega
theorem pm_mark_o (S : Nat → Nat → Nat) (a b d : Int32) : (pm_aMark S a b d).2 = S ∨ 0 ≤ (pm_aMark S a b d).1 := by
  unfold pm_aMark
  repeat' split
  all_goals first | exact Or.inl rfl | exact Or.inr (nI_pos' (Nat.lt_trans (pm_lt4 _ _) (by decide)))
theorem pm_argue_o (S : Nat → Nat → Nat) (a b d : Int32) : (pm_aArgue S a b d).2 = S ∨ 0 ≤ (pm_aArgue S a b d).1 := by
  unfold pm_aArgue
  repeat' split
  all_goals first | exact Or.inl rfl | exact Or.inr (show (0 : Int32) ≤ 0 by decide) | exact Or.inr (show (0 : Int32) ≤ 1 by decide)
theorem pm_round_o (S : Nat → Nat → Nat) : (pm_aRound S).2 = S ∨ 0 ≤ (pm_aRound S).1 := by
  have := pm_rct_30 S 30
  unfold pm_aRound
  split
  · exact Or.inl rfl
  · exact Or.inr (nI_pos' (by omega))
theorem pm_print_o {S : Nat → Nat → Nat} (hI : pm_Inv S) (a b : Int32) : (pm_aPrint S a b).2 = S ∨ 0 ≤ (pm_aPrint S a b).1 := by
  have := hI.pap
  unfold pm_aPrint
  repeat' split
  all_goals first | exact Or.inl rfl | exact Or.inr (nI_pos' (Nat.lt_of_le_of_lt (Nat.sub_le _ _) (by omega)))
theorem pm_buy_o {S : Nat → Nat → Nat} (hI : pm_Inv S) (a : Int32) : (pm_aBuy S a).2 = S ∨ 0 ≤ (pm_aBuy S a).1 := by
  have := hI.pap
  unfold pm_aBuy
  repeat' split
  all_goals first | exact Or.inl rfl | exact Or.inr (nI_pos' (by omega))
theorem pm_mark_neg {S : Nat → Nat → Nat} {a b d : Int32} (h : (pm_aMark S a b d).1 < 0) : (pm_aMark S a b d).2 = S := (pm_mark_o S a b d).resolve_right (Int32.not_le.mpr h)
theorem pm_argue_neg {S : Nat → Nat → Nat} {a b d : Int32} (h : (pm_aArgue S a b d).1 < 0) : (pm_aArgue S a b d).2 = S := (pm_argue_o S a b d).resolve_right (Int32.not_le.mpr h)
theorem pm_round_neg {S : Nat → Nat → Nat} (h : (pm_aRound S).1 < 0) : (pm_aRound S).2 = S := (pm_round_o S).resolve_right (Int32.not_le.mpr h)
theorem pm_print_neg {S : Nat → Nat → Nat} (hI : pm_Inv S) {a b : Int32} (h : (pm_aPrint S a b).1 < 0) : (pm_aPrint S a b).2 = S := (pm_print_o hI a b).resolve_right (Int32.not_le.mpr h)
theorem pm_buy_neg {S : Nat → Nat → Nat} (hI : pm_Inv S) {a : Int32} (h : (pm_aBuy S a).1 < 0) : (pm_aBuy S a).2 = S := (pm_buy_o hI a).resolve_right (Int32.not_le.mpr h)
/-! ===== the cells in another order ===== -/
theorem pm_permP {D : va_G} {cl : List vw_C} {w w' : va_W} {H : Heap} (e : w.Perm w') (h : va_P D cl w H) : va_P D cl w' H := pm_P_mem h (fun z hz => e.symm.subset hz)
theorem pm_permD {A : Nat → Prop} {w w' : va_W} (e : w.Perm w') (h : va_D A w) : va_D A w' := by
  obtain ⟨h1, h2⟩ := pm_D_nd.mp h
  exact pm_D_nd.mpr ⟨(e.map Prod.fst).nodup_iff.mp h1, fun z hz => h2 z (e.symm.subset hz)⟩
section PMCT
variable (y : Nat → ClassId) (L : Nat → Nat → Nat) (S : Nat → Nat → Nat) (Bs : Nat → Nat → Nat → Nat) (pi : Nat → Nat) (kn : Nat) (Gs : Nat → Nat → Nat → Nat) (sv : Nat → Nat) (U : pm_PT)
end PMCT
set_option maxHeartbeats 4000000 in
set_option maxRecDepth 100000 in
theorem k_X3_undo_0 (l : Launch) (D : va_G) (y : Nat → ClassId) (L : Nat → Nat → Nat) (S : Nat → Nat → Nat) (Bs : Nat → Nat → Nat → Nat) (pi : Nat → Nat) (kn : Nat) (Gs : Nat → Nat → Nat → Nat) (sv : Nat → Nat) (U : pm_PT) (Hs Sl : Nat → Nat → Nat → Nat) (h0 : kn = 0) : Met l yX3_undo wsX3_undo ({ frames := 0, cells := 0, slots := 0, locals := 0 } : Room) (pm_ron D (pm_ty y) [.ref (L 0 0)] (pm_cl y L S Bs pi kn Gs sv U)) (vp_Si (fun r : Int32 => r = -5)) 0 0 (fun _ => False) := by
  refine Met.ofW (cc := cX3_undo) (maxL := 1) (ret := (some .int)) (by decide) rfl ?_
  intro p e s m args below meth c s₁ B hml hpre
  obtain ⟨rfl, ⟨hP, hK⟩, hN⟩ := hpre
  have hx := B.exec
  have hb := B.bytes
  have hr := B.returns
  have hts := atoms_spec (ws := wsX3_undo) B.pre
  have hown : s.vm.findClass RX3 = some m.cls := findClass_of_methodNamed B.named
  have hlocks := B.notSynchronized
  have hin3 : ∀ w ∈ u_ws RX3 TX3 5, w ∈ wsX3_undo := fun w h => List.mem_cons_of_mem _ (List.mem_append_left _ (List.mem_append_left _ (List.mem_append_right _ h)))
  have hin0 : ∀ w ∈ u_ws RX0 TX0 2, w ∈ wsX3_undo := fun w h => List.mem_cons_of_mem _ (List.mem_append_left _ (List.mem_append_right _ h))
  have hin2 : ∀ w ∈ u_ws RX2 TX2 15, w ∈ wsX3_undo := fun w h => List.mem_cons_of_mem _ (List.mem_append_right _ h)
  have hP : va_P D vwCl (pm_cl y L S Bs pi kn Gs sv U) s.heap := hP
  have hl := lv_entry ([.ref (L 0 0)]) (n := 1) (Nat.le_of_ble_eq_true rfl)
  rw [lg_entry_eq]
  generalize (lg_sl ([.ref (L 0 0)]) ++ List.replicate (1 - (lg_sl ([.ref (L 0 0)])).length) Slot.unset).toArray = ls at hl ⊢
  have hl : lv_has ls 1 [(0, .ref (L 0 0))] := hl
  refine lv_aload_n hx hb dX3_undo_0 rfl (lv_at hl 0 rfl) ?_
  refine va_get (D := D) (ci := 3) (v := .ref (L 1 0)) (C := RX3) (T := TX3) (N := 5) hx hb hts hin3 hown hK hP 0 rfl rfl 1 (by decide) (hts (.fieldLink RX3 19 "ProofMarks" "history" "LProofMarks$History;") (List.mem_of_getElem? (i := 1) rfl)) (fun _ h9 => h9) rfl dX3_undo_1 ?_
  have hPc := pm_cutP (pm_eqP (pm_cl_h y L S Bs pi kn Gs sv U) hP)
  refine va_getN (host := "ProofMarks") (D := D) (ci := 0) (v := .int (nI kn)) (C := RX0) (T := TX0) (N := 2) hx hb hts hin0 hown hK hPc 0 rfl rfl 1 (by decide) (hN.use 1 rfl) (fun _ h9 => h9) rfl dX3_undo_4 ?_
  refine kx_if_ne (tgt := 13) hx hb (by omega) dX3_undo_7 (by decide) (fun c1 => by exfalso; omega) (fun c1 => ?_)
  refine lv_bipush (v := (-5)) hx hb dX3_undo_10 (by decide) ?_
  exact W.iret hx hb hr (fun t ht _ => ⟨_, rfl, rfl, ht⟩) (fun _ h => absurd h List.not_mem_nil) dX3_undo_12

set_option maxHeartbeats 4000000 in
set_option maxRecDepth 100000 in
theorem k_X3_undo (l : Launch) (D : va_G) (y : Nat → ClassId) (L : Nat → Nat → Nat) (S : Nat → Nat → Nat) (Bs : Nat → Nat → Nat → Nat) (pi : Nat → Nat) (kn : Nat) (Gs : Nat → Nat → Nat → Nat) (sv : Nat → Nat) (U : pm_PT) (Hs Sl : Nat → Nat → Nat → Nat) (hC : pm_CI Bs pi kn Gs sv Hs Sl) (hk0 : 0 < kn) : Met l yX3_undo wsX3_undo ({ frames := 3, cells := 0, slots := 0, locals := 60 } : Room) (pm_wrn D (pm_ty y) [.ref (L 0 0)] (pm_cl y L S Bs pi kn Gs sv U)) (pm_Qi D (fun (r : Int32) (_ : Unit) => r = nI (kn - 1)) (fun (_ : Unit) => pm_cl y L (Bs (pi (kn - 1))) Bs pi (kn - 1) Gs sv U) (pm_cl y L S Bs pi kn Gs sv U)) 0 0 (pm_ad (pm_cl y L S Bs pi kn Gs sv U)) := by
  refine Met.ofW (cc := cX3_undo) (maxL := 1) (ret := (some .int)) (by decide) rfl ?_
  intro p e s m args below meth c s₁ B hml hpre
  obtain ⟨rfl, ⟨hP, hK, hD0⟩, hN⟩ := hpre
  have hx := B.exec
  have hb := B.bytes
  have hr := B.returns
  have hts := atoms_spec (ws := wsX3_undo) B.pre
  have hown : s.vm.findClass RX3 = some m.cls := findClass_of_methodNamed B.named
  have hlocks := B.notSynchronized
  have hin3 : ∀ w ∈ u_ws RX3 TX3 5, w ∈ wsX3_undo := fun w h => List.mem_cons_of_mem _ (List.mem_append_left _ (List.mem_append_left _ (List.mem_append_right _ h)))
  have hin0 : ∀ w ∈ u_ws RX0 TX0 2, w ∈ wsX3_undo := fun w h => List.mem_cons_of_mem _ (List.mem_append_left _ (List.mem_append_right _ h))
  have hin2 : ∀ w ∈ u_ws RX2 TX2 15, w ∈ wsX3_undo := fun w h => List.mem_cons_of_mem _ (List.mem_append_right _ h)
  have hD := pm_ad_self hD0
  have hS : va_S (pm_ad (pm_cl y L S Bs pi kn Gs sv U)) s.heap s.heap [] := va_S.rf
  have hP : va_P D vwCl (pm_cl y L S Bs pi kn Gs sv U) s.heap := hP
  have hl := lv_entry ([.ref (L 0 0)]) (n := 1) (Nat.le_of_ble_eq_true rfl)
  rw [lg_entry_eq]
  generalize (lg_sl ([.ref (L 0 0)]) ++ List.replicate (1 - (lg_sl ([.ref (L 0 0)])).length) Slot.unset).toArray = ls at hl ⊢
  have hl : lv_has ls 1 [(0, .ref (L 0 0))] := hl
  have hk6 := hC.2.2.1
  refine lv_aload_n hx hb dX3_undo_0 rfl (lv_at hl 0 rfl) ?_
  refine va_get (D := D) (ci := 3) (v := .ref (L 1 0)) (C := RX3) (T := TX3) (N := 5) hx hb hts hin3 hown hK hP 0 rfl rfl 1 (by decide) (hts (.fieldLink RX3 19 "ProofMarks" "history" "LProofMarks$History;") (List.mem_of_getElem? (i := 1) rfl)) (fun _ h9 => h9) rfl dX3_undo_1 ?_
  have hPc := pm_cutP (pm_eqP (pm_cl_h y L S Bs pi kn Gs sv U) hP)
  refine va_getN (host := "ProofMarks") (D := D) (ci := 0) (v := .int (nI kn)) (C := RX0) (T := TX0) (N := 2) hx hb hts hin0 hown hK hPc 0 rfl rfl 1 (by decide) (hN.use 1 rfl) (fun _ h9 => h9) rfl dX3_undo_4 ?_
  refine kx_if_ne (tgt := 13) hx hb (by omega) dX3_undo_7 (by decide) (fun c1 => ?_) (fun c1 => by exfalso; omega)
  refine lv_aload_n hx hb dX3_undo_13 rfl (lv_at hl 0 rfl) ?_
  refine va_get (D := D) (ci := 3) (v := .ref (L 1 0)) (C := RX3) (T := TX3) (N := 5) hx hb hts hin3 hown hK hP 0 rfl rfl 1 (by decide) (hts (.fieldLink RX3 19 "ProofMarks" "history" "LProofMarks$History;") (List.mem_of_getElem? (i := 1) rfl)) (fun _ h9 => h9) rfl dX3_undo_14 ?_
  refine lv_aload_n hx hb dX3_undo_17 rfl (lv_at hl 0 rfl) ?_
  refine va_get (D := D) (ci := 3) (v := .ref (L 2 0)) (C := RX3) (T := TX3) (N := 5) hx hb hts hin3 hown hK hP 0 rfl rfl 0 (by decide) (hts (.fieldLink RX3 10 "ProofMarks" "sheet" "LProofMarks$Sheet;") (List.mem_of_getElem? (i := 2) rfl)) (fun _ h9 => h9) rfl dX3_undo_18 ?_
  have hP := pm_eqP (pm_cl_hs y L S Bs pi kn Gs sv U) hP
  have hD := pm_eqD (pm_cl_hs y L S Bs pi kn Gs sv U) hD
  have hPc := pm_cutP hP
  have hDc := pm_cutD hD
  refine va_callv (va_runV (As := [.ref (L 2 0)]) (rest := []) ⟨hx, hb, hml, hown, hts⟩ (k_X0_bringBack l D y (L 1) (pm_bL L) Bs pi kn (L 2) S hC.1 hC.2.2.1 hk0) (cwV 1 hts gX3_undo_X0_bringBack rfl rfl rfl hd_X0_bringBack ⟨Nat.le_of_ble_eq_true rfl, Nat.le_of_ble_eq_true rfl⟩) ⟨pm_wr_blind, va_recv hK hPc (ci := 0) (q0 := 0) rfl rfl, pm_wr_pre hPc hK hDc⟩ rfl rfl hl.1 rfl (lv_room (Nat.le_of_ble_eq_true rfl)) dX3_undo_21 ⟨Nat.le_of_ble_eq_true rfl, Nat.le_of_ble_eq_true rfl⟩) hS (fun q _ h9 => pm_ad_all hDc q h9) (pm_ad_all hDc) (fun u9 t9 H1 locs ht9 _ h9 hB9 _ hk9 hS => ?_)
  obtain ⟨hP, hD⟩ := pm_mid (w' := pm_hc y (L 1) (pm_bL L) Bs (pm_rf (pm_bL L) pi) (kn - 1) (L 2) (Bs (pi (kn - 1)))) hP hD hk9 (by rw [← ht9]; exact hB9) (pm_hc_fst ..)
  have hP : va_P D vwCl (pm_cl y L (Bs (pi (kn - 1))) Bs pi (kn - 1) Gs sv U) H1 := pm_eqP (pm_cl_hs y L (Bs (pi (kn - 1))) Bs pi (kn - 1) Gs sv U).symm hP
  have hD : va_D (pm_ad (pm_cl y L S Bs pi kn Gs sv U)) (pm_cl y L (Bs (pi (kn - 1))) Bs pi (kn - 1) Gs sv U) := pm_eqD (pm_cl_hs y L (Bs (pi (kn - 1))) Bs pi (kn - 1) Gs sv U).symm hD
  refine lv_aload_n hx hb dX3_undo_24 rfl (lv_at hl 0 rfl) ?_
  refine va_get (D := D) (ci := 3) (v := .ref (L 1 0)) (C := RX3) (T := TX3) (N := 5) hx hb hts hin3 hown hK hP 0 rfl rfl 1 (by decide) (hts (.fieldLink RX3 19 "ProofMarks" "history" "LProofMarks$History;") (List.mem_of_getElem? (i := 1) rfl)) (fun _ h9 => h9) rfl dX3_undo_25 ?_
  have hPc := pm_cutP (pm_eqP (pm_cl_h y L (Bs (pi (kn - 1))) Bs pi (kn - 1) Gs sv U) hP)
  refine va_getN (host := "ProofMarks") (D := D) (ci := 0) (v := .int (nI (kn - 1))) (C := RX0) (T := TX0) (N := 2) hx hb hts hin0 hown hK hPc 0 rfl rfl 1 (by decide) (hN.use 1 rfl) (fun _ h9 => h9) rfl dX3_undo_28 ?_
  exact W.iret hx hb hr (fun t ht _ => ⟨⟨_, (), rfl, rfl, (by show va_P D vwCl (pm_cl y L (Bs (pi (kn - 1))) Bs pi (kn - 1) Gs sv U) t.heap; rw [ht]; exact hP)⟩, hS.F ht⟩) hS.2.2 dX3_undo_31

