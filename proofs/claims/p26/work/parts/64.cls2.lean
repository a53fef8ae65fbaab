theorem pm_eqP {D : va_G} {cl : List vw_C} {w w' : va_W} {H : Heap} (e : w = w') (h : va_P D cl w H) : va_P D cl w' H := e ▸ h
theorem pm_eqD {A : Nat → Prop} {w w' : va_W} (e : w = w') (h : va_D A w) : va_D A w' := by subst e; exact h
theorem pm_CI_note {Bs : Nat → Nat → Nat → Nat} {pi : Nat → Nat} {kn : Nat} {Gs : Nat → Nat → Nat → Nat} {sv : Nat → Nat} {Hs Sl : Nat → Nat → Nat → Nat} (S : Nat → Nat → Nat) (h : pm_CI Bs pi kn Gs sv Hs Sl) : pm_CI (pm_ub Bs (pi kn) S) pi kn Gs sv Hs Sl := by
  obtain ⟨h1, h2, h3, h4, h5⟩ := h
  refine ⟨h1, h2, h3, fun i hi => ?_, h5⟩
  unfold pm_ub
  rw [if_neg (fun e => by have := h2 _ _ (by omega) (by omega) e; omega)]
  exact h4 i hi

set_option maxHeartbeats 4000000 in
set_option maxRecDepth 100000 in
theorem k_X3_mark (l : Launch) (D : va_G) (y : Nat → ClassId) (L : Nat → Nat → Nat) (S : Nat → Nat → Nat) (Bs : Nat → Nat → Nat → Nat) (pi : Nat → Nat) (kn : Nat) (Gs : Nat → Nat → Nat → Nat) (sv : Nat → Nat) (U : pm_PT) (Hs Sl : Nat → Nat → Nat → Nat) (xe xf xm : Int32) (hC : pm_CI Bs pi kn Gs sv Hs Sl) (hI : pm_Inv S) : Met l yX3_mark wsX3_mark ({ frames := 4, cells := 0, slots := 0, locals := 92 } : Room) (pm_wr D (pm_ty y) [.ref (L 0 0), .int xe, .int xf, .int xm] (pm_cl y L S Bs pi kn Gs sv U)) (pm_Qi D (fun (r : Int32) (_ : Unit) => r = (pm_aMark S xe xf xm).1) (fun (_ : Unit) => pm_cl y L (pm_aMark S xe xf xm).2 (pm_ub Bs (pi kn) S) (pm_rp pi kn (pm_aMark S xe xf xm).1) (pm_rk kn (pm_aMark S xe xf xm).1) Gs sv U) (pm_cl y L S Bs pi kn Gs sv U)) 0 0 (pm_ad (pm_cl y L S Bs pi kn Gs sv U)) := by
  refine Met.ofW (cc := cX3_mark) (maxL := 4) (ret := (some .int)) (by decide) rfl ?_
  intro p e s m args below meth c s₁ B hml hpre
  obtain ⟨rfl, hP, hK, hD0⟩ := hpre
  have hx := B.exec
  have hb := B.bytes
  have hr := B.returns
  have hts := atoms_spec (ws := wsX3_mark) B.pre
  have hown : s.vm.findClass RX3 = some m.cls := findClass_of_methodNamed B.named
  have hlocks := B.notSynchronized
  have hin3 : ∀ w ∈ u_ws RX3 TX3 5, w ∈ wsX3_mark := fun w h => List.mem_cons_of_mem _ (List.mem_append_left _ (List.mem_append_left _ (List.mem_append_right _ h)))
  have hin0 : ∀ w ∈ u_ws RX0 TX0 2, w ∈ wsX3_mark := fun w h => List.mem_cons_of_mem _ (List.mem_append_left _ (List.mem_append_right _ h))
  have hin2 : ∀ w ∈ u_ws RX2 TX2 15, w ∈ wsX3_mark := fun w h => List.mem_cons_of_mem _ (List.mem_append_right _ h)
  have hD := pm_ad_self hD0
  have hS : va_S (pm_ad (pm_cl y L S Bs pi kn Gs sv U)) s.heap s.heap [] := va_S.rf
  have hP : va_P D vwCl (pm_cl y L S Bs pi kn Gs sv U) s.heap := hP
  have hl := lv_entry ([.ref (L 0 0), .int xe, .int xf, .int xm]) (n := 4) (Nat.le_of_ble_eq_true rfl)
  rw [lg_entry_eq]
  generalize (lg_sl ([.ref (L 0 0), .int xe, .int xf, .int xm]) ++ List.replicate (4 - (lg_sl ([.ref (L 0 0), .int xe, .int xf, .int xm])).length) Slot.unset).toArray = ls at hl ⊢
  have hl : lv_has ls 4 [(0, .ref (L 0 0)), (1, .int xe), (2, .int xf), (3, .int xm)] := hl
  refine lv_aload_n hx hb dX3_mark_0 rfl (lv_at hl 0 rfl) ?_
  refine va_get (D := D) (ci := 3) (v := .ref (L 1 0)) (C := RX3) (T := TX3) (N := 5) hx hb hts hin3 hown hK hP 0 rfl rfl 1 (by decide) (hts (.fieldLink RX3 19 "ProofMarks" "history" "LProofMarks$History;") (List.mem_of_getElem? (i := 1) rfl)) (fun _ h9 => h9) rfl dX3_mark_1 ?_
  refine lv_aload_n hx hb dX3_mark_4 rfl (lv_at hl 0 rfl) ?_
  refine va_get (D := D) (ci := 3) (v := .ref (L 2 0)) (C := RX3) (T := TX3) (N := 5) hx hb hts hin3 hown hK hP 0 rfl rfl 0 (by decide) (hts (.fieldLink RX3 10 "ProofMarks" "sheet" "LProofMarks$Sheet;") (List.mem_of_getElem? (i := 2) rfl)) (fun _ h9 => h9) rfl dX3_mark_5 ?_
  have hP := pm_eqP (pm_cl_hs y L S Bs pi kn Gs sv U) hP
  have hD := pm_eqD (pm_cl_hs y L S Bs pi kn Gs sv U) hD
  have hPc := pm_cutP hP
  have hDc := pm_cutD hD
  refine va_callv (va_runV (As := [.ref (L 2 0)]) (rest := []) ⟨hx, hb, hml, hown, hts⟩ (k_X0_note l D y (L 1) (pm_bL L) Bs pi kn (L 2) S hC.1 hC.2.2.1) (cwV 1 hts gX3_mark_X0_note rfl rfl rfl hd_X0_note ⟨Nat.le_of_ble_eq_true rfl, Nat.le_of_ble_eq_true rfl⟩) ⟨pm_wr_blind, va_recv hK hPc (ci := 0) (q0 := 0) rfl rfl, pm_wr_pre hPc hK hDc⟩ rfl rfl hl.1 rfl (lv_room (Nat.le_of_ble_eq_true rfl)) dX3_mark_8 ⟨Nat.le_of_ble_eq_true rfl, Nat.le_of_ble_eq_true rfl⟩) hS (fun q _ h9 => pm_ad_all hDc q h9) (pm_ad_all hDc) (fun u9 t9 H1 locs ht9 _ h9 hB9 _ hk9 hS => ?_)
  obtain ⟨hP, hD⟩ := pm_mid (w' := pm_hc y (L 1) (pm_bL L) (pm_ub Bs (pi kn) S) (pm_rf (pm_bL L) pi) kn (L 2) S) hP hD hk9 (by rw [← ht9]; exact hB9) (pm_hc_fst ..)
  have hP : va_P D vwCl (pm_cl y L S (pm_ub Bs (pi kn) S) pi kn Gs sv U) H1 := pm_eqP (pm_cl_hs y L S (pm_ub Bs (pi kn) S) pi kn Gs sv U).symm hP
  have hD : va_D (pm_ad (pm_cl y L S Bs pi kn Gs sv U)) (pm_cl y L S (pm_ub Bs (pi kn) S) pi kn Gs sv U) := pm_eqD (pm_cl_hs y L S (pm_ub Bs (pi kn) S) pi kn Gs sv U).symm hD
  replace hC := pm_CI_note S hC
  refine lv_aload_n hx hb dX3_mark_11 rfl (lv_at hl 0 rfl) ?_
  refine lv_aload_n hx hb dX3_mark_12 rfl (lv_at hl 0 rfl) ?_
  refine va_get (D := D) (ci := 3) (v := .ref (L 2 0)) (C := RX3) (T := TX3) (N := 5) hx hb hts hin3 hown hK hP 0 rfl rfl 0 (by decide) (hts (.fieldLink RX3 10 "ProofMarks" "sheet" "LProofMarks$Sheet;") (List.mem_of_getElem? (i := 2) rfl)) (fun _ h9 => h9) rfl dX3_mark_13 ?_
  refine lv_iload_n hx hb dX3_mark_16 rfl (lv_at hl 1 rfl) ?_
  refine lv_iload_n hx hb dX3_mark_17 rfl (lv_at hl 2 rfl) ?_
  refine lv_iload_n hx hb dX3_mark_18 rfl (lv_at hl 3 rfl) ?_
  have hP := pm_eqP (pm_cl_s y L S (pm_ub Bs (pi kn) S) pi kn Gs sv U) hP
  have hD := pm_eqD (pm_cl_s y L S (pm_ub Bs (pi kn) S) pi kn Gs sv U) hD
  have hPc := pm_cutP hP
  have hDc := pm_cutD hD
  refine va_calli (va_runV (As := [.int xe, .int xf, .int xm]) (rest := [.ref (L 0 0)]) ⟨hx, hb, hml, hown, hts⟩ (k_X2_putMark l D y (L 2) S xe xf xm hI) (cwV 3 hts gX3_mark_X2_putMark rfl rfl rfl hd_X2_putMark ⟨Nat.le_of_ble_eq_true rfl, Nat.le_of_ble_eq_true rfl⟩) ⟨pm_wr_blind, va_recv hK hPc (ci := 2) (q0 := 0) rfl rfl, pm_wr_pre hPc hK hDc⟩ rfl rfl hl.1 rfl (lv_room (Nat.le_of_ble_eq_true rfl)) dX3_mark_19 ⟨Nat.le_of_ble_eq_true rfl, Nat.le_of_ble_eq_true rfl⟩) hS (fun q _ h9 => pm_ad_all hDc q h9) (pm_ad_all hDc) (fun r9 u9 t9 H1 locs ht9 _ h9 hB9 _ hk9 hS => ?_)
  obtain ⟨hP, hD⟩ := pm_mid (w' := pm_shS y (L 2) (pm_aMark S xe xf xm).2) hP hD hk9 (by rw [← ht9]; exact hB9) (rfl)
  have hP : va_P D vwCl (pm_cl y L ((pm_aMark S xe xf xm).2) (pm_ub Bs (pi kn) S) pi kn Gs sv U) H1 := pm_eqP (pm_cl_s y L ((pm_aMark S xe xf xm).2) (pm_ub Bs (pi kn) S) pi kn Gs sv U).symm hP
  have hD : va_D (pm_ad (pm_cl y L S Bs pi kn Gs sv U)) (pm_cl y L ((pm_aMark S xe xf xm).2) (pm_ub Bs (pi kn) S) pi kn Gs sv U) := pm_eqD (pm_cl_s y L ((pm_aMark S xe xf xm).2) (pm_ub Bs (pi kn) S) pi kn Gs sv U).symm hD
  obtain rfl : r9 = (pm_aMark S xe xf xm).1 := h9
  refine va_calli (va_runV (As := [.int ((pm_aMark S xe xf xm).1)]) (rest := []) ⟨hx, hb, hml, hown, hts⟩ (k_X3_recorded l D y L ((pm_aMark S xe xf xm).2) (pm_ub Bs (pi kn) S) pi kn Gs sv U Hs Sl ((pm_aMark S xe xf xm).1) hC) (cwV 1 hts gX3_mark_X3_recorded rfl rfl rfl hd_X3_recorded ⟨Nat.le_of_ble_eq_true rfl, Nat.le_of_ble_eq_true rfl⟩) ⟨pm_wr_blind, va_recv hK hP (ci := 3) (q0 := 0) rfl rfl, pm_wr_pre hP hK hD⟩ rfl rfl hl.1 rfl (lv_room (Nat.le_of_ble_eq_true rfl)) dX3_mark_22 ⟨Nat.le_of_ble_eq_true rfl, Nat.le_of_ble_eq_true rfl⟩) hS (fun q _ h9 => pm_ad_all hD q h9) (pm_ad_all hD) (fun r8 u8 t8 H2 locs ht8 _ h8 hB8 _ hk8 hS => ?_)
  have hP : va_P D vwCl (pm_cl y L ((pm_aMark S xe xf xm).2) (pm_ub Bs (pi kn) S) (pm_rp pi kn ((pm_aMark S xe xf xm).1)) (pm_rk kn ((pm_aMark S xe xf xm).1)) Gs sv U) H2 := by rw [← ht8]; exact hB8
  have hD : va_D (pm_ad (pm_cl y L S Bs pi kn Gs sv U)) (pm_cl y L ((pm_aMark S xe xf xm).2) (pm_ub Bs (pi kn) S) (pm_rp pi kn ((pm_aMark S xe xf xm).1)) (pm_rk kn ((pm_aMark S xe xf xm).1)) Gs sv U) := pm_D_same (pm_cl_fst ..) hD
  obtain rfl : r8 = (pm_aMark S xe xf xm).1 := h8
  exact W.iret hx hb hr (fun t ht _ => ⟨⟨_, (), rfl, rfl, (by show va_P D vwCl (pm_cl y L (pm_aMark S xe xf xm).2 (pm_ub Bs (pi kn) S) (pm_rp pi kn (pm_aMark S xe xf xm).1) (pm_rk kn (pm_aMark S xe xf xm).1) Gs sv U) t.heap; rw [ht]; exact hP)⟩, hS.F ht⟩) hS.2.2 dX3_mark_25

set_option maxHeartbeats 4000000 in
set_option maxRecDepth 100000 in
theorem k_X3_argue (l : Launch) (D : va_G) (y : Nat → ClassId) (L : Nat → Nat → Nat) (S : Nat → Nat → Nat) (Bs : Nat → Nat → Nat → Nat) (pi : Nat → Nat) (kn : Nat) (Gs : Nat → Nat → Nat → Nat) (sv : Nat → Nat) (U : pm_PT) (Hs Sl : Nat → Nat → Nat → Nat) (xe xo xf : Int32) (hC : pm_CI Bs pi kn Gs sv Hs Sl) (hI : pm_Inv S) : Met l yX3_argue wsX3_argue ({ frames := 3, cells := 0, slots := 0, locals := 60 } : Room) (pm_wr D (pm_ty y) [.ref (L 0 0), .int xe, .int xo, .int xf] (pm_cl y L S Bs pi kn Gs sv U)) (pm_Qi D (fun (r : Int32) (_ : Unit) => r = (pm_aArgue S xe xo xf).1) (fun (_ : Unit) => pm_cl y L (pm_aArgue S xe xo xf).2 (pm_ub Bs (pi kn) S) (pm_rp pi kn (pm_aArgue S xe xo xf).1) (pm_rk kn (pm_aArgue S xe xo xf).1) Gs sv U) (pm_cl y L S Bs pi kn Gs sv U)) 0 0 (pm_ad (pm_cl y L S Bs pi kn Gs sv U)) := by
  refine Met.ofW (cc := cX3_argue) (maxL := 4) (ret := (some .int)) (by decide) rfl ?_
  intro p e s m args below meth c s₁ B hml hpre
  obtain ⟨rfl, hP, hK, hD0⟩ := hpre
  have hx := B.exec
  have hb := B.bytes
  have hr := B.returns
  have hts := atoms_spec (ws := wsX3_argue) B.pre
  have hown : s.vm.findClass RX3 = some m.cls := findClass_of_methodNamed B.named
  have hlocks := B.notSynchronized
  have hin3 : ∀ w ∈ u_ws RX3 TX3 5, w ∈ wsX3_argue := fun w h => List.mem_cons_of_mem _ (List.mem_append_left _ (List.mem_append_left _ (List.mem_append_right _ h)))
  have hin0 : ∀ w ∈ u_ws RX0 TX0 2, w ∈ wsX3_argue := fun w h => List.mem_cons_of_mem _ (List.mem_append_left _ (List.mem_append_right _ h))
  have hin2 : ∀ w ∈ u_ws RX2 TX2 15, w ∈ wsX3_argue := fun w h => List.mem_cons_of_mem _ (List.mem_append_right _ h)
  have hD := pm_ad_self hD0
  have hS : va_S (pm_ad (pm_cl y L S Bs pi kn Gs sv U)) s.heap s.heap [] := va_S.rf
  have hP : va_P D vwCl (pm_cl y L S Bs pi kn Gs sv U) s.heap := hP
  have hl := lv_entry ([.ref (L 0 0), .int xe, .int xo, .int xf]) (n := 4) (Nat.le_of_ble_eq_true rfl)
  rw [lg_entry_eq]
  generalize (lg_sl ([.ref (L 0 0), .int xe, .int xo, .int xf]) ++ List.replicate (4 - (lg_sl ([.ref (L 0 0), .int xe, .int xo, .int xf])).length) Slot.unset).toArray = ls at hl ⊢
  have hl : lv_has ls 4 [(0, .ref (L 0 0)), (1, .int xe), (2, .int xo), (3, .int xf)] := hl
  refine lv_aload_n hx hb dX3_argue_0 rfl (lv_at hl 0 rfl) ?_
  refine va_get (D := D) (ci := 3) (v := .ref (L 1 0)) (C := RX3) (T := TX3) (N := 5) hx hb hts hin3 hown hK hP 0 rfl rfl 1 (by decide) (hts (.fieldLink RX3 19 "ProofMarks" "history" "LProofMarks$History;") (List.mem_of_getElem? (i := 1) rfl)) (fun _ h9 => h9) rfl dX3_argue_1 ?_
  refine lv_aload_n hx hb dX3_argue_4 rfl (lv_at hl 0 rfl) ?_
  refine va_get (D := D) (ci := 3) (v := .ref (L 2 0)) (C := RX3) (T := TX3) (N := 5) hx hb hts hin3 hown hK hP 0 rfl rfl 0 (by decide) (hts (.fieldLink RX3 10 "ProofMarks" "sheet" "LProofMarks$Sheet;") (List.mem_of_getElem? (i := 2) rfl)) (fun _ h9 => h9) rfl dX3_argue_5 ?_
  have hP := pm_eqP (pm_cl_hs y L S Bs pi kn Gs sv U) hP
  have hD := pm_eqD (pm_cl_hs y L S Bs pi kn Gs sv U) hD
  have hPc := pm_cutP hP
  have hDc := pm_cutD hD
  refine va_callv (va_runV (As := [.ref (L 2 0)]) (rest := []) ⟨hx, hb, hml, hown, hts⟩ (k_X0_note l D y (L 1) (pm_bL L) Bs pi kn (L 2) S hC.1 hC.2.2.1) (cwV 1 hts gX3_argue_X0_note rfl rfl rfl hd_X0_note ⟨Nat.le_of_ble_eq_true rfl, Nat.le_of_ble_eq_true rfl⟩) ⟨pm_wr_blind, va_recv hK hPc (ci := 0) (q0 := 0) rfl rfl, pm_wr_pre hPc hK hDc⟩ rfl rfl hl.1 rfl (lv_room (Nat.le_of_ble_eq_true rfl)) dX3_argue_8 ⟨Nat.le_of_ble_eq_true rfl, Nat.le_of_ble_eq_true rfl⟩) hS (fun q _ h9 => pm_ad_all hDc q h9) (pm_ad_all hDc) (fun u9 t9 H1 locs ht9 _ h9 hB9 _ hk9 hS => ?_)
  obtain ⟨hP, hD⟩ := pm_mid (w' := pm_hc y (L 1) (pm_bL L) (pm_ub Bs (pi kn) S) (pm_rf (pm_bL L) pi) kn (L 2) S) hP hD hk9 (by rw [← ht9]; exact hB9) (pm_hc_fst ..)
  have hP : va_P D vwCl (pm_cl y L S (pm_ub Bs (pi kn) S) pi kn Gs sv U) H1 := pm_eqP (pm_cl_hs y L S (pm_ub Bs (pi kn) S) pi kn Gs sv U).symm hP
  have hD : va_D (pm_ad (pm_cl y L S Bs pi kn Gs sv U)) (pm_cl y L S (pm_ub Bs (pi kn) S) pi kn Gs sv U) := pm_eqD (pm_cl_hs y L S (pm_ub Bs (pi kn) S) pi kn Gs sv U).symm hD
  replace hC := pm_CI_note S hC
  refine lv_aload_n hx hb dX3_argue_11 rfl (lv_at hl 0 rfl) ?_
  refine lv_aload_n hx hb dX3_argue_12 rfl (lv_at hl 0 rfl) ?_
  refine va_get (D := D) (ci := 3) (v := .ref (L 2 0)) (C := RX3) (T := TX3) (N := 5) hx hb hts hin3 hown hK hP 0 rfl rfl 0 (by decide) (hts (.fieldLink RX3 10 "ProofMarks" "sheet" "LProofMarks$Sheet;") (List.mem_of_getElem? (i := 2) rfl)) (fun _ h9 => h9) rfl dX3_argue_13 ?_
  refine lv_iload_n hx hb dX3_argue_16 rfl (lv_at hl 1 rfl) ?_
  refine lv_iload_n hx hb dX3_argue_17 rfl (lv_at hl 2 rfl) ?_
  refine lv_iload_n hx hb dX3_argue_18 rfl (lv_at hl 3 rfl) ?_
  have hP := pm_eqP (pm_cl_s y L S (pm_ub Bs (pi kn) S) pi kn Gs sv U) hP
  have hD := pm_eqD (pm_cl_s y L S (pm_ub Bs (pi kn) S) pi kn Gs sv U) hD
  have hPc := pm_cutP hP
  have hDc := pm_cutD hD
  refine va_calli (va_runV (As := [.int xe, .int xo, .int xf]) (rest := [.ref (L 0 0)]) ⟨hx, hb, hml, hown, hts⟩ (k_X2_argueAgainst l D y (L 2) S xe xo xf hI) (cwV 3 hts gX3_argue_X2_argueAgainst rfl rfl rfl hd_X2_argueAgainst ⟨Nat.le_of_ble_eq_true rfl, Nat.le_of_ble_eq_true rfl⟩) ⟨pm_wr_blind, va_recv hK hPc (ci := 2) (q0 := 0) rfl rfl, pm_wr_pre hPc hK hDc⟩ rfl rfl hl.1 rfl (lv_room (Nat.le_of_ble_eq_true rfl)) dX3_argue_19 ⟨Nat.le_of_ble_eq_true rfl, Nat.le_of_ble_eq_true rfl⟩) hS (fun q _ h9 => pm_ad_all hDc q h9) (pm_ad_all hDc) (fun r9 u9 t9 H1 locs ht9 _ h9 hB9 _ hk9 hS => ?_)
  obtain ⟨hP, hD⟩ := pm_mid (w' := pm_shS y (L 2) (pm_aArgue S xe xo xf).2) hP hD hk9 (by rw [← ht9]; exact hB9) (rfl)
  have hP : va_P D vwCl (pm_cl y L ((pm_aArgue S xe xo xf).2) (pm_ub Bs (pi kn) S) pi kn Gs sv U) H1 := pm_eqP (pm_cl_s y L ((pm_aArgue S xe xo xf).2) (pm_ub Bs (pi kn) S) pi kn Gs sv U).symm hP
  have hD : va_D (pm_ad (pm_cl y L S Bs pi kn Gs sv U)) (pm_cl y L ((pm_aArgue S xe xo xf).2) (pm_ub Bs (pi kn) S) pi kn Gs sv U) := pm_eqD (pm_cl_s y L ((pm_aArgue S xe xo xf).2) (pm_ub Bs (pi kn) S) pi kn Gs sv U).symm hD
  obtain rfl : r9 = (pm_aArgue S xe xo xf).1 := h9
  refine va_calli (va_runV (As := [.int ((pm_aArgue S xe xo xf).1)]) (rest := []) ⟨hx, hb, hml, hown, hts⟩ (k_X3_recorded l D y L ((pm_aArgue S xe xo xf).2) (pm_ub Bs (pi kn) S) pi kn Gs sv U Hs Sl ((pm_aArgue S xe xo xf).1) hC) (cwV 1 hts gX3_argue_X3_recorded rfl rfl rfl hd_X3_recorded ⟨Nat.le_of_ble_eq_true rfl, Nat.le_of_ble_eq_true rfl⟩) ⟨pm_wr_blind, va_recv hK hP (ci := 3) (q0 := 0) rfl rfl, pm_wr_pre hP hK hD⟩ rfl rfl hl.1 rfl (lv_room (Nat.le_of_ble_eq_true rfl)) dX3_argue_22 ⟨Nat.le_of_ble_eq_true rfl, Nat.le_of_ble_eq_true rfl⟩) hS (fun q _ h9 => pm_ad_all hD q h9) (pm_ad_all hD) (fun r8 u8 t8 H2 locs ht8 _ h8 hB8 _ hk8 hS => ?_)
  have hP : va_P D vwCl (pm_cl y L ((pm_aArgue S xe xo xf).2) (pm_ub Bs (pi kn) S) (pm_rp pi kn ((pm_aArgue S xe xo xf).1)) (pm_rk kn ((pm_aArgue S xe xo xf).1)) Gs sv U) H2 := by rw [← ht8]; exact hB8
  have hD : va_D (pm_ad (pm_cl y L S Bs pi kn Gs sv U)) (pm_cl y L ((pm_aArgue S xe xo xf).2) (pm_ub Bs (pi kn) S) (pm_rp pi kn ((pm_aArgue S xe xo xf).1)) (pm_rk kn ((pm_aArgue S xe xo xf).1)) Gs sv U) := pm_D_same (pm_cl_fst ..) hD
  obtain rfl : r8 = (pm_aArgue S xe xo xf).1 := h8
  exact W.iret hx hb hr (fun t ht _ => ⟨⟨_, (), rfl, rfl, (by show va_P D vwCl (pm_cl y L (pm_aArgue S xe xo xf).2 (pm_ub Bs (pi kn) S) (pm_rp pi kn (pm_aArgue S xe xo xf).1) (pm_rk kn (pm_aArgue S xe xo xf).1) Gs sv U) t.heap; rw [ht]; exact hP)⟩, hS.F ht⟩) hS.2.2 dX3_argue_25

set_option maxHeartbeats 4000000 in
set_option maxRecDepth 100000 in
theorem k_X3_round (l : Launch) (D : va_G) (y : Nat → ClassId) (L : Nat → Nat → Nat) (S : Nat → Nat → Nat) (Bs : Nat → Nat → Nat → Nat) (pi : Nat → Nat) (kn : Nat) (Gs : Nat → Nat → Nat → Nat) (sv : Nat → Nat) (U : pm_PT) (Hs Sl : Nat → Nat → Nat → Nat) (hC : pm_CI Bs pi kn Gs sv Hs Sl) (hI : pm_Inv S) : Met l yX3_round wsX3_round ({ frames := 5, cells := 0, slots := 0, locals := 108 } : Room) (pm_wr D (pm_ty y) [.ref (L 0 0)] (pm_cl y L S Bs pi kn Gs sv U)) (pm_Qi D (fun (r : Int32) (_ : Unit) => r = (pm_aRound S).1) (fun (_ : Unit) => pm_cl y L (pm_aRound S).2 (pm_ub Bs (pi kn) S) (pm_rp pi kn (pm_aRound S).1) (pm_rk kn (pm_aRound S).1) Gs sv U) (pm_cl y L S Bs pi kn Gs sv U)) 0 0 (pm_ad (pm_cl y L S Bs pi kn Gs sv U)) := by
  refine Met.ofW (cc := cX3_round) (maxL := 1) (ret := (some .int)) (by decide) rfl ?_
  intro p e s m args below meth c s₁ B hml hpre
  obtain ⟨rfl, hP, hK, hD0⟩ := hpre
  have hx := B.exec
  have hb := B.bytes
  have hr := B.returns
  have hts := atoms_spec (ws := wsX3_round) B.pre
  have hown : s.vm.findClass RX3 = some m.cls := findClass_of_methodNamed B.named
  have hlocks := B.notSynchronized
  have hin3 : ∀ w ∈ u_ws RX3 TX3 5, w ∈ wsX3_round := fun w h => List.mem_cons_of_mem _ (List.mem_append_left _ (List.mem_append_left _ (List.mem_append_right _ h)))
  have hin0 : ∀ w ∈ u_ws RX0 TX0 2, w ∈ wsX3_round := fun w h => List.mem_cons_of_mem _ (List.mem_append_left _ (List.mem_append_right _ h))
  have hin2 : ∀ w ∈ u_ws RX2 TX2 15, w ∈ wsX3_round := fun w h => List.mem_cons_of_mem _ (List.mem_append_right _ h)
  have hD := pm_ad_self hD0
  have hS : va_S (pm_ad (pm_cl y L S Bs pi kn Gs sv U)) s.heap s.heap [] := va_S.rf
  have hP : va_P D vwCl (pm_cl y L S Bs pi kn Gs sv U) s.heap := hP
  have hl := lv_entry ([.ref (L 0 0)]) (n := 1) (Nat.le_of_ble_eq_true rfl)
  rw [lg_entry_eq]
  generalize (lg_sl ([.ref (L 0 0)]) ++ List.replicate (1 - (lg_sl ([.ref (L 0 0)])).length) Slot.unset).toArray = ls at hl ⊢
  have hl : lv_has ls 1 [(0, .ref (L 0 0))] := hl
  refine lv_aload_n hx hb dX3_round_0 rfl (lv_at hl 0 rfl) ?_
  refine va_get (D := D) (ci := 3) (v := .ref (L 1 0)) (C := RX3) (T := TX3) (N := 5) hx hb hts hin3 hown hK hP 0 rfl rfl 1 (by decide) (hts (.fieldLink RX3 19 "ProofMarks" "history" "LProofMarks$History;") (List.mem_of_getElem? (i := 1) rfl)) (fun _ h9 => h9) rfl dX3_round_1 ?_
  refine lv_aload_n hx hb dX3_round_4 rfl (lv_at hl 0 rfl) ?_
  refine va_get (D := D) (ci := 3) (v := .ref (L 2 0)) (C := RX3) (T := TX3) (N := 5) hx hb hts hin3 hown hK hP 0 rfl rfl 0 (by decide) (hts (.fieldLink RX3 10 "ProofMarks" "sheet" "LProofMarks$Sheet;") (List.mem_of_getElem? (i := 2) rfl)) (fun _ h9 => h9) rfl dX3_round_5 ?_
  have hP := pm_eqP (pm_cl_hs y L S Bs pi kn Gs sv U) hP
  have hD := pm_eqD (pm_cl_hs y L S Bs pi kn Gs sv U) hD
  have hPc := pm_cutP hP
  have hDc := pm_cutD hD
  refine va_callv (va_runV (As := [.ref (L 2 0)]) (rest := []) ⟨hx, hb, hml, hown, hts⟩ (k_X0_note l D y (L 1) (pm_bL L) Bs pi kn (L 2) S hC.1 hC.2.2.1) (cwV 1 hts gX3_round_X0_note rfl rfl rfl hd_X0_note ⟨Nat.le_of_ble_eq_true rfl, Nat.le_of_ble_eq_true rfl⟩) ⟨pm_wr_blind, va_recv hK hPc (ci := 0) (q0 := 0) rfl rfl, pm_wr_pre hPc hK hDc⟩ rfl rfl hl.1 rfl (lv_room (Nat.le_of_ble_eq_true rfl)) dX3_round_8 ⟨Nat.le_of_ble_eq_true rfl, Nat.le_of_ble_eq_true rfl⟩) hS (fun q _ h9 => pm_ad_all hDc q h9) (pm_ad_all hDc) (fun u9 t9 H1 locs ht9 _ h9 hB9 _ hk9 hS => ?_)
  obtain ⟨hP, hD⟩ := pm_mid (w' := pm_hc y (L 1) (pm_bL L) (pm_ub Bs (pi kn) S) (pm_rf (pm_bL L) pi) kn (L 2) S) hP hD hk9 (by rw [← ht9]; exact hB9) (pm_hc_fst ..)
  have hP : va_P D vwCl (pm_cl y L S (pm_ub Bs (pi kn) S) pi kn Gs sv U) H1 := pm_eqP (pm_cl_hs y L S (pm_ub Bs (pi kn) S) pi kn Gs sv U).symm hP
  have hD : va_D (pm_ad (pm_cl y L S Bs pi kn Gs sv U)) (pm_cl y L S (pm_ub Bs (pi kn) S) pi kn Gs sv U) := pm_eqD (pm_cl_hs y L S (pm_ub Bs (pi kn) S) pi kn Gs sv U).symm hD
  replace hC := pm_CI_note S hC
  refine lv_aload_n hx hb dX3_round_11 rfl (lv_at hl 0 rfl) ?_
  refine lv_aload_n hx hb dX3_round_12 rfl (lv_at hl 0 rfl) ?_
  refine va_get (D := D) (ci := 3) (v := .ref (L 2 0)) (C := RX3) (T := TX3) (N := 5) hx hb hts hin3 hown hK hP 0 rfl rfl 0 (by decide) (hts (.fieldLink RX3 10 "ProofMarks" "sheet" "LProofMarks$Sheet;") (List.mem_of_getElem? (i := 2) rfl)) (fun _ h9 => h9) rfl dX3_round_13 ?_
  have hP := pm_eqP (pm_cl_s y L S (pm_ub Bs (pi kn) S) pi kn Gs sv U) hP
  have hD := pm_eqD (pm_cl_s y L S (pm_ub Bs (pi kn) S) pi kn Gs sv U) hD
  have hPc := pm_cutP hP
  have hDc := pm_cutD hD
  refine va_calli (va_runV (As := []) (rest := [.ref (L 0 0)]) ⟨hx, hb, hml, hown, hts⟩ (k_X2_endRound l D y (L 2) S  hI) (cwV 0 hts gX3_round_X2_endRound rfl rfl rfl hd_X2_endRound ⟨Nat.le_of_ble_eq_true rfl, Nat.le_of_ble_eq_true rfl⟩) ⟨pm_wr_blind, va_recv hK hPc (ci := 2) (q0 := 0) rfl rfl, pm_wr_pre hPc hK hDc⟩ rfl rfl hl.1 rfl (lv_room (Nat.le_of_ble_eq_true rfl)) dX3_round_16 ⟨Nat.le_of_ble_eq_true rfl, Nat.le_of_ble_eq_true rfl⟩) hS (fun q _ h9 => pm_ad_all hDc q h9) (pm_ad_all hDc) (fun r9 u9 t9 H1 locs ht9 _ h9 hB9 _ hk9 hS => ?_)
  obtain ⟨hP, hD⟩ := pm_mid (w' := pm_shS y (L 2) (pm_aRound S).2) hP hD hk9 (by rw [← ht9]; exact hB9) (rfl)
  have hP : va_P D vwCl (pm_cl y L ((pm_aRound S).2) (pm_ub Bs (pi kn) S) pi kn Gs sv U) H1 := pm_eqP (pm_cl_s y L ((pm_aRound S).2) (pm_ub Bs (pi kn) S) pi kn Gs sv U).symm hP
  have hD : va_D (pm_ad (pm_cl y L S Bs pi kn Gs sv U)) (pm_cl y L ((pm_aRound S).2) (pm_ub Bs (pi kn) S) pi kn Gs sv U) := pm_eqD (pm_cl_s y L ((pm_aRound S).2) (pm_ub Bs (pi kn) S) pi kn Gs sv U).symm hD
  obtain rfl : r9 = (pm_aRound S).1 := h9
  refine va_calli (va_runV (As := [.int ((pm_aRound S).1)]) (rest := []) ⟨hx, hb, hml, hown, hts⟩ (k_X3_recorded l D y L ((pm_aRound S).2) (pm_ub Bs (pi kn) S) pi kn Gs sv U Hs Sl ((pm_aRound S).1) hC) (cwV 1 hts gX3_round_X3_recorded rfl rfl rfl hd_X3_recorded ⟨Nat.le_of_ble_eq_true rfl, Nat.le_of_ble_eq_true rfl⟩) ⟨pm_wr_blind, va_recv hK hP (ci := 3) (q0 := 0) rfl rfl, pm_wr_pre hP hK hD⟩ rfl rfl hl.1 rfl (lv_room (Nat.le_of_ble_eq_true rfl)) dX3_round_19 ⟨Nat.le_of_ble_eq_true rfl, Nat.le_of_ble_eq_true rfl⟩) hS (fun q _ h9 => pm_ad_all hD q h9) (pm_ad_all hD) (fun r8 u8 t8 H2 locs ht8 _ h8 hB8 _ hk8 hS => ?_)
  have hP : va_P D vwCl (pm_cl y L ((pm_aRound S).2) (pm_ub Bs (pi kn) S) (pm_rp pi kn ((pm_aRound S).1)) (pm_rk kn ((pm_aRound S).1)) Gs sv U) H2 := by rw [← ht8]; exact hB8
  have hD : va_D (pm_ad (pm_cl y L S Bs pi kn Gs sv U)) (pm_cl y L ((pm_aRound S).2) (pm_ub Bs (pi kn) S) (pm_rp pi kn ((pm_aRound S).1)) (pm_rk kn ((pm_aRound S).1)) Gs sv U) := pm_D_same (pm_cl_fst ..) hD
  obtain rfl : r8 = (pm_aRound S).1 := h8
  exact W.iret hx hb hr (fun t ht _ => ⟨⟨_, (), rfl, rfl, (by show va_P D vwCl (pm_cl y L (pm_aRound S).2 (pm_ub Bs (pi kn) S) (pm_rp pi kn (pm_aRound S).1) (pm_rk kn (pm_aRound S).1) Gs sv U) t.heap; rw [ht]; exact hP)⟩, hS.F ht⟩) hS.2.2 dX3_round_22

set_option maxHeartbeats 4000000 in
set_option maxRecDepth 100000 in
theorem k_X3_print (l : Launch) (D : va_G) (y : Nat → ClassId) (L : Nat → Nat → Nat) (S : Nat → Nat → Nat) (Bs : Nat → Nat → Nat → Nat) (pi : Nat → Nat) (kn : Nat) (Gs : Nat → Nat → Nat → Nat) (sv : Nat → Nat) (U : pm_PT) (Hs Sl : Nat → Nat → Nat → Nat) (xf xz : Int32) (hC : pm_CI Bs pi kn Gs sv Hs Sl) (hI : pm_Inv S) : Met l yX3_print wsX3_print ({ frames := 3, cells := 0, slots := 0, locals := 60 } : Room) (pm_wr D (pm_ty y) [.ref (L 0 0), .int xf, .int xz] (pm_cl y L S Bs pi kn Gs sv U)) (pm_Qi D (fun (r : Int32) (_ : Unit) => r = (pm_aPrint S xf xz).1) (fun (_ : Unit) => pm_cl y L (pm_aPrint S xf xz).2 (pm_ub Bs (pi kn) S) (pm_rp pi kn (pm_aPrint S xf xz).1) (pm_rk kn (pm_aPrint S xf xz).1) Gs sv U) (pm_cl y L S Bs pi kn Gs sv U)) 0 0 (pm_ad (pm_cl y L S Bs pi kn Gs sv U)) := by
  refine Met.ofW (cc := cX3_print) (maxL := 3) (ret := (some .int)) (by decide) rfl ?_
  intro p e s m args below meth c s₁ B hml hpre
  obtain ⟨rfl, hP, hK, hD0⟩ := hpre
  have hx := B.exec
  have hb := B.bytes
  have hr := B.returns
  have hts := atoms_spec (ws := wsX3_print) B.pre
  have hown : s.vm.findClass RX3 = some m.cls := findClass_of_methodNamed B.named
  have hlocks := B.notSynchronized
  have hin3 : ∀ w ∈ u_ws RX3 TX3 5, w ∈ wsX3_print := fun w h => List.mem_cons_of_mem _ (List.mem_append_left _ (List.mem_append_left _ (List.mem_append_right _ h)))
  have hin0 : ∀ w ∈ u_ws RX0 TX0 2, w ∈ wsX3_print := fun w h => List.mem_cons_of_mem _ (List.mem_append_left _ (List.mem_append_right _ h))
  have hin2 : ∀ w ∈ u_ws RX2 TX2 15, w ∈ wsX3_print := fun w h => List.mem_cons_of_mem _ (List.mem_append_right _ h)
  have hD := pm_ad_self hD0
  have hS : va_S (pm_ad (pm_cl y L S Bs pi kn Gs sv U)) s.heap s.heap [] := va_S.rf
  have hP : va_P D vwCl (pm_cl y L S Bs pi kn Gs sv U) s.heap := hP
  have hl := lv_entry ([.ref (L 0 0), .int xf, .int xz]) (n := 3) (Nat.le_of_ble_eq_true rfl)
  rw [lg_entry_eq]
  generalize (lg_sl ([.ref (L 0 0), .int xf, .int xz]) ++ List.replicate (3 - (lg_sl ([.ref (L 0 0), .int xf, .int xz])).length) Slot.unset).toArray = ls at hl ⊢
  have hl : lv_has ls 3 [(0, .ref (L 0 0)), (1, .int xf), (2, .int xz)] := hl
  refine lv_aload_n hx hb dX3_print_0 rfl (lv_at hl 0 rfl) ?_
  refine va_get (D := D) (ci := 3) (v := .ref (L 1 0)) (C := RX3) (T := TX3) (N := 5) hx hb hts hin3 hown hK hP 0 rfl rfl 1 (by decide) (hts (.fieldLink RX3 19 "ProofMarks" "history" "LProofMarks$History;") (List.mem_of_getElem? (i := 1) rfl)) (fun _ h9 => h9) rfl dX3_print_1 ?_
  refine lv_aload_n hx hb dX3_print_4 rfl (lv_at hl 0 rfl) ?_
  refine va_get (D := D) (ci := 3) (v := .ref (L 2 0)) (C := RX3) (T := TX3) (N := 5) hx hb hts hin3 hown hK hP 0 rfl rfl 0 (by decide) (hts (.fieldLink RX3 10 "ProofMarks" "sheet" "LProofMarks$Sheet;") (List.mem_of_getElem? (i := 2) rfl)) (fun _ h9 => h9) rfl dX3_print_5 ?_
  have hP := pm_eqP (pm_cl_hs y L S Bs pi kn Gs sv U) hP
  have hD := pm_eqD (pm_cl_hs y L S Bs pi kn Gs sv U) hD
  have hPc := pm_cutP hP
  have hDc := pm_cutD hD
  refine va_callv (va_runV (As := [.ref (L 2 0)]) (rest := []) ⟨hx, hb, hml, hown, hts⟩ (k_X0_note l D y (L 1) (pm_bL L) Bs pi kn (L 2) S hC.1 hC.2.2.1) (cwV 1 hts gX3_print_X0_note rfl rfl rfl hd_X0_note ⟨Nat.le_of_ble_eq_true rfl, Nat.le_of_ble_eq_true rfl⟩) ⟨pm_wr_blind, va_recv hK hPc (ci := 0) (q0 := 0) rfl rfl, pm_wr_pre hPc hK hDc⟩ rfl rfl hl.1 rfl (lv_room (Nat.le_of_ble_eq_true rfl)) dX3_print_8 ⟨Nat.le_of_ble_eq_true rfl, Nat.le_of_ble_eq_true rfl⟩) hS (fun q _ h9 => pm_ad_all hDc q h9) (pm_ad_all hDc) (fun u9 t9 H1 locs ht9 _ h9 hB9 _ hk9 hS => ?_)
  obtain ⟨hP, hD⟩ := pm_mid (w' := pm_hc y (L 1) (pm_bL L) (pm_ub Bs (pi kn) S) (pm_rf (pm_bL L) pi) kn (L 2) S) hP hD hk9 (by rw [← ht9]; exact hB9) (pm_hc_fst ..)
  have hP : va_P D vwCl (pm_cl y L S (pm_ub Bs (pi kn) S) pi kn Gs sv U) H1 := pm_eqP (pm_cl_hs y L S (pm_ub Bs (pi kn) S) pi kn Gs sv U).symm hP
  have hD : va_D (pm_ad (pm_cl y L S Bs pi kn Gs sv U)) (pm_cl y L S (pm_ub Bs (pi kn) S) pi kn Gs sv U) := pm_eqD (pm_cl_hs y L S (pm_ub Bs (pi kn) S) pi kn Gs sv U).symm hD
  replace hC := pm_CI_note S hC
  refine lv_aload_n hx hb dX3_print_11 rfl (lv_at hl 0 rfl) ?_
  refine lv_aload_n hx hb dX3_print_12 rfl (lv_at hl 0 rfl) ?_
  refine va_get (D := D) (ci := 3) (v := .ref (L 2 0)) (C := RX3) (T := TX3) (N := 5) hx hb hts hin3 hown hK hP 0 rfl rfl 0 (by decide) (hts (.fieldLink RX3 10 "ProofMarks" "sheet" "LProofMarks$Sheet;") (List.mem_of_getElem? (i := 2) rfl)) (fun _ h9 => h9) rfl dX3_print_13 ?_
  refine lv_iload_n hx hb dX3_print_16 rfl (lv_at hl 1 rfl) ?_
  refine lv_iload_n hx hb dX3_print_17 rfl (lv_at hl 2 rfl) ?_
  have hP := pm_eqP (pm_cl_s y L S (pm_ub Bs (pi kn) S) pi kn Gs sv U) hP
  have hD := pm_eqD (pm_cl_s y L S (pm_ub Bs (pi kn) S) pi kn Gs sv U) hD
  have hPc := pm_cutP hP
  have hDc := pm_cutD hD
  refine va_calli (va_runV (As := [.int xf, .int xz]) (rest := [.ref (L 0 0)]) ⟨hx, hb, hml, hown, hts⟩ (k_X2_printFrame l D y (L 2) S xf xz hI) (cwV 2 hts gX3_print_X2_printFrame rfl rfl rfl hd_X2_printFrame ⟨Nat.le_of_ble_eq_true rfl, Nat.le_of_ble_eq_true rfl⟩) ⟨pm_wr_blind, va_recv hK hPc (ci := 2) (q0 := 0) rfl rfl, pm_wr_pre hPc hK hDc⟩ rfl rfl hl.1 rfl (lv_room (Nat.le_of_ble_eq_true rfl)) dX3_print_18 ⟨Nat.le_of_ble_eq_true rfl, Nat.le_of_ble_eq_true rfl⟩) hS (fun q _ h9 => pm_ad_all hDc q h9) (pm_ad_all hDc) (fun r9 u9 t9 H1 locs ht9 _ h9 hB9 _ hk9 hS => ?_)
  obtain ⟨hP, hD⟩ := pm_mid (w' := pm_shS y (L 2) (pm_aPrint S xf xz).2) hP hD hk9 (by rw [← ht9]; exact hB9) (rfl)
  have hP : va_P D vwCl (pm_cl y L ((pm_aPrint S xf xz).2) (pm_ub Bs (pi kn) S) pi kn Gs sv U) H1 := pm_eqP (pm_cl_s y L ((pm_aPrint S xf xz).2) (pm_ub Bs (pi kn) S) pi kn Gs sv U).symm hP
  have hD : va_D (pm_ad (pm_cl y L S Bs pi kn Gs sv U)) (pm_cl y L ((pm_aPrint S xf xz).2) (pm_ub Bs (pi kn) S) pi kn Gs sv U) := pm_eqD (pm_cl_s y L ((pm_aPrint S xf xz).2) (pm_ub Bs (pi kn) S) pi kn Gs sv U).symm hD
  obtain rfl : r9 = (pm_aPrint S xf xz).1 := h9
  refine va_calli (va_runV (As := [.int ((pm_aPrint S xf xz).1)]) (rest := []) ⟨hx, hb, hml, hown, hts⟩ (k_X3_recorded l D y L ((pm_aPrint S xf xz).2) (pm_ub Bs (pi kn) S) pi kn Gs sv U Hs Sl ((pm_aPrint S xf xz).1) hC) (cwV 1 hts gX3_print_X3_recorded rfl rfl rfl hd_X3_recorded ⟨Nat.le_of_ble_eq_true rfl, Nat.le_of_ble_eq_true rfl⟩) ⟨pm_wr_blind, va_recv hK hP (ci := 3) (q0 := 0) rfl rfl, pm_wr_pre hP hK hD⟩ rfl rfl hl.1 rfl (lv_room (Nat.le_of_ble_eq_true rfl)) dX3_print_21 ⟨Nat.le_of_ble_eq_true rfl, Nat.le_of_ble_eq_true rfl⟩) hS (fun q _ h9 => pm_ad_all hD q h9) (pm_ad_all hD) (fun r8 u8 t8 H2 locs ht8 _ h8 hB8 _ hk8 hS => ?_)
  have hP : va_P D vwCl (pm_cl y L ((pm_aPrint S xf xz).2) (pm_ub Bs (pi kn) S) (pm_rp pi kn ((pm_aPrint S xf xz).1)) (pm_rk kn ((pm_aPrint S xf xz).1)) Gs sv U) H2 := by rw [← ht8]; exact hB8
  have hD : va_D (pm_ad (pm_cl y L S Bs pi kn Gs sv U)) (pm_cl y L ((pm_aPrint S xf xz).2) (pm_ub Bs (pi kn) S) (pm_rp pi kn ((pm_aPrint S xf xz).1)) (pm_rk kn ((pm_aPrint S xf xz).1)) Gs sv U) := pm_D_same (pm_cl_fst ..) hD
  obtain rfl : r8 = (pm_aPrint S xf xz).1 := h8
  exact W.iret hx hb hr (fun t ht _ => ⟨⟨_, (), rfl, rfl, (by show va_P D vwCl (pm_cl y L (pm_aPrint S xf xz).2 (pm_ub Bs (pi kn) S) (pm_rp pi kn (pm_aPrint S xf xz).1) (pm_rk kn (pm_aPrint S xf xz).1) Gs sv U) t.heap; rw [ht]; exact hP)⟩, hS.F ht⟩) hS.2.2 dX3_print_24

set_option maxHeartbeats 4000000 in
set_option maxRecDepth 100000 in
theorem k_X3_buy (l : Launch) (D : va_G) (y : Nat → ClassId) (L : Nat → Nat → Nat) (S : Nat → Nat → Nat) (Bs : Nat → Nat → Nat → Nat) (pi : Nat → Nat) (kn : Nat) (Gs : Nat → Nat → Nat → Nat) (sv : Nat → Nat) (U : pm_PT) (Hs Sl : Nat → Nat → Nat → Nat) (xb : Int32) (hC : pm_CI Bs pi kn Gs sv Hs Sl) (hI : pm_Inv S) : Met l yX3_buy wsX3_buy ({ frames := 3, cells := 0, slots := 0, locals := 60 } : Room) (pm_wr D (pm_ty y) [.ref (L 0 0), .int xb] (pm_cl y L S Bs pi kn Gs sv U)) (pm_Qi D (fun (r : Int32) (_ : Unit) => r = (pm_aBuy S xb).1) (fun (_ : Unit) => pm_cl y L (pm_aBuy S xb).2 (pm_ub Bs (pi kn) S) (pm_rp pi kn (pm_aBuy S xb).1) (pm_rk kn (pm_aBuy S xb).1) Gs sv U) (pm_cl y L S Bs pi kn Gs sv U)) 0 0 (pm_ad (pm_cl y L S Bs pi kn Gs sv U)) := by
  refine Met.ofW (cc := cX3_buy) (maxL := 2) (ret := (some .int)) (by decide) rfl ?_
  intro p e s m args below meth c s₁ B hml hpre
  obtain ⟨rfl, hP, hK, hD0⟩ := hpre
  have hx := B.exec
  have hb := B.bytes
  have hr := B.returns
  have hts := atoms_spec (ws := wsX3_buy) B.pre
  have hown : s.vm.findClass RX3 = some m.cls := findClass_of_methodNamed B.named
  have hlocks := B.notSynchronized
  have hin3 : ∀ w ∈ u_ws RX3 TX3 5, w ∈ wsX3_buy := fun w h => List.mem_cons_of_mem _ (List.mem_append_left _ (List.mem_append_left _ (List.mem_append_right _ h)))
  have hin0 : ∀ w ∈ u_ws RX0 TX0 2, w ∈ wsX3_buy := fun w h => List.mem_cons_of_mem _ (List.mem_append_left _ (List.mem_append_right _ h))
  have hin2 : ∀ w ∈ u_ws RX2 TX2 15, w ∈ wsX3_buy := fun w h => List.mem_cons_of_mem _ (List.mem_append_right _ h)
  have hD := pm_ad_self hD0
  have hS : va_S (pm_ad (pm_cl y L S Bs pi kn Gs sv U)) s.heap s.heap [] := va_S.rf
  have hP : va_P D vwCl (pm_cl y L S Bs pi kn Gs sv U) s.heap := hP
  have hl := lv_entry ([.ref (L 0 0), .int xb]) (n := 2) (Nat.le_of_ble_eq_true rfl)
  rw [lg_entry_eq]
  generalize (lg_sl ([.ref (L 0 0), .int xb]) ++ List.replicate (2 - (lg_sl ([.ref (L 0 0), .int xb])).length) Slot.unset).toArray = ls at hl ⊢
  have hl : lv_has ls 2 [(0, .ref (L 0 0)), (1, .int xb)] := hl
  refine lv_aload_n hx hb dX3_buy_0 rfl (lv_at hl 0 rfl) ?_
  refine va_get (D := D) (ci := 3) (v := .ref (L 1 0)) (C := RX3) (T := TX3) (N := 5) hx hb hts hin3 hown hK hP 0 rfl rfl 1 (by decide) (hts (.fieldLink RX3 19 "ProofMarks" "history" "LProofMarks$History;") (List.mem_of_getElem? (i := 1) rfl)) (fun _ h9 => h9) rfl dX3_buy_1 ?_
  refine lv_aload_n hx hb dX3_buy_4 rfl (lv_at hl 0 rfl) ?_
  refine va_get (D := D) (ci := 3) (v := .ref (L 2 0)) (C := RX3) (T := TX3) (N := 5) hx hb hts hin3 hown hK hP 0 rfl rfl 0 (by decide) (hts (.fieldLink RX3 10 "ProofMarks" "sheet" "LProofMarks$Sheet;") (List.mem_of_getElem? (i := 2) rfl)) (fun _ h9 => h9) rfl dX3_buy_5 ?_
  have hP := pm_eqP (pm_cl_hs y L S Bs pi kn Gs sv U) hP
  have hD := pm_eqD (pm_cl_hs y L S Bs pi kn Gs sv U) hD
  have hPc := pm_cutP hP
  have hDc := pm_cutD hD
  refine va_callv (va_runV (As := [.ref (L 2 0)]) (rest := []) ⟨hx, hb, hml, hown, hts⟩ (k_X0_note l D y (L 1) (pm_bL L) Bs pi kn (L 2) S hC.1 hC.2.2.1) (cwV 1 hts gX3_buy_X0_note rfl rfl rfl hd_X0_note ⟨Nat.le_of_ble_eq_true rfl, Nat.le_of_ble_eq_true rfl⟩) ⟨pm_wr_blind, va_recv hK hPc (ci := 0) (q0 := 0) rfl rfl, pm_wr_pre hPc hK hDc⟩ rfl rfl hl.1 rfl (lv_room (Nat.le_of_ble_eq_true rfl)) dX3_buy_8 ⟨Nat.le_of_ble_eq_true rfl, Nat.le_of_ble_eq_true rfl⟩) hS (fun q _ h9 => pm_ad_all hDc q h9) (pm_ad_all hDc) (fun u9 t9 H1 locs ht9 _ h9 hB9 _ hk9 hS => ?_)
  obtain ⟨hP, hD⟩ := pm_mid (w' := pm_hc y (L 1) (pm_bL L) (pm_ub Bs (pi kn) S) (pm_rf (pm_bL L) pi) kn (L 2) S) hP hD hk9 (by rw [← ht9]; exact hB9) (pm_hc_fst ..)
  have hP : va_P D vwCl (pm_cl y L S (pm_ub Bs (pi kn) S) pi kn Gs sv U) H1 := pm_eqP (pm_cl_hs y L S (pm_ub Bs (pi kn) S) pi kn Gs sv U).symm hP
  have hD : va_D (pm_ad (pm_cl y L S Bs pi kn Gs sv U)) (pm_cl y L S (pm_ub Bs (pi kn) S) pi kn Gs sv U) := pm_eqD (pm_cl_hs y L S (pm_ub Bs (pi kn) S) pi kn Gs sv U).symm hD
  replace hC := pm_CI_note S hC
  refine lv_aload_n hx hb dX3_buy_11 rfl (lv_at hl 0 rfl) ?_
  refine lv_aload_n hx hb dX3_buy_12 rfl (lv_at hl 0 rfl) ?_
  refine va_get (D := D) (ci := 3) (v := .ref (L 2 0)) (C := RX3) (T := TX3) (N := 5) hx hb hts hin3 hown hK hP 0 rfl rfl 0 (by decide) (hts (.fieldLink RX3 10 "ProofMarks" "sheet" "LProofMarks$Sheet;") (List.mem_of_getElem? (i := 2) rfl)) (fun _ h9 => h9) rfl dX3_buy_13 ?_
  refine lv_iload_n hx hb dX3_buy_16 rfl (lv_at hl 1 rfl) ?_
  have hP := pm_eqP (pm_cl_s y L S (pm_ub Bs (pi kn) S) pi kn Gs sv U) hP
  have hD := pm_eqD (pm_cl_s y L S (pm_ub Bs (pi kn) S) pi kn Gs sv U) hD
  have hPc := pm_cutP hP
  have hDc := pm_cutD hD
  refine va_calli (va_runV (As := [.int xb]) (rest := [.ref (L 0 0)]) ⟨hx, hb, hml, hown, hts⟩ (k_X2_addPaper l D y (L 2) S xb hI) (cwV 1 hts gX3_buy_X2_addPaper rfl rfl rfl hd_X2_addPaper ⟨Nat.le_of_ble_eq_true rfl, Nat.le_of_ble_eq_true rfl⟩) ⟨pm_wr_blind, va_recv hK hPc (ci := 2) (q0 := 0) rfl rfl, pm_wr_pre hPc hK hDc⟩ rfl rfl hl.1 rfl (lv_room (Nat.le_of_ble_eq_true rfl)) dX3_buy_17 ⟨Nat.le_of_ble_eq_true rfl, Nat.le_of_ble_eq_true rfl⟩) hS (fun q _ h9 => pm_ad_all hDc q h9) (pm_ad_all hDc) (fun r9 u9 t9 H1 locs ht9 _ h9 hB9 _ hk9 hS => ?_)
  obtain ⟨hP, hD⟩ := pm_mid (w' := pm_shS y (L 2) (pm_aBuy S xb).2) hP hD hk9 (by rw [← ht9]; exact hB9) (rfl)
  have hP : va_P D vwCl (pm_cl y L ((pm_aBuy S xb).2) (pm_ub Bs (pi kn) S) pi kn Gs sv U) H1 := pm_eqP (pm_cl_s y L ((pm_aBuy S xb).2) (pm_ub Bs (pi kn) S) pi kn Gs sv U).symm hP
  have hD : va_D (pm_ad (pm_cl y L S Bs pi kn Gs sv U)) (pm_cl y L ((pm_aBuy S xb).2) (pm_ub Bs (pi kn) S) pi kn Gs sv U) := pm_eqD (pm_cl_s y L ((pm_aBuy S xb).2) (pm_ub Bs (pi kn) S) pi kn Gs sv U).symm hD
  obtain rfl : r9 = (pm_aBuy S xb).1 := h9
  refine va_calli (va_runV (As := [.int ((pm_aBuy S xb).1)]) (rest := []) ⟨hx, hb, hml, hown, hts⟩ (k_X3_recorded l D y L ((pm_aBuy S xb).2) (pm_ub Bs (pi kn) S) pi kn Gs sv U Hs Sl ((pm_aBuy S xb).1) hC) (cwV 1 hts gX3_buy_X3_recorded rfl rfl rfl hd_X3_recorded ⟨Nat.le_of_ble_eq_true rfl, Nat.le_of_ble_eq_true rfl⟩) ⟨pm_wr_blind, va_recv hK hP (ci := 3) (q0 := 0) rfl rfl, pm_wr_pre hP hK hD⟩ rfl rfl hl.1 rfl (lv_room (Nat.le_of_ble_eq_true rfl)) dX3_buy_20 ⟨Nat.le_of_ble_eq_true rfl, Nat.le_of_ble_eq_true rfl⟩) hS (fun q _ h9 => pm_ad_all hD q h9) (pm_ad_all hD) (fun r8 u8 t8 H2 locs ht8 _ h8 hB8 _ hk8 hS => ?_)
  have hP : va_P D vwCl (pm_cl y L ((pm_aBuy S xb).2) (pm_ub Bs (pi kn) S) (pm_rp pi kn ((pm_aBuy S xb).1)) (pm_rk kn ((pm_aBuy S xb).1)) Gs sv U) H2 := by rw [← ht8]; exact hB8
  have hD : va_D (pm_ad (pm_cl y L S Bs pi kn Gs sv U)) (pm_cl y L ((pm_aBuy S xb).2) (pm_ub Bs (pi kn) S) (pm_rp pi kn ((pm_aBuy S xb).1)) (pm_rk kn ((pm_aBuy S xb).1)) Gs sv U) := pm_D_same (pm_cl_fst ..) hD
  obtain rfl : r8 = (pm_aBuy S xb).1 := h8
  exact W.iret hx hb hr (fun t ht _ => ⟨⟨_, (), rfl, rfl, (by show va_P D vwCl (pm_cl y L (pm_aBuy S xb).2 (pm_ub Bs (pi kn) S) (pm_rp pi kn (pm_aBuy S xb).1) (pm_rk kn (pm_aBuy S xb).1) Gs sv U) t.heap; rw [ht]; exact hP)⟩, hS.F ht⟩) hS.2.2 dX3_buy_23

set_option maxHeartbeats 4000000 in
set_option maxRecDepth 100000 in
theorem k_X3_reopen (l : Launch) (D : va_G) (y : Nat → ClassId) (L : Nat → Nat → Nat) (S : Nat → Nat → Nat) (Bs : Nat → Nat → Nat → Nat) (pi : Nat → Nat) (kn : Nat) (Gs : Nat → Nat → Nat → Nat) (sv : Nat → Nat) (U : pm_PT) (Hs Sl : Nat → Nat → Nat → Nat) (xf : Int32) (hC : pm_CI Bs pi kn Gs sv Hs Sl) (hI : pm_Inv S) : Met l yX3_reopen wsX3_reopen ({ frames := 3, cells := 0, slots := 0, locals := 60 } : Room) (pm_wr D (pm_ty y) [.ref (L 0 0), .int xf] (pm_cl y L S Bs pi kn Gs sv U)) (pm_Qi D (fun (r : Int32) (_ : Unit) => r = (pm_aReopen S xf).1) (fun (_ : Unit) => pm_cl y L (pm_aReopen S xf).2 (pm_ub Bs (pi kn) S) (pm_rp pi kn (pm_aReopen S xf).1) (pm_rk kn (pm_aReopen S xf).1) Gs sv U) (pm_cl y L S Bs pi kn Gs sv U)) 0 0 (pm_ad (pm_cl y L S Bs pi kn Gs sv U)) := by
  refine Met.ofW (cc := cX3_reopen) (maxL := 2) (ret := (some .int)) (by decide) rfl ?_
  intro p e s m args below meth c s₁ B hml hpre
  obtain ⟨rfl, hP, hK, hD0⟩ := hpre
  have hx := B.exec
  have hb := B.bytes
  have hr := B.returns
  have hts := atoms_spec (ws := wsX3_reopen) B.pre
  have hown : s.vm.findClass RX3 = some m.cls := findClass_of_methodNamed B.named
  have hlocks := B.notSynchronized
  have hin3 : ∀ w ∈ u_ws RX3 TX3 5, w ∈ wsX3_reopen := fun w h => List.mem_cons_of_mem _ (List.mem_append_left _ (List.mem_append_left _ (List.mem_append_right _ h)))
  have hin0 : ∀ w ∈ u_ws RX0 TX0 2, w ∈ wsX3_reopen := fun w h => List.mem_cons_of_mem _ (List.mem_append_left _ (List.mem_append_right _ h))
  have hin2 : ∀ w ∈ u_ws RX2 TX2 15, w ∈ wsX3_reopen := fun w h => List.mem_cons_of_mem _ (List.mem_append_right _ h)
  have hD := pm_ad_self hD0
  have hS : va_S (pm_ad (pm_cl y L S Bs pi kn Gs sv U)) s.heap s.heap [] := va_S.rf
  have hP : va_P D vwCl (pm_cl y L S Bs pi kn Gs sv U) s.heap := hP
  have hl := lv_entry ([.ref (L 0 0), .int xf]) (n := 2) (Nat.le_of_ble_eq_true rfl)
  rw [lg_entry_eq]
  generalize (lg_sl ([.ref (L 0 0), .int xf]) ++ List.replicate (2 - (lg_sl ([.ref (L 0 0), .int xf])).length) Slot.unset).toArray = ls at hl ⊢
  have hl : lv_has ls 2 [(0, .ref (L 0 0)), (1, .int xf)] := hl
  refine lv_aload_n hx hb dX3_reopen_0 rfl (lv_at hl 0 rfl) ?_
  refine va_get (D := D) (ci := 3) (v := .ref (L 1 0)) (C := RX3) (T := TX3) (N := 5) hx hb hts hin3 hown hK hP 0 rfl rfl 1 (by decide) (hts (.fieldLink RX3 19 "ProofMarks" "history" "LProofMarks$History;") (List.mem_of_getElem? (i := 1) rfl)) (fun _ h9 => h9) rfl dX3_reopen_1 ?_
  refine lv_aload_n hx hb dX3_reopen_4 rfl (lv_at hl 0 rfl) ?_
  refine va_get (D := D) (ci := 3) (v := .ref (L 2 0)) (C := RX3) (T := TX3) (N := 5) hx hb hts hin3 hown hK hP 0 rfl rfl 0 (by decide) (hts (.fieldLink RX3 10 "ProofMarks" "sheet" "LProofMarks$Sheet;") (List.mem_of_getElem? (i := 2) rfl)) (fun _ h9 => h9) rfl dX3_reopen_5 ?_
  have hP := pm_eqP (pm_cl_hs y L S Bs pi kn Gs sv U) hP
  have hD := pm_eqD (pm_cl_hs y L S Bs pi kn Gs sv U) hD
  have hPc := pm_cutP hP
  have hDc := pm_cutD hD
  refine va_callv (va_runV (As := [.ref (L 2 0)]) (rest := []) ⟨hx, hb, hml, hown, hts⟩ (k_X0_note l D y (L 1) (pm_bL L) Bs pi kn (L 2) S hC.1 hC.2.2.1) (cwV 1 hts gX3_reopen_X0_note rfl rfl rfl hd_X0_note ⟨Nat.le_of_ble_eq_true rfl, Nat.le_of_ble_eq_true rfl⟩) ⟨pm_wr_blind, va_recv hK hPc (ci := 0) (q0 := 0) rfl rfl, pm_wr_pre hPc hK hDc⟩ rfl rfl hl.1 rfl (lv_room (Nat.le_of_ble_eq_true rfl)) dX3_reopen_8 ⟨Nat.le_of_ble_eq_true rfl, Nat.le_of_ble_eq_true rfl⟩) hS (fun q _ h9 => pm_ad_all hDc q h9) (pm_ad_all hDc) (fun u9 t9 H1 locs ht9 _ h9 hB9 _ hk9 hS => ?_)
  obtain ⟨hP, hD⟩ := pm_mid (w' := pm_hc y (L 1) (pm_bL L) (pm_ub Bs (pi kn) S) (pm_rf (pm_bL L) pi) kn (L 2) S) hP hD hk9 (by rw [← ht9]; exact hB9) (pm_hc_fst ..)
  have hP : va_P D vwCl (pm_cl y L S (pm_ub Bs (pi kn) S) pi kn Gs sv U) H1 := pm_eqP (pm_cl_hs y L S (pm_ub Bs (pi kn) S) pi kn Gs sv U).symm hP
  have hD : va_D (pm_ad (pm_cl y L S Bs pi kn Gs sv U)) (pm_cl y L S (pm_ub Bs (pi kn) S) pi kn Gs sv U) := pm_eqD (pm_cl_hs y L S (pm_ub Bs (pi kn) S) pi kn Gs sv U).symm hD
  replace hC := pm_CI_note S hC
  refine lv_aload_n hx hb dX3_reopen_11 rfl (lv_at hl 0 rfl) ?_
  refine lv_aload_n hx hb dX3_reopen_12 rfl (lv_at hl 0 rfl) ?_
  refine va_get (D := D) (ci := 3) (v := .ref (L 2 0)) (C := RX3) (T := TX3) (N := 5) hx hb hts hin3 hown hK hP 0 rfl rfl 0 (by decide) (hts (.fieldLink RX3 10 "ProofMarks" "sheet" "LProofMarks$Sheet;") (List.mem_of_getElem? (i := 2) rfl)) (fun _ h9 => h9) rfl dX3_reopen_13 ?_
  refine lv_iload_n hx hb dX3_reopen_16 rfl (lv_at hl 1 rfl) ?_
  have hP := pm_eqP (pm_cl_s y L S (pm_ub Bs (pi kn) S) pi kn Gs sv U) hP
  have hD := pm_eqD (pm_cl_s y L S (pm_ub Bs (pi kn) S) pi kn Gs sv U) hD
  have hPc := pm_cutP hP
  have hDc := pm_cutD hD
  refine va_calli (va_runV (As := [.int xf]) (rest := [.ref (L 0 0)]) ⟨hx, hb, hml, hown, hts⟩ (k_X2_openAgain l D y (L 2) S xf hI) (cwV 1 hts gX3_reopen_X2_openAgain rfl rfl rfl hd_X2_openAgain ⟨Nat.le_of_ble_eq_true rfl, Nat.le_of_ble_eq_true rfl⟩) ⟨pm_wr_blind, va_recv hK hPc (ci := 2) (q0 := 0) rfl rfl, pm_wr_pre hPc hK hDc⟩ rfl rfl hl.1 rfl (lv_room (Nat.le_of_ble_eq_true rfl)) dX3_reopen_17 ⟨Nat.le_of_ble_eq_true rfl, Nat.le_of_ble_eq_true rfl⟩) hS (fun q _ h9 => pm_ad_all hDc q h9) (pm_ad_all hDc) (fun r9 u9 t9 H1 locs ht9 _ h9 hB9 _ hk9 hS => ?_)
  obtain ⟨hP, hD⟩ := pm_mid (w' := pm_shS y (L 2) (pm_aReopen S xf).2) hP hD hk9 (by rw [← ht9]; exact hB9) (rfl)
  have hP : va_P D vwCl (pm_cl y L ((pm_aReopen S xf).2) (pm_ub Bs (pi kn) S) pi kn Gs sv U) H1 := pm_eqP (pm_cl_s y L ((pm_aReopen S xf).2) (pm_ub Bs (pi kn) S) pi kn Gs sv U).symm hP
  have hD : va_D (pm_ad (pm_cl y L S Bs pi kn Gs sv U)) (pm_cl y L ((pm_aReopen S xf).2) (pm_ub Bs (pi kn) S) pi kn Gs sv U) := pm_eqD (pm_cl_s y L ((pm_aReopen S xf).2) (pm_ub Bs (pi kn) S) pi kn Gs sv U).symm hD
  obtain rfl : r9 = (pm_aReopen S xf).1 := h9
  refine va_calli (va_runV (As := [.int ((pm_aReopen S xf).1)]) (rest := []) ⟨hx, hb, hml, hown, hts⟩ (k_X3_recorded l D y L ((pm_aReopen S xf).2) (pm_ub Bs (pi kn) S) pi kn Gs sv U Hs Sl ((pm_aReopen S xf).1) hC) (cwV 1 hts gX3_reopen_X3_recorded rfl rfl rfl hd_X3_recorded ⟨Nat.le_of_ble_eq_true rfl, Nat.le_of_ble_eq_true rfl⟩) ⟨pm_wr_blind, va_recv hK hP (ci := 3) (q0 := 0) rfl rfl, pm_wr_pre hP hK hD⟩ rfl rfl hl.1 rfl (lv_room (Nat.le_of_ble_eq_true rfl)) dX3_reopen_20 ⟨Nat.le_of_ble_eq_true rfl, Nat.le_of_ble_eq_true rfl⟩) hS (fun q _ h9 => pm_ad_all hD q h9) (pm_ad_all hD) (fun r8 u8 t8 H2 locs ht8 _ h8 hB8 _ hk8 hS => ?_)
  have hP : va_P D vwCl (pm_cl y L ((pm_aReopen S xf).2) (pm_ub Bs (pi kn) S) (pm_rp pi kn ((pm_aReopen S xf).1)) (pm_rk kn ((pm_aReopen S xf).1)) Gs sv U) H2 := by rw [← ht8]; exact hB8
  have hD : va_D (pm_ad (pm_cl y L S Bs pi kn Gs sv U)) (pm_cl y L ((pm_aReopen S xf).2) (pm_ub Bs (pi kn) S) (pm_rp pi kn ((pm_aReopen S xf).1)) (pm_rk kn ((pm_aReopen S xf).1)) Gs sv U) := pm_D_same (pm_cl_fst ..) hD
  obtain rfl : r8 = (pm_aReopen S xf).1 := h8
  exact W.iret hx hb hr (fun t ht _ => ⟨⟨_, (), rfl, rfl, (by show va_P D vwCl (pm_cl y L (pm_aReopen S xf).2 (pm_ub Bs (pi kn) S) (pm_rp pi kn (pm_aReopen S xf).1) (pm_rk kn (pm_aReopen S xf).1) Gs sv U) t.heap; rw [ht]; exact hP)⟩, hS.F ht⟩) hS.2.2 dX3_reopen_23

