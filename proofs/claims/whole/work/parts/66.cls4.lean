set_option maxHeartbeats 4000000 in
set_option maxRecDepth 100000 in
theorem k_X3_put (l : Launch) (D : va_G) (y : Nat → ClassId) (L : Nat → Nat → Nat) (S : Nat → Nat → Nat) (Bs : Nat → Nat → Nat → Nat) (pi : Nat → Nat) (kn : Nat) (Gs : Nat → Nat → Nat → Nat) (sv : Nat → Nat) (U : pm_PT) (Hs Sl : Nat → Nat → Nat → Nat) (X : Nat) (hPI : pm_PI U.1 U.2.1) (hX : X < 2 ^ 64) : Met l yX3_put wsX3_put ({ frames := 2, cells := 0, slots := 0, locals := 50 } : Room) (pm_wr D (pm_ty y) [.ref (L 0 0), .long (pm_L X)] (pm_cl y L S Bs pi kn Gs sv U)) (pm_Qi D (fun (r : Int32) (_ : Unit) => r = (pm_aPut U.1 U.2.1 X).1) (fun (_ : Unit) => pm_cl y L S Bs pi kn Gs sv ((pm_aPut U.1 U.2.1 X).2.1, (pm_aPut U.1 U.2.1 X).2.2, U.2.2)) (pm_cl y L S Bs pi kn Gs sv U)) 0 0 (pm_ad (pm_cl y L S Bs pi kn Gs sv U)) := by
  refine Met.ofW (cc := cX3_put) (maxL := 3) (ret := (some .int)) (by decide) rfl ?_
  intro p e s m args below meth c s₁ B hml hpre
  obtain ⟨rfl, hP, hK, hD0⟩ := hpre
  have hx := B.exec
  have hb := B.bytes
  have hr := B.returns
  have hts := atoms_spec (ws := wsX3_put) B.pre
  have hown : s.vm.findClass RX3 = some m.cls := findClass_of_methodNamed B.named
  have hlocks := B.notSynchronized
  have hin3 : ∀ w ∈ u_ws RX3 TX3 5, w ∈ wsX3_put := fun w h => List.mem_cons_of_mem _ (List.mem_append_left _ (List.mem_append_right _ h))
  have hin1 : ∀ w ∈ u_ws RX1 TX1 8, w ∈ wsX3_put := fun w h => List.mem_cons_of_mem _ (List.mem_append_right _ h)
  have hD := pm_ad_self hD0
  have hS : va_S (pm_ad (pm_cl y L S Bs pi kn Gs sv U)) s.heap s.heap [] := va_S.rf
  have hP : va_P D vwCl (pm_cl y L S Bs pi kn Gs sv U) s.heap := hP
  have hl := lv_entry ([.ref (L 0 0), .long (pm_L X)]) (n := 3) (Nat.le_of_ble_eq_true rfl)
  rw [lg_entry_eq]
  generalize (lg_sl ([.ref (L 0 0), .long (pm_L X)]) ++ List.replicate (3 - (lg_sl ([.ref (L 0 0), .long (pm_L X)])).length) Slot.unset).toArray = ls at hl ⊢
  have hl : lv_has ls 3 [(0, .ref (L 0 0)), (1, .long (pm_L X))] := hl
  refine lv_aload_n hx hb dX3_put_0 rfl (lv_at hl 0 rfl) ?_
  refine va_get (D := D) (ci := 3) (v := .ref (L 3 0)) (C := RX3) (T := TX3) (N := 5) hx hb hts hin3 hown hK hP 0 rfl rfl 2 (by decide) (hts (.fieldLink RX3 26 "ProofMarks" "pad" "LProofMarks$Pad;") (List.mem_of_getElem? (i := 1) rfl)) (fun _ h9 => h9) rfl dX3_put_1 ?_
  refine lv_lload_n hx hb dX3_put_4 rfl (lv_at hl 1 rfl) ?_
  have hP := pm_eqP (pm_cl_p y L S Bs pi kn Gs sv U) hP
  have hD := pm_eqD (pm_cl_p y L S Bs pi kn Gs sv U) hD
  have hPc := pm_cutP hP
  have hDc := pm_cutD hD
  refine va_calli (va_runV (As := [.long (pm_L X)]) (rest := []) ⟨hx, hb, hml, hown, hts⟩ (k_X1_append l D y (L 3) U.1 U.2.1 U.2.2.1 U.2.2.2.1 U.2.2.2.2.1 U.2.2.2.2.2.1 U.2.2.2.2.2.2.1 U.2.2.2.2.2.2.2 X hPI hX) (cwV 1 hts gX3_put_X1_append rfl rfl rfl hd_X1_append ⟨Nat.le_of_ble_eq_true rfl, Nat.le_of_ble_eq_true rfl⟩) ⟨pm_wr_blind, va_recv hK hPc (ci := 1) (q0 := 0) rfl rfl, pm_wr_pre hPc hK hDc⟩ rfl rfl hl.1 rfl (lv_room (Nat.le_of_ble_eq_true rfl)) dX3_put_5 ⟨Nat.le_of_ble_eq_true rfl, Nat.le_of_ble_eq_true rfl⟩) hS (fun q _ h9 => pm_ad_all hDc q h9) (pm_ad_all hDc) (fun r9 u9 t9 H1 locs ht9 _ h9 hB9 _ hk9 hS => ?_)
  obtain ⟨hP, hD⟩ := pm_mid (w' := pm_cP y L ((pm_aPut U.1 U.2.1 X).2.1, (pm_aPut U.1 U.2.1 X).2.2, U.2.2)) hP hD hk9 (by rw [← ht9]; exact hB9) (rfl)
  have hP : va_P D vwCl (pm_cl y L S Bs pi kn Gs sv ((pm_aPut U.1 U.2.1 X).2.1, (pm_aPut U.1 U.2.1 X).2.2, U.2.2)) H1 := pm_eqP (pm_cl_p y L S Bs pi kn Gs sv ((pm_aPut U.1 U.2.1 X).2.1, (pm_aPut U.1 U.2.1 X).2.2, U.2.2)).symm hP
  have hD : va_D (pm_ad (pm_cl y L S Bs pi kn Gs sv U)) (pm_cl y L S Bs pi kn Gs sv ((pm_aPut U.1 U.2.1 X).2.1, (pm_aPut U.1 U.2.1 X).2.2, U.2.2)) := pm_eqD (pm_cl_p y L S Bs pi kn Gs sv ((pm_aPut U.1 U.2.1 X).2.1, (pm_aPut U.1 U.2.1 X).2.2, U.2.2)).symm hD
  obtain rfl : r9 = (pm_aPut U.1 U.2.1 X).1 := h9
  exact W.iret hx hb hr (fun t ht _ => ⟨⟨_, (), rfl, rfl, (by show va_P D vwCl (pm_cl y L S Bs pi kn Gs sv ((pm_aPut U.1 U.2.1 X).2.1, (pm_aPut U.1 U.2.1 X).2.2, U.2.2)) t.heap; rw [ht]; exact hP)⟩, hS.F ht⟩) hS.2.2 dX3_put_8

set_option maxHeartbeats 4000000 in
set_option maxRecDepth 100000 in
theorem k_X3_wipe (l : Launch) (D : va_G) (y : Nat → ClassId) (L : Nat → Nat → Nat) (S : Nat → Nat → Nat) (Bs : Nat → Nat → Nat → Nat) (pi : Nat → Nat) (kn : Nat) (Gs : Nat → Nat → Nat → Nat) (sv : Nat → Nat) (U : pm_PT) (Hs Sl : Nat → Nat → Nat → Nat)  : Met l yX3_wipe wsX3_wipe ({ frames := 1, cells := 0, slots := 0, locals := 21 } : Room) (pm_wr D (pm_ty y) [.ref (L 0 0)] (pm_cl y L S Bs pi kn Gs sv U)) (pm_Qi D (fun (r : Int32) (_ : Unit) => r = nI U.2.1) (fun (_ : Unit) => pm_cl y L S Bs pi kn Gs sv (U.1, 0, U.2.2)) (pm_cl y L S Bs pi kn Gs sv U)) 0 0 (pm_ad (pm_cl y L S Bs pi kn Gs sv U)) := by
  refine Met.ofW (cc := cX3_wipe) (maxL := 1) (ret := (some .int)) (by decide) rfl ?_
  intro p e s m args below meth c s₁ B hml hpre
  obtain ⟨rfl, hP, hK, hD0⟩ := hpre
  have hx := B.exec
  have hb := B.bytes
  have hr := B.returns
  have hts := atoms_spec (ws := wsX3_wipe) B.pre
  have hown : s.vm.findClass RX3 = some m.cls := findClass_of_methodNamed B.named
  have hlocks := B.notSynchronized
  have hin3 : ∀ w ∈ u_ws RX3 TX3 5, w ∈ wsX3_wipe := fun w h => List.mem_cons_of_mem _ (List.mem_append_left _ (List.mem_append_right _ h))
  have hin1 : ∀ w ∈ u_ws RX1 TX1 8, w ∈ wsX3_wipe := fun w h => List.mem_cons_of_mem _ (List.mem_append_right _ h)
  have hD := pm_ad_self hD0
  have hS : va_S (pm_ad (pm_cl y L S Bs pi kn Gs sv U)) s.heap s.heap [] := va_S.rf
  have hP : va_P D vwCl (pm_cl y L S Bs pi kn Gs sv U) s.heap := hP
  have hl := lv_entry ([.ref (L 0 0)]) (n := 1) (Nat.le_of_ble_eq_true rfl)
  rw [lg_entry_eq]
  generalize (lg_sl ([.ref (L 0 0)]) ++ List.replicate (1 - (lg_sl ([.ref (L 0 0)])).length) Slot.unset).toArray = ls at hl ⊢
  have hl : lv_has ls 1 [(0, .ref (L 0 0))] := hl
  refine lv_aload_n hx hb dX3_wipe_0 rfl (lv_at hl 0 rfl) ?_
  refine va_get (D := D) (ci := 3) (v := .ref (L 3 0)) (C := RX3) (T := TX3) (N := 5) hx hb hts hin3 hown hK hP 0 rfl rfl 2 (by decide) (hts (.fieldLink RX3 26 "ProofMarks" "pad" "LProofMarks$Pad;") (List.mem_of_getElem? (i := 1) rfl)) (fun _ h9 => h9) rfl dX3_wipe_1 ?_
  have hP := pm_eqP (pm_cl_p y L S Bs pi kn Gs sv U) hP
  have hD := pm_eqD (pm_cl_p y L S Bs pi kn Gs sv U) hD
  have hPc := pm_cutP hP
  have hDc := pm_cutD hD
  refine va_calli (va_runV (As := []) (rest := []) ⟨hx, hb, hml, hown, hts⟩ (k_X1_empty l D y (L 3) U.1 U.2.1 U.2.2.1 U.2.2.2.1 U.2.2.2.2.1 U.2.2.2.2.2.1 U.2.2.2.2.2.2.1 U.2.2.2.2.2.2.2) (cwV 0 hts gX3_wipe_X1_empty rfl rfl rfl hd_X1_empty ⟨Nat.le_of_ble_eq_true rfl, Nat.le_of_ble_eq_true rfl⟩) ⟨pm_wr_blind, va_recv hK hPc (ci := 1) (q0 := 0) rfl rfl, pm_wr_pre hPc hK hDc⟩ rfl rfl hl.1 rfl (lv_room (Nat.le_of_ble_eq_true rfl)) dX3_wipe_4 ⟨Nat.le_of_ble_eq_true rfl, Nat.le_of_ble_eq_true rfl⟩) hS (fun q _ h9 => pm_ad_all hDc q h9) (pm_ad_all hDc) (fun r9 u9 t9 H1 locs ht9 _ h9 hB9 _ hk9 hS => ?_)
  obtain ⟨hP, hD⟩ := pm_mid (w' := pm_cP y L (U.1, 0, U.2.2)) hP hD hk9 (by rw [← ht9]; exact hB9) (rfl)
  have hP : va_P D vwCl (pm_cl y L S Bs pi kn Gs sv (U.1, 0, U.2.2)) H1 := pm_eqP (pm_cl_p y L S Bs pi kn Gs sv (U.1, 0, U.2.2)).symm hP
  have hD : va_D (pm_ad (pm_cl y L S Bs pi kn Gs sv U)) (pm_cl y L S Bs pi kn Gs sv (U.1, 0, U.2.2)) := pm_eqD (pm_cl_p y L S Bs pi kn Gs sv (U.1, 0, U.2.2)).symm hD
  obtain rfl : r9 = nI U.2.1 := h9
  exact W.iret hx hb hr (fun t ht _ => ⟨⟨_, (), rfl, rfl, (by show va_P D vwCl (pm_cl y L S Bs pi kn Gs sv (U.1, 0, U.2.2)) t.heap; rw [ht]; exact hP)⟩, hS.F ht⟩) hS.2.2 dX3_wipe_7

set_option maxHeartbeats 4000000 in
set_option maxRecDepth 100000 in
theorem k_X3_fault (l : Launch) (D : va_G) (y : Nat → ClassId) (L : Nat → Nat → Nat) (S : Nat → Nat → Nat) (Bs : Nat → Nat → Nat → Nat) (pi : Nat → Nat) (kn : Nat) (Gs : Nat → Nat → Nat → Nat) (sv : Nat → Nat) (U : pm_PT) (Hs Sl : Nat → Nat → Nat → Nat) (hPI : pm_PI U.1 U.2.1) : Met l yX3_fault wsX3_fault ({ frames := 6, cells := 0, slots := 0, locals := 124 } : Room) (pm_wr D (pm_ty y) [.ref (L 0 0)] (pm_cl y L S Bs pi kn Gs sv U)) (pm_Qi D (fun (r : Int32) (u : Nat × Int32 × Int32 × Int32 × Int32 × Int32) => r = pm_fa U.1 U.2.1) (fun (u : Nat × Int32 × Int32 × Int32 × Int32 × Int32) => pm_cl y L S Bs pi kn Gs sv (U.1, U.2.1, u.1, u.2.1, u.2.2.1, u.2.2.2.1, u.2.2.2.2.1, u.2.2.2.2.2)) (pm_cl y L S Bs pi kn Gs sv U)) 0 0 (pm_ad (pm_cl y L S Bs pi kn Gs sv U)) := by
  refine Met.ofW (cc := cX3_fault) (maxL := 1) (ret := (some .int)) (by decide) rfl ?_
  intro p e s m args below meth c s₁ B hml hpre
  obtain ⟨rfl, hP, hK, hD0⟩ := hpre
  have hx := B.exec
  have hb := B.bytes
  have hr := B.returns
  have hts := atoms_spec (ws := wsX3_fault) B.pre
  have hown : s.vm.findClass RX3 = some m.cls := findClass_of_methodNamed B.named
  have hlocks := B.notSynchronized
  have hin3 : ∀ w ∈ u_ws RX3 TX3 5, w ∈ wsX3_fault := fun w h => List.mem_cons_of_mem _ (List.mem_append_left _ (List.mem_append_right _ h))
  have hin1 : ∀ w ∈ u_ws RX1 TX1 8, w ∈ wsX3_fault := fun w h => List.mem_cons_of_mem _ (List.mem_append_right _ h)
  have hD := pm_ad_self hD0
  have hS : va_S (pm_ad (pm_cl y L S Bs pi kn Gs sv U)) s.heap s.heap [] := va_S.rf
  have hP : va_P D vwCl (pm_cl y L S Bs pi kn Gs sv U) s.heap := hP
  have hl := lv_entry ([.ref (L 0 0)]) (n := 1) (Nat.le_of_ble_eq_true rfl)
  rw [lg_entry_eq]
  generalize (lg_sl ([.ref (L 0 0)]) ++ List.replicate (1 - (lg_sl ([.ref (L 0 0)])).length) Slot.unset).toArray = ls at hl ⊢
  have hl : lv_has ls 1 [(0, .ref (L 0 0))] := hl
  refine lv_aload_n hx hb dX3_fault_0 rfl (lv_at hl 0 rfl) ?_
  refine va_get (D := D) (ci := 3) (v := .ref (L 3 0)) (C := RX3) (T := TX3) (N := 5) hx hb hts hin3 hown hK hP 0 rfl rfl 2 (by decide) (hts (.fieldLink RX3 26 "ProofMarks" "pad" "LProofMarks$Pad;") (List.mem_of_getElem? (i := 1) rfl)) (fun _ h9 => h9) rfl dX3_fault_1 ?_
  have hP := pm_eqP (pm_cl_p y L S Bs pi kn Gs sv U) hP
  have hD := pm_eqD (pm_cl_p y L S Bs pi kn Gs sv U) hD
  have hPc := pm_cutP hP
  have hDc := pm_cutD hD
  refine va_calli (va_runV (As := []) (rest := []) ⟨hx, hb, hml, hown, hts⟩ (k_X1_faultAt l D y (L 3) U.1 U.2.1 U.2.2.1 U.2.2.2.1 U.2.2.2.2.1 U.2.2.2.2.2.1 U.2.2.2.2.2.2.1 U.2.2.2.2.2.2.2 hPI) (cwV 0 hts gX3_fault_X1_faultAt rfl rfl rfl hd_X1_faultAt ⟨Nat.le_of_ble_eq_true rfl, Nat.le_of_ble_eq_true rfl⟩) ⟨pm_wr_blind, va_recv hK hPc (ci := 1) (q0 := 0) rfl rfl, pm_wr_pre hPc hK hDc⟩ rfl rfl hl.1 rfl (lv_room (Nat.le_of_ble_eq_true rfl)) dX3_fault_4 ⟨Nat.le_of_ble_eq_true rfl, Nat.le_of_ble_eq_true rfl⟩) hS (fun q _ h9 => pm_ad_all hDc q h9) (pm_ad_all hDc) (fun r9 u9 t9 H1 locs ht9 _ h9 hB9 _ hk9 hS => ?_)
  obtain ⟨hP, hD⟩ := pm_mid (w' := pm_cP y L (U.1, U.2.1, u9.1, u9.2.1, u9.2.2.1, u9.2.2.2.1, u9.2.2.2.2.1, u9.2.2.2.2.2)) hP hD hk9 (by rw [← ht9]; exact hB9) (rfl)
  have hP : va_P D vwCl (pm_cl y L S Bs pi kn Gs sv (U.1, U.2.1, u9.1, u9.2.1, u9.2.2.1, u9.2.2.2.1, u9.2.2.2.2.1, u9.2.2.2.2.2)) H1 := pm_eqP (pm_cl_p y L S Bs pi kn Gs sv (U.1, U.2.1, u9.1, u9.2.1, u9.2.2.1, u9.2.2.2.1, u9.2.2.2.2.1, u9.2.2.2.2.2)).symm hP
  have hD : va_D (pm_ad (pm_cl y L S Bs pi kn Gs sv U)) (pm_cl y L S Bs pi kn Gs sv (U.1, U.2.1, u9.1, u9.2.1, u9.2.2.1, u9.2.2.2.1, u9.2.2.2.2.1, u9.2.2.2.2.2)) := pm_eqD (pm_cl_p y L S Bs pi kn Gs sv (U.1, U.2.1, u9.1, u9.2.1, u9.2.2.1, u9.2.2.2.1, u9.2.2.2.2.1, u9.2.2.2.2.2)).symm hD
  obtain rfl : r9 = pm_fa U.1 U.2.1 := h9
  exact W.iret hx hb hr (fun t ht _ => ⟨⟨_, u9, rfl, rfl, (by show va_P D vwCl (pm_cl y L S Bs pi kn Gs sv (U.1, U.2.1, u9.1, u9.2.1, u9.2.2.1, u9.2.2.2.1, u9.2.2.2.2.1, u9.2.2.2.2.2)) t.heap; rw [ht]; exact hP)⟩, hS.F ht⟩) hS.2.2 dX3_fault_7
