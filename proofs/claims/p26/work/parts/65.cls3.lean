set_option maxHeartbeats 4000000 in
set_option maxRecDepth 100000 in
theorem k_X3_of (l : Launch) (D : va_G) (y : Nat → ClassId) (L : Nat → Nat → Nat) (S : Nat → Nat → Nat) (Bs : Nat → Nat → Nat → Nat) (pi : Nat → Nat) (kn : Nat) (Gs : Nat → Nat → Nat → Nat) (sv : Nat → Nat) (U : pm_PT) (Hs Sl : Nat → Nat → Nat → Nat) (xf xw : Int32) (hI : pm_Inv S) : Met l yX3_of wsX3_of ({ frames := 2, cells := 0, slots := 0, locals := 42 } : Room) (pm_ro D (pm_ty y) [.ref (L 0 0), .int xf, .int xw] (pm_cl y L S Bs pi kn Gs sv U)) (vp_Si (fun r : Int32 => r = pm_of S xf xw)) 0 0 (fun _ => False) := by
  refine Met.ofW (cc := cX3_of) (maxL := 3) (ret := (some .int)) (by decide) rfl ?_
  intro p e s m args below meth c s₁ B hml hpre
  obtain ⟨rfl, hP, hK⟩ := hpre
  have hx := B.exec
  have hb := B.bytes
  have hr := B.returns
  have hts := atoms_spec (ws := wsX3_of) B.pre
  have hown : s.vm.findClass RX3 = some m.cls := findClass_of_methodNamed B.named
  have hlocks := B.notSynchronized
  have hin3 : ∀ w ∈ u_ws RX3 TX3 5, w ∈ wsX3_of := fun w h => List.mem_cons_of_mem _ (List.mem_append_left _ (List.mem_append_right _ h))
  have hin2 : ∀ w ∈ u_ws RX2 TX2 15, w ∈ wsX3_of := fun w h => List.mem_cons_of_mem _ (List.mem_append_right _ h)
  have hP : va_P D vwCl (pm_cl y L S Bs pi kn Gs sv U) s.heap := hP
  have hl := lv_entry ([.ref (L 0 0), .int xf, .int xw]) (n := 3) (Nat.le_of_ble_eq_true rfl)
  rw [lg_entry_eq]
  generalize (lg_sl ([.ref (L 0 0), .int xf, .int xw]) ++ List.replicate (3 - (lg_sl ([.ref (L 0 0), .int xf, .int xw])).length) Slot.unset).toArray = ls at hl ⊢
  have hl : lv_has ls 3 [(0, .ref (L 0 0)), (1, .int xf), (2, .int xw)] := hl
  refine lv_aload_n hx hb dX3_of_0 rfl (lv_at hl 0 rfl) ?_
  refine va_get (D := D) (ci := 3) (v := .ref (L 2 0)) (C := RX3) (T := TX3) (N := 5) hx hb hts hin3 hown hK hP 0 rfl rfl 0 (by decide) (hts (.fieldLink RX3 10 "ProofMarks" "sheet" "LProofMarks$Sheet;") (List.mem_of_getElem? (i := 1) rfl)) (fun _ h9 => h9) rfl dX3_of_1 ?_
  refine lv_iload_n hx hb dX3_of_4 rfl (lv_at hl 1 rfl) ?_
  refine lv_iload_n hx hb dX3_of_5 rfl (lv_at hl 2 rfl) ?_
  have hPc := pm_cutP (pm_eqP (pm_cl_s y L S Bs pi kn Gs sv U) hP)
  refine vp_callSi (W.runV (As := [.int xf, .int xw]) (rest := []) ⟨hx, hb, hml, hown, hts⟩ (k_X2_aboutFrame l D y (L 2) S xf xw hI) (cwV 2 hts gX3_of_X2_aboutFrame rfl rfl rfl hd_X2_aboutFrame ⟨Nat.le_of_ble_eq_true rfl, Nat.le_of_ble_eq_true rfl⟩) ⟨pm_ro_blind, va_recv hK hPc (ci := 2) (q0 := 0) rfl rfl, pm_ro_pre hPc hK⟩ rfl rfl hl.1 rfl (lv_room (Nat.le_of_ble_eq_true rfl)) dX3_of_6 ⟨Nat.le_of_ble_eq_true rfl, Nat.le_of_ble_eq_true rfl⟩) (fun r9 h9 => ?_)
  exact W.iret hx hb hr (fun t ht _ => ⟨_, rfl, h9, ht⟩) (fun _ h => absurd h List.not_mem_nil) dX3_of_9

set_option maxHeartbeats 4000000 in
set_option maxRecDepth 100000 in
theorem k_X3_editor (l : Launch) (D : va_G) (y : Nat → ClassId) (L : Nat → Nat → Nat) (S : Nat → Nat → Nat) (Bs : Nat → Nat → Nat → Nat) (pi : Nat → Nat) (kn : Nat) (Gs : Nat → Nat → Nat → Nat) (sv : Nat → Nat) (U : pm_PT) (Hs Sl : Nat → Nat → Nat → Nat) (xe xw : Int32) (hI : pm_Inv S) : Met l yX3_editor wsX3_editor ({ frames := 4, cells := 0, slots := 0, locals := 90 } : Room) (pm_ro D (pm_ty y) [.ref (L 0 0), .int xe, .int xw] (pm_cl y L S Bs pi kn Gs sv U)) (vp_Si (fun r : Int32 => r = pm_ed S xe xw)) 0 0 (fun _ => False) := by
  refine Met.ofW (cc := cX3_editor) (maxL := 3) (ret := (some .int)) (by decide) rfl ?_
  intro p e s m args below meth c s₁ B hml hpre
  obtain ⟨rfl, hP, hK⟩ := hpre
  have hx := B.exec
  have hb := B.bytes
  have hr := B.returns
  have hts := atoms_spec (ws := wsX3_editor) B.pre
  have hown : s.vm.findClass RX3 = some m.cls := findClass_of_methodNamed B.named
  have hlocks := B.notSynchronized
  have hin3 : ∀ w ∈ u_ws RX3 TX3 5, w ∈ wsX3_editor := fun w h => List.mem_cons_of_mem _ (List.mem_append_left _ (List.mem_append_right _ h))
  have hin2 : ∀ w ∈ u_ws RX2 TX2 15, w ∈ wsX3_editor := fun w h => List.mem_cons_of_mem _ (List.mem_append_right _ h)
  have hP : va_P D vwCl (pm_cl y L S Bs pi kn Gs sv U) s.heap := hP
  have hl := lv_entry ([.ref (L 0 0), .int xe, .int xw]) (n := 3) (Nat.le_of_ble_eq_true rfl)
  rw [lg_entry_eq]
  generalize (lg_sl ([.ref (L 0 0), .int xe, .int xw]) ++ List.replicate (3 - (lg_sl ([.ref (L 0 0), .int xe, .int xw])).length) Slot.unset).toArray = ls at hl ⊢
  have hl : lv_has ls 3 [(0, .ref (L 0 0)), (1, .int xe), (2, .int xw)] := hl
  refine lv_aload_n hx hb dX3_editor_0 rfl (lv_at hl 0 rfl) ?_
  refine va_get (D := D) (ci := 3) (v := .ref (L 2 0)) (C := RX3) (T := TX3) (N := 5) hx hb hts hin3 hown hK hP 0 rfl rfl 0 (by decide) (hts (.fieldLink RX3 10 "ProofMarks" "sheet" "LProofMarks$Sheet;") (List.mem_of_getElem? (i := 1) rfl)) (fun _ h9 => h9) rfl dX3_editor_1 ?_
  refine lv_iload_n hx hb dX3_editor_4 rfl (lv_at hl 1 rfl) ?_
  refine lv_iload_n hx hb dX3_editor_5 rfl (lv_at hl 2 rfl) ?_
  have hPc := pm_cutP (pm_eqP (pm_cl_s y L S Bs pi kn Gs sv U) hP)
  refine vp_callSi (W.runV (As := [.int xe, .int xw]) (rest := []) ⟨hx, hb, hml, hown, hts⟩ (k_X2_aboutEditor l D y (L 2) S xe xw hI) (cwV 2 hts gX3_editor_X2_aboutEditor rfl rfl rfl hd_X2_aboutEditor ⟨Nat.le_of_ble_eq_true rfl, Nat.le_of_ble_eq_true rfl⟩) ⟨pm_ro_blind, va_recv hK hPc (ci := 2) (q0 := 0) rfl rfl, pm_ro_pre hPc hK⟩ rfl rfl hl.1 rfl (lv_room (Nat.le_of_ble_eq_true rfl)) dX3_editor_6 ⟨Nat.le_of_ble_eq_true rfl, Nat.le_of_ble_eq_true rfl⟩) (fun r9 h9 => ?_)
  exact W.iret hx hb hr (fun t ht _ => ⟨_, rfl, h9, ht⟩) (fun _ h => absurd h List.not_mem_nil) dX3_editor_9

set_option maxHeartbeats 4000000 in
set_option maxRecDepth 100000 in
theorem k_X3_chosen (l : Launch) (D : va_G) (y : Nat → ClassId) (L : Nat → Nat → Nat) (S : Nat → Nat → Nat) (Bs : Nat → Nat → Nat → Nat) (pi : Nat → Nat) (kn : Nat) (Gs : Nat → Nat → Nat → Nat) (sv : Nat → Nat) (U : pm_PT) (Hs Sl : Nat → Nat → Nat → Nat) (xk : Int32) (hI : pm_Inv S) : Met l yX3_chosen wsX3_chosen ({ frames := 2, cells := 0, slots := 0, locals := 45 } : Room) (pm_ro D (pm_ty y) [.ref (L 0 0), .int xk] (pm_cl y L S Bs pi kn Gs sv U)) (vp_Si (fun r : Int32 => pm_isch S xk r)) 0 0 (fun _ => False) := by
  refine Met.ofW (cc := cX3_chosen) (maxL := 2) (ret := (some .int)) (by decide) rfl ?_
  intro p e s m args below meth c s₁ B hml hpre
  obtain ⟨rfl, hP, hK⟩ := hpre
  have hx := B.exec
  have hb := B.bytes
  have hr := B.returns
  have hts := atoms_spec (ws := wsX3_chosen) B.pre
  have hown : s.vm.findClass RX3 = some m.cls := findClass_of_methodNamed B.named
  have hlocks := B.notSynchronized
  have hin3 : ∀ w ∈ u_ws RX3 TX3 5, w ∈ wsX3_chosen := fun w h => List.mem_cons_of_mem _ (List.mem_append_left _ (List.mem_append_right _ h))
  have hin2 : ∀ w ∈ u_ws RX2 TX2 15, w ∈ wsX3_chosen := fun w h => List.mem_cons_of_mem _ (List.mem_append_right _ h)
  have hP : va_P D vwCl (pm_cl y L S Bs pi kn Gs sv U) s.heap := hP
  have hl := lv_entry ([.ref (L 0 0), .int xk]) (n := 2) (Nat.le_of_ble_eq_true rfl)
  rw [lg_entry_eq]
  generalize (lg_sl ([.ref (L 0 0), .int xk]) ++ List.replicate (2 - (lg_sl ([.ref (L 0 0), .int xk])).length) Slot.unset).toArray = ls at hl ⊢
  have hl : lv_has ls 2 [(0, .ref (L 0 0)), (1, .int xk)] := hl
  refine lv_aload_n hx hb dX3_chosen_0 rfl (lv_at hl 0 rfl) ?_
  refine va_get (D := D) (ci := 3) (v := .ref (L 2 0)) (C := RX3) (T := TX3) (N := 5) hx hb hts hin3 hown hK hP 0 rfl rfl 0 (by decide) (hts (.fieldLink RX3 10 "ProofMarks" "sheet" "LProofMarks$Sheet;") (List.mem_of_getElem? (i := 1) rfl)) (fun _ h9 => h9) rfl dX3_chosen_1 ?_
  refine lv_iload_n hx hb dX3_chosen_4 rfl (lv_at hl 1 rfl) ?_
  have hPc := pm_cutP (pm_eqP (pm_cl_s y L S Bs pi kn Gs sv U) hP)
  refine vp_callSi (W.runV (As := [.int xk]) (rest := []) ⟨hx, hb, hml, hown, hts⟩ (k_X2_chosenAt l D y (L 2) S xk hI) (cwV 1 hts gX3_chosen_X2_chosenAt rfl rfl rfl hd_X2_chosenAt ⟨Nat.le_of_ble_eq_true rfl, Nat.le_of_ble_eq_true rfl⟩) ⟨pm_ro_blind, va_recv hK hPc (ci := 2) (q0 := 0) rfl rfl, pm_ro_pre hPc hK⟩ rfl rfl hl.1 rfl (lv_room (Nat.le_of_ble_eq_true rfl)) dX3_chosen_5 ⟨Nat.le_of_ble_eq_true rfl, Nat.le_of_ble_eq_true rfl⟩) (fun r9 h9 => ?_)
  exact W.iret hx hb hr (fun t ht _ => ⟨_, rfl, h9, ht⟩) (fun _ h => absurd h List.not_mem_nil) dX3_chosen_8

set_option maxHeartbeats 4000000 in
set_option maxRecDepth 100000 in
theorem k_X3_why (l : Launch) (D : va_G) (y : Nat → ClassId) (L : Nat → Nat → Nat) (S : Nat → Nat → Nat) (Bs : Nat → Nat → Nat → Nat) (pi : Nat → Nat) (kn : Nat) (Gs : Nat → Nat → Nat → Nat) (sv : Nat → Nat) (U : pm_PT) (Hs Sl : Nat → Nat → Nat → Nat) (xf : Int32) (hI : pm_Inv S) : Met l yX3_why wsX3_why ({ frames := 3, cells := 0, slots := 0, locals := 63 } : Room) (pm_ro D (pm_ty y) [.ref (L 0 0), .int xf] (pm_cl y L S Bs pi kn Gs sv U)) (vp_Si (fun r : Int32 => r = pm_why S xf)) 0 0 (fun _ => False) := by
  refine Met.ofW (cc := cX3_why) (maxL := 2) (ret := (some .int)) (by decide) rfl ?_
  intro p e s m args below meth c s₁ B hml hpre
  obtain ⟨rfl, hP, hK⟩ := hpre
  have hx := B.exec
  have hb := B.bytes
  have hr := B.returns
  have hts := atoms_spec (ws := wsX3_why) B.pre
  have hown : s.vm.findClass RX3 = some m.cls := findClass_of_methodNamed B.named
  have hlocks := B.notSynchronized
  have hin3 : ∀ w ∈ u_ws RX3 TX3 5, w ∈ wsX3_why := fun w h => List.mem_cons_of_mem _ (List.mem_append_left _ (List.mem_append_right _ h))
  have hin2 : ∀ w ∈ u_ws RX2 TX2 15, w ∈ wsX3_why := fun w h => List.mem_cons_of_mem _ (List.mem_append_right _ h)
  have hP : va_P D vwCl (pm_cl y L S Bs pi kn Gs sv U) s.heap := hP
  have hl := lv_entry ([.ref (L 0 0), .int xf]) (n := 2) (Nat.le_of_ble_eq_true rfl)
  rw [lg_entry_eq]
  generalize (lg_sl ([.ref (L 0 0), .int xf]) ++ List.replicate (2 - (lg_sl ([.ref (L 0 0), .int xf])).length) Slot.unset).toArray = ls at hl ⊢
  have hl : lv_has ls 2 [(0, .ref (L 0 0)), (1, .int xf)] := hl
  refine lv_aload_n hx hb dX3_why_0 rfl (lv_at hl 0 rfl) ?_
  refine va_get (D := D) (ci := 3) (v := .ref (L 2 0)) (C := RX3) (T := TX3) (N := 5) hx hb hts hin3 hown hK hP 0 rfl rfl 0 (by decide) (hts (.fieldLink RX3 10 "ProofMarks" "sheet" "LProofMarks$Sheet;") (List.mem_of_getElem? (i := 1) rfl)) (fun _ h9 => h9) rfl dX3_why_1 ?_
  refine lv_iload_n hx hb dX3_why_4 rfl (lv_at hl 1 rfl) ?_
  have hPc := pm_cutP (pm_eqP (pm_cl_s y L S Bs pi kn Gs sv U) hP)
  refine vp_callSi (W.runV (As := [.int xf]) (rest := []) ⟨hx, hb, hml, hown, hts⟩ (k_X2_whyNotChosen l D y (L 2) S xf hI) (cwV 1 hts gX3_why_X2_whyNotChosen rfl rfl rfl hd_X2_whyNotChosen ⟨Nat.le_of_ble_eq_true rfl, Nat.le_of_ble_eq_true rfl⟩) ⟨pm_ro_blind, va_recv hK hPc (ci := 2) (q0 := 0) rfl rfl, pm_ro_pre hPc hK⟩ rfl rfl hl.1 rfl (lv_room (Nat.le_of_ble_eq_true rfl)) dX3_why_5 ⟨Nat.le_of_ble_eq_true rfl, Nat.le_of_ble_eq_true rfl⟩) (fun r9 h9 => ?_)
  exact W.iret hx hb hr (fun t ht _ => ⟨_, rfl, h9, ht⟩) (fun _ h => absurd h List.not_mem_nil) dX3_why_8

set_option maxHeartbeats 4000000 in
set_option maxRecDepth 100000 in
theorem k_X3_ifRound (l : Launch) (D : va_G) (y : Nat → ClassId) (L : Nat → Nat → Nat) (S : Nat → Nat → Nat) (Bs : Nat → Nat → Nat → Nat) (pi : Nat → Nat) (kn : Nat) (Gs : Nat → Nat → Nat → Nat) (sv : Nat → Nat) (U : pm_PT) (Hs Sl : Nat → Nat → Nat → Nat) (xw : Int32) (hI : pm_Inv S) : Met l yX3_ifRound wsX3_ifRound ({ frames := 5, cells := 0, slots := 0, locals := 108 } : Room) (pm_ro D (pm_ty y) [.ref (L 0 0), .int xw] (pm_cl y L S Bs pi kn Gs sv U)) (vp_Si (fun r : Int32 => r = pm_ifr S xw)) 0 0 (fun _ => False) := by
  refine Met.ofW (cc := cX3_ifRound) (maxL := 2) (ret := (some .int)) (by decide) rfl ?_
  intro p e s m args below meth c s₁ B hml hpre
  obtain ⟨rfl, hP, hK⟩ := hpre
  have hx := B.exec
  have hb := B.bytes
  have hr := B.returns
  have hts := atoms_spec (ws := wsX3_ifRound) B.pre
  have hown : s.vm.findClass RX3 = some m.cls := findClass_of_methodNamed B.named
  have hlocks := B.notSynchronized
  have hin3 : ∀ w ∈ u_ws RX3 TX3 5, w ∈ wsX3_ifRound := fun w h => List.mem_cons_of_mem _ (List.mem_append_left _ (List.mem_append_right _ h))
  have hin2 : ∀ w ∈ u_ws RX2 TX2 15, w ∈ wsX3_ifRound := fun w h => List.mem_cons_of_mem _ (List.mem_append_right _ h)
  have hP : va_P D vwCl (pm_cl y L S Bs pi kn Gs sv U) s.heap := hP
  have hl := lv_entry ([.ref (L 0 0), .int xw]) (n := 2) (Nat.le_of_ble_eq_true rfl)
  rw [lg_entry_eq]
  generalize (lg_sl ([.ref (L 0 0), .int xw]) ++ List.replicate (2 - (lg_sl ([.ref (L 0 0), .int xw])).length) Slot.unset).toArray = ls at hl ⊢
  have hl : lv_has ls 2 [(0, .ref (L 0 0)), (1, .int xw)] := hl
  refine lv_aload_n hx hb dX3_ifRound_0 rfl (lv_at hl 0 rfl) ?_
  refine va_get (D := D) (ci := 3) (v := .ref (L 2 0)) (C := RX3) (T := TX3) (N := 5) hx hb hts hin3 hown hK hP 0 rfl rfl 0 (by decide) (hts (.fieldLink RX3 10 "ProofMarks" "sheet" "LProofMarks$Sheet;") (List.mem_of_getElem? (i := 1) rfl)) (fun _ h9 => h9) rfl dX3_ifRound_1 ?_
  refine lv_iload_n hx hb dX3_ifRound_4 rfl (lv_at hl 1 rfl) ?_
  have hPc := pm_cutP (pm_eqP (pm_cl_s y L S Bs pi kn Gs sv U) hP)
  refine vp_callSi (W.runV (As := [.int xw]) (rest := []) ⟨hx, hb, hml, hown, hts⟩ (k_X2_roundWouldBring l D y (L 2) S xw hI) (cwV 1 hts gX3_ifRound_X2_roundWouldBring rfl rfl rfl hd_X2_roundWouldBring ⟨Nat.le_of_ble_eq_true rfl, Nat.le_of_ble_eq_true rfl⟩) ⟨pm_ro_blind, va_recv hK hPc (ci := 2) (q0 := 0) rfl rfl, pm_ro_pre hPc hK⟩ rfl rfl hl.1 rfl (lv_room (Nat.le_of_ble_eq_true rfl)) dX3_ifRound_5 ⟨Nat.le_of_ble_eq_true rfl, Nat.le_of_ble_eq_true rfl⟩) (fun r9 h9 => ?_)
  exact W.iret hx hb hr (fun t ht _ => ⟨_, rfl, h9, ht⟩) (fun _ h => absurd h List.not_mem_nil) dX3_ifRound_8

set_option maxHeartbeats 4000000 in
set_option maxRecDepth 100000 in
theorem k_X3_decides (l : Launch) (D : va_G) (y : Nat → ClassId) (L : Nat → Nat → Nat) (S : Nat → Nat → Nat) (Bs : Nat → Nat → Nat → Nat) (pi : Nat → Nat) (kn : Nat) (Gs : Nat → Nat → Nat → Nat) (sv : Nat → Nat) (U : pm_PT) (Hs Sl : Nat → Nat → Nat → Nat) (xf : Int32) (hI : pm_Inv S) : Met l yX3_decides wsX3_decides ({ frames := 4, cells := 0, slots := 0, locals := 91 } : Room) (pm_ro D (pm_ty y) [.ref (L 0 0), .int xf] (pm_cl y L S Bs pi kn Gs sv U)) (vp_Si (fun r : Int32 => r = pm_dec S xf)) 0 0 (fun _ => False) := by
  refine Met.ofW (cc := cX3_decides) (maxL := 2) (ret := (some .int)) (by decide) rfl ?_
  intro p e s m args below meth c s₁ B hml hpre
  obtain ⟨rfl, hP, hK⟩ := hpre
  have hx := B.exec
  have hb := B.bytes
  have hr := B.returns
  have hts := atoms_spec (ws := wsX3_decides) B.pre
  have hown : s.vm.findClass RX3 = some m.cls := findClass_of_methodNamed B.named
  have hlocks := B.notSynchronized
  have hin3 : ∀ w ∈ u_ws RX3 TX3 5, w ∈ wsX3_decides := fun w h => List.mem_cons_of_mem _ (List.mem_append_left _ (List.mem_append_right _ h))
  have hin2 : ∀ w ∈ u_ws RX2 TX2 15, w ∈ wsX3_decides := fun w h => List.mem_cons_of_mem _ (List.mem_append_right _ h)
  have hP : va_P D vwCl (pm_cl y L S Bs pi kn Gs sv U) s.heap := hP
  have hl := lv_entry ([.ref (L 0 0), .int xf]) (n := 2) (Nat.le_of_ble_eq_true rfl)
  rw [lg_entry_eq]
  generalize (lg_sl ([.ref (L 0 0), .int xf]) ++ List.replicate (2 - (lg_sl ([.ref (L 0 0), .int xf])).length) Slot.unset).toArray = ls at hl ⊢
  have hl : lv_has ls 2 [(0, .ref (L 0 0)), (1, .int xf)] := hl
  refine lv_aload_n hx hb dX3_decides_0 rfl (lv_at hl 0 rfl) ?_
  refine va_get (D := D) (ci := 3) (v := .ref (L 2 0)) (C := RX3) (T := TX3) (N := 5) hx hb hts hin3 hown hK hP 0 rfl rfl 0 (by decide) (hts (.fieldLink RX3 10 "ProofMarks" "sheet" "LProofMarks$Sheet;") (List.mem_of_getElem? (i := 1) rfl)) (fun _ h9 => h9) rfl dX3_decides_1 ?_
  refine lv_iload_n hx hb dX3_decides_4 rfl (lv_at hl 1 rfl) ?_
  have hPc := pm_cutP (pm_eqP (pm_cl_s y L S Bs pi kn Gs sv U) hP)
  refine vp_callSi (W.runV (As := [.int xf]) (rest := []) ⟨hx, hb, hml, hown, hts⟩ (k_X2_deciders l D y (L 2) S xf hI) (cwV 1 hts gX3_decides_X2_deciders rfl rfl rfl hd_X2_deciders ⟨Nat.le_of_ble_eq_true rfl, Nat.le_of_ble_eq_true rfl⟩) ⟨pm_ro_blind, va_recv hK hPc (ci := 2) (q0 := 0) rfl rfl, pm_ro_pre hPc hK⟩ rfl rfl hl.1 rfl (lv_room (Nat.le_of_ble_eq_true rfl)) dX3_decides_5 ⟨Nat.le_of_ble_eq_true rfl, Nat.le_of_ble_eq_true rfl⟩) (fun r9 h9 => ?_)
  exact W.iret hx hb hr (fun t ht _ => ⟨_, rfl, h9, ht⟩) (fun _ h => absurd h List.not_mem_nil) dX3_decides_8

set_option maxHeartbeats 4000000 in
set_option maxRecDepth 100000 in
theorem k_X3_agree (l : Launch) (D : va_G) (y : Nat → ClassId) (L : Nat → Nat → Nat) (S : Nat → Nat → Nat) (Bs : Nat → Nat → Nat → Nat) (pi : Nat → Nat) (kn : Nat) (Gs : Nat → Nat → Nat → Nat) (sv : Nat → Nat) (U : pm_PT) (Hs Sl : Nat → Nat → Nat → Nat) (xe xo : Int32) (hI : pm_Inv S) : Met l yX3_agree wsX3_agree ({ frames := 2, cells := 0, slots := 0, locals := 50 } : Room) (pm_ro D (pm_ty y) [.ref (L 0 0), .int xe, .int xo] (pm_cl y L S Bs pi kn Gs sv U)) (vp_Si (fun r : Int32 => r = pm_agr S xe xo)) 0 0 (fun _ => False) := by
  refine Met.ofW (cc := cX3_agree) (maxL := 3) (ret := (some .int)) (by decide) rfl ?_
  intro p e s m args below meth c s₁ B hml hpre
  obtain ⟨rfl, hP, hK⟩ := hpre
  have hx := B.exec
  have hb := B.bytes
  have hr := B.returns
  have hts := atoms_spec (ws := wsX3_agree) B.pre
  have hown : s.vm.findClass RX3 = some m.cls := findClass_of_methodNamed B.named
  have hlocks := B.notSynchronized
  have hin3 : ∀ w ∈ u_ws RX3 TX3 5, w ∈ wsX3_agree := fun w h => List.mem_cons_of_mem _ (List.mem_append_left _ (List.mem_append_right _ h))
  have hin2 : ∀ w ∈ u_ws RX2 TX2 15, w ∈ wsX3_agree := fun w h => List.mem_cons_of_mem _ (List.mem_append_right _ h)
  have hP : va_P D vwCl (pm_cl y L S Bs pi kn Gs sv U) s.heap := hP
  have hl := lv_entry ([.ref (L 0 0), .int xe, .int xo]) (n := 3) (Nat.le_of_ble_eq_true rfl)
  rw [lg_entry_eq]
  generalize (lg_sl ([.ref (L 0 0), .int xe, .int xo]) ++ List.replicate (3 - (lg_sl ([.ref (L 0 0), .int xe, .int xo])).length) Slot.unset).toArray = ls at hl ⊢
  have hl : lv_has ls 3 [(0, .ref (L 0 0)), (1, .int xe), (2, .int xo)] := hl
  refine lv_aload_n hx hb dX3_agree_0 rfl (lv_at hl 0 rfl) ?_
  refine va_get (D := D) (ci := 3) (v := .ref (L 2 0)) (C := RX3) (T := TX3) (N := 5) hx hb hts hin3 hown hK hP 0 rfl rfl 0 (by decide) (hts (.fieldLink RX3 10 "ProofMarks" "sheet" "LProofMarks$Sheet;") (List.mem_of_getElem? (i := 1) rfl)) (fun _ h9 => h9) rfl dX3_agree_1 ?_
  refine lv_iload_n hx hb dX3_agree_4 rfl (lv_at hl 1 rfl) ?_
  refine lv_iload_n hx hb dX3_agree_5 rfl (lv_at hl 2 rfl) ?_
  have hPc := pm_cutP (pm_eqP (pm_cl_s y L S Bs pi kn Gs sv U) hP)
  refine vp_callSi (W.runV (As := [.int xe, .int xo]) (rest := []) ⟨hx, hb, hml, hown, hts⟩ (k_X2_agreement l D y (L 2) S xe xo hI) (cwV 2 hts gX3_agree_X2_agreement rfl rfl rfl hd_X2_agreement ⟨Nat.le_of_ble_eq_true rfl, Nat.le_of_ble_eq_true rfl⟩) ⟨pm_ro_blind, va_recv hK hPc (ci := 2) (q0 := 0) rfl rfl, pm_ro_pre hPc hK⟩ rfl rfl hl.1 rfl (lv_room (Nat.le_of_ble_eq_true rfl)) dX3_agree_6 ⟨Nat.le_of_ble_eq_true rfl, Nat.le_of_ble_eq_true rfl⟩) (fun r9 h9 => ?_)
  exact W.iret hx hb hr (fun t ht _ => ⟨_, rfl, h9, ht⟩) (fun _ h => absurd h List.not_mem_nil) dX3_agree_9

set_option maxHeartbeats 4000000 in
set_option maxRecDepth 100000 in
theorem k_X3_paperFor (l : Launch) (D : va_G) (y : Nat → ClassId) (L : Nat → Nat → Nat) (S : Nat → Nat → Nat) (Bs : Nat → Nat → Nat → Nat) (pi : Nat → Nat) (kn : Nat) (Gs : Nat → Nat → Nat → Nat) (sv : Nat → Nat) (U : pm_PT) (Hs Sl : Nat → Nat → Nat → Nat) (hI : pm_Inv S) : Met l yX3_paperFor wsX3_paperFor ({ frames := 2, cells := 0, slots := 0, locals := 42 } : Room) (pm_ro D (pm_ty y) [.ref (L 0 0)] (pm_cl y L S Bs pi kn Gs sv U)) (vp_Si (fun r : Int32 => r = nI (pm_pf S 30))) 0 0 (fun _ => False) := by
  refine Met.ofW (cc := cX3_paperFor) (maxL := 1) (ret := (some .int)) (by decide) rfl ?_
  intro p e s m args below meth c s₁ B hml hpre
  obtain ⟨rfl, hP, hK⟩ := hpre
  have hx := B.exec
  have hb := B.bytes
  have hr := B.returns
  have hts := atoms_spec (ws := wsX3_paperFor) B.pre
  have hown : s.vm.findClass RX3 = some m.cls := findClass_of_methodNamed B.named
  have hlocks := B.notSynchronized
  have hin3 : ∀ w ∈ u_ws RX3 TX3 5, w ∈ wsX3_paperFor := fun w h => List.mem_cons_of_mem _ (List.mem_append_left _ (List.mem_append_right _ h))
  have hin2 : ∀ w ∈ u_ws RX2 TX2 15, w ∈ wsX3_paperFor := fun w h => List.mem_cons_of_mem _ (List.mem_append_right _ h)
  have hP : va_P D vwCl (pm_cl y L S Bs pi kn Gs sv U) s.heap := hP
  have hl := lv_entry ([.ref (L 0 0)]) (n := 1) (Nat.le_of_ble_eq_true rfl)
  rw [lg_entry_eq]
  generalize (lg_sl ([.ref (L 0 0)]) ++ List.replicate (1 - (lg_sl ([.ref (L 0 0)])).length) Slot.unset).toArray = ls at hl ⊢
  have hl : lv_has ls 1 [(0, .ref (L 0 0))] := hl
  refine lv_aload_n hx hb dX3_paperFor_0 rfl (lv_at hl 0 rfl) ?_
  refine va_get (D := D) (ci := 3) (v := .ref (L 2 0)) (C := RX3) (T := TX3) (N := 5) hx hb hts hin3 hown hK hP 0 rfl rfl 0 (by decide) (hts (.fieldLink RX3 10 "ProofMarks" "sheet" "LProofMarks$Sheet;") (List.mem_of_getElem? (i := 1) rfl)) (fun _ h9 => h9) rfl dX3_paperFor_1 ?_
  have hPc := pm_cutP (pm_eqP (pm_cl_s y L S Bs pi kn Gs sv U) hP)
  refine vp_callSi (W.runV (As := []) (rest := []) ⟨hx, hb, hml, hown, hts⟩ (k_X2_paperForChosen l D y (L 2) S hI) (cwV 0 hts gX3_paperFor_X2_paperForChosen rfl rfl rfl hd_X2_paperForChosen ⟨Nat.le_of_ble_eq_true rfl, Nat.le_of_ble_eq_true rfl⟩) ⟨pm_ro_blind, va_recv hK hPc (ci := 2) (q0 := 0) rfl rfl, pm_ro_pre hPc hK⟩ rfl rfl hl.1 rfl (lv_room (Nat.le_of_ble_eq_true rfl)) dX3_paperFor_4 ⟨Nat.le_of_ble_eq_true rfl, Nat.le_of_ble_eq_true rfl⟩) (fun r9 h9 => ?_)
  exact W.iret hx hb hr (fun t ht _ => ⟨_, rfl, h9, ht⟩) (fun _ h => absurd h List.not_mem_nil) dX3_paperFor_7

