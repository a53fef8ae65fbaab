set_option maxHeartbeats 4000000 in
set_option maxRecDepth 100000 in
theorem k_X3_set (l : Launch) (D : va_G) (y : Nat → ClassId) (L : Nat → Nat → Nat) (S : Nat → Nat → Nat) (Bs : Nat → Nat → Nat → Nat) (pi : Nat → Nat) (kn : Nat) (Gs : Nat → Nat → Nat → Nat) (sv : Nat → Nat) (U : pm_PT) (Hs Sl : Nat → Nat → Nat → Nat) (tl tm : Nat) (xk xv : Int32) (hC : pm_CI Bs pi kn Gs sv Hs Sl) (hI : pm_Inv S) : Met l yX3_set wsX3_set ({ frames := 3, cells := 0, slots := 0, locals := 60 } : Room) (pm_wrs tl tm D (pm_ty y) [.ref (L 0 0), .int xk, .int xv] (pm_cl y L S Bs pi kn Gs sv U)) (pm_Qi D (fun (r : Int32) (_ : Unit) => r = (pm_aSet S xk xv).1) (fun (_ : Unit) => pm_cl y L (pm_aSet S xk xv).2 (pm_ub Bs (pi kn) S) (pm_rp pi kn (pm_aSet S xk xv).1) (pm_rk kn (pm_aSet S xk xv).1) Gs sv U) (pm_cl y L S Bs pi kn Gs sv U)) 0 0 (pm_ad (pm_cl y L S Bs pi kn Gs sv U)) := by
  refine Met.ofW (cc := cX3_set) (maxL := 3) (ret := (some .int)) (by decide) rfl ?_
  intro p e s m args below meth c s₁ B hml hpre
  obtain ⟨rfl, ⟨hP, hK, hD0⟩, hT⟩ := hpre
  have hx := B.exec
  have hb := B.bytes
  have hr := B.returns
  have hts := atoms_spec (ws := wsX3_set) B.pre
  have hown : s.vm.findClass RX3 = some m.cls := findClass_of_methodNamed B.named
  have hlocks := B.notSynchronized
  have hin3 : ∀ w ∈ u_ws RX3 TX3 5, w ∈ wsX3_set := fun w h => List.mem_cons_of_mem _ (List.mem_append_left _ (List.mem_append_left _ (List.mem_append_right _ h)))
  have hin0 : ∀ w ∈ u_ws RX0 TX0 2, w ∈ wsX3_set := fun w h => List.mem_cons_of_mem _ (List.mem_append_left _ (List.mem_append_right _ h))
  have hin2 : ∀ w ∈ u_ws RX2 TX2 15, w ∈ wsX3_set := fun w h => List.mem_cons_of_mem _ (List.mem_append_right _ h)
  have hD := pm_ad_self hD0
  have hS : va_S (pm_ad (pm_cl y L S Bs pi kn Gs sv U)) s.heap s.heap [] := va_S.rf
  have hP : va_P D vwCl (pm_cl y L S Bs pi kn Gs sv U) s.heap := hP
  have hl := lv_entry ([.ref (L 0 0), .int xk, .int xv]) (n := 3) (Nat.le_of_ble_eq_true rfl)
  rw [lg_entry_eq]
  generalize (lg_sl ([.ref (L 0 0), .int xk, .int xv]) ++ List.replicate (3 - (lg_sl ([.ref (L 0 0), .int xk, .int xv])).length) Slot.unset).toArray = ls at hl ⊢
  have hl : lv_has ls 3 [(0, .ref (L 0 0)), (1, .int xk), (2, .int xv)] := hl
  refine lv_aload_n hx hb dX3_set_0 rfl (lv_at hl 0 rfl) ?_
  refine va_get (D := D) (ci := 3) (v := .ref (L 1 0)) (C := RX3) (T := TX3) (N := 5) hx hb hts hin3 hown hK hP 0 rfl rfl 1 (by decide) (hts (.fieldLink RX3 19 "ProofMarks" "history" "LProofMarks$History;") (List.mem_of_getElem? (i := 1) rfl)) (fun _ h9 => h9) rfl dX3_set_1 ?_
  refine lv_aload_n hx hb dX3_set_4 rfl (lv_at hl 0 rfl) ?_
  refine va_get (D := D) (ci := 3) (v := .ref (L 2 0)) (C := RX3) (T := TX3) (N := 5) hx hb hts hin3 hown hK hP 0 rfl rfl 0 (by decide) (hts (.fieldLink RX3 10 "ProofMarks" "sheet" "LProofMarks$Sheet;") (List.mem_of_getElem? (i := 2) rfl)) (fun _ h9 => h9) rfl dX3_set_5 ?_
  have hP := pm_eqP (pm_cl_hs y L S Bs pi kn Gs sv U) hP
  have hD := pm_eqD (pm_cl_hs y L S Bs pi kn Gs sv U) hD
  have hPc := pm_cutP hP
  have hDc := pm_cutD hD
  refine va_callv (va_runV (As := [.ref (L 2 0)]) (rest := []) ⟨hx, hb, hml, hown, hts⟩ (k_X0_note l D y (L 1) (pm_bL L) Bs pi kn (L 2) S hC.1 hC.2.2.1) (cwV 1 hts gX3_set_X0_note rfl rfl rfl hd_X0_note ⟨Nat.le_of_ble_eq_true rfl, Nat.le_of_ble_eq_true rfl⟩) ⟨pm_wr_blind, va_recv hK hPc (ci := 0) (q0 := 0) rfl rfl, pm_wr_pre hPc hK hDc⟩ rfl rfl hl.1 rfl (lv_room (Nat.le_of_ble_eq_true rfl)) dX3_set_8 ⟨Nat.le_of_ble_eq_true rfl, Nat.le_of_ble_eq_true rfl⟩) hS (fun q _ h9 => pm_ad_all hDc q h9) (pm_ad_all hDc) (fun u9 t9 H1 locs ht9 _ h9 hB9 _ hk9 hS => ?_)
  obtain ⟨hP, hD⟩ := pm_mid (w' := pm_hc y (L 1) (pm_bL L) (pm_ub Bs (pi kn) S) (pm_rf (pm_bL L) pi) kn (L 2) S) hP hD hk9 (by rw [← ht9]; exact hB9) (pm_hc_fst ..)
  have hP : va_P D vwCl (pm_cl y L S (pm_ub Bs (pi kn) S) pi kn Gs sv U) H1 := pm_eqP (pm_cl_hs y L S (pm_ub Bs (pi kn) S) pi kn Gs sv U).symm hP
  have hD : va_D (pm_ad (pm_cl y L S Bs pi kn Gs sv U)) (pm_cl y L S (pm_ub Bs (pi kn) S) pi kn Gs sv U) := pm_eqD (pm_cl_hs y L S (pm_ub Bs (pi kn) S) pi kn Gs sv U).symm hD
  replace hC := pm_CI_note S hC
  refine lv_aload_n hx hb dX3_set_11 rfl (lv_at hl 0 rfl) ?_
  refine lv_aload_n hx hb dX3_set_12 rfl (lv_at hl 0 rfl) ?_
  refine va_get (D := D) (ci := 3) (v := .ref (L 2 0)) (C := RX3) (T := TX3) (N := 5) hx hb hts hin3 hown hK hP 0 rfl rfl 0 (by decide) (hts (.fieldLink RX3 10 "ProofMarks" "sheet" "LProofMarks$Sheet;") (List.mem_of_getElem? (i := 2) rfl)) (fun _ h9 => h9) rfl dX3_set_13 ?_
  refine lv_iload_n hx hb dX3_set_16 rfl (lv_at hl 1 rfl) ?_
  refine lv_iload_n hx hb dX3_set_17 rfl (lv_at hl 2 rfl) ?_
  have hP := pm_eqP (pm_cl_s y L S (pm_ub Bs (pi kn) S) pi kn Gs sv U) hP
  have hD := pm_eqD (pm_cl_s y L S (pm_ub Bs (pi kn) S) pi kn Gs sv U) hD
  have hPc := pm_cutP hP
  have hDc := pm_cutD hD
  refine va_calli (va_runV (As := [.int xk, .int xv]) (rest := [.ref (L 0 0)]) ⟨hx, hb, hml, hown, hts⟩ (k_X2_changeSetting l D y (L 2) S tl tm xk xv hI) (cwV 2 hts gX3_set_X2_changeSetting rfl rfl rfl hd_X2_changeSetting ⟨Nat.le_of_ble_eq_true rfl, Nat.le_of_ble_eq_true rfl⟩) ⟨pm_wrs_blind, va_recv hK hPc (ci := 2) (q0 := 0) rfl rfl, pm_wrs_pre (H0 := s.heap) hPc hK hDc (fun _ h9 => h9) hS hT⟩ rfl rfl hl.1 rfl (lv_room (Nat.le_of_ble_eq_true rfl)) dX3_set_18 ⟨Nat.le_of_ble_eq_true rfl, Nat.le_of_ble_eq_true rfl⟩) hS (fun q _ h9 => pm_ad_all hDc q h9) (pm_ad_all hDc) (fun r9 u9 t9 H1 locs ht9 _ h9 hB9 _ hk9 hS => ?_)
  obtain ⟨hP, hD⟩ := pm_mid (w' := pm_shS y (L 2) (pm_aSet S xk xv).2) hP hD hk9 (by rw [← ht9]; exact hB9) (rfl)
  have hP : va_P D vwCl (pm_cl y L ((pm_aSet S xk xv).2) (pm_ub Bs (pi kn) S) pi kn Gs sv U) H1 := pm_eqP (pm_cl_s y L ((pm_aSet S xk xv).2) (pm_ub Bs (pi kn) S) pi kn Gs sv U).symm hP
  have hD : va_D (pm_ad (pm_cl y L S Bs pi kn Gs sv U)) (pm_cl y L ((pm_aSet S xk xv).2) (pm_ub Bs (pi kn) S) pi kn Gs sv U) := pm_eqD (pm_cl_s y L ((pm_aSet S xk xv).2) (pm_ub Bs (pi kn) S) pi kn Gs sv U).symm hD
  obtain rfl : r9 = (pm_aSet S xk xv).1 := h9
  refine va_calli (va_runV (As := [.int ((pm_aSet S xk xv).1)]) (rest := []) ⟨hx, hb, hml, hown, hts⟩ (k_X3_recorded l D y L ((pm_aSet S xk xv).2) (pm_ub Bs (pi kn) S) pi kn Gs sv U Hs Sl ((pm_aSet S xk xv).1) hC) (cwV 1 hts gX3_set_X3_recorded rfl rfl rfl hd_X3_recorded ⟨Nat.le_of_ble_eq_true rfl, Nat.le_of_ble_eq_true rfl⟩) ⟨pm_wr_blind, va_recv hK hP (ci := 3) (q0 := 0) rfl rfl, pm_wr_pre hP hK hD⟩ rfl rfl hl.1 rfl (lv_room (Nat.le_of_ble_eq_true rfl)) dX3_set_21 ⟨Nat.le_of_ble_eq_true rfl, Nat.le_of_ble_eq_true rfl⟩) hS (fun q _ h9 => pm_ad_all hD q h9) (pm_ad_all hD) (fun r8 u8 t8 H2 locs ht8 _ h8 hB8 _ hk8 hS => ?_)
  have hP : va_P D vwCl (pm_cl y L ((pm_aSet S xk xv).2) (pm_ub Bs (pi kn) S) (pm_rp pi kn ((pm_aSet S xk xv).1)) (pm_rk kn ((pm_aSet S xk xv).1)) Gs sv U) H2 := by rw [← ht8]; exact hB8
  have hD : va_D (pm_ad (pm_cl y L S Bs pi kn Gs sv U)) (pm_cl y L ((pm_aSet S xk xv).2) (pm_ub Bs (pi kn) S) (pm_rp pi kn ((pm_aSet S xk xv).1)) (pm_rk kn ((pm_aSet S xk xv).1)) Gs sv U) := pm_D_same (pm_cl_fst ..) hD
  obtain rfl : r8 = (pm_aSet S xk xv).1 := h8
  exact W.iret hx hb hr (fun t ht _ => ⟨⟨_, (), rfl, rfl, (by show va_P D vwCl (pm_cl y L (pm_aSet S xk xv).2 (pm_ub Bs (pi kn) S) (pm_rp pi kn (pm_aSet S xk xv).1) (pm_rk kn (pm_aSet S xk xv).1) Gs sv U) t.heap; rw [ht]; exact hP)⟩, hS.F ht⟩) hS.2.2 dX3_set_24

