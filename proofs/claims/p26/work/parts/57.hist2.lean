set_option maxHeartbeats 4000000 in
set_option maxRecDepth 100000 in
theorem k_X0_note (l : Launch) (D : va_G) (y : Nat → ClassId) (h : Nat → Nat) (b : Nat → Nat → Nat) (Bs : Nat → Nat → Nat → Nat) (pi : Nat → Nat) (kn : Nat) (q : Nat → Nat) (S : Nat → Nat → Nat) (hpi : ∀ i, i < 7 → pi i < 7) (hkn : kn ≤ 6) : Met l yX0_note wsX0_note ({ frames := 2, cells := 0, slots := 0, locals := 39 } : Room) (pm_wr D (pm_ty y) [.ref (h 0), .ref (q 0)] (pm_hc y h b Bs (pm_rf b pi) kn q S)) (pm_Qv D (fun (_ : Unit) => True) (fun (_ : Unit) => pm_hc y h b (pm_ub Bs (pi kn) S) (pm_rf b pi) kn q S) (pm_hc y h b Bs (pm_rf b pi) kn q S)) 0 0 (pm_ad (pm_hc y h b Bs (pm_rf b pi) kn q S)) := by
  refine Met.ofW (cc := cX0_note) (maxL := 2) (ret := none) (by decide) rfl ?_
  intro p e s m args below meth c s₁ B hml hpre
  obtain ⟨rfl, hP, hK, hD0⟩ := hpre
  have hx := B.exec
  have hb := B.bytes
  have hr := B.returns
  have hts := atoms_spec (ws := wsX0_note) B.pre
  have hown : s.vm.findClass RX0 = some m.cls := findClass_of_methodNamed B.named
  have hlocks := B.notSynchronized
  have hin0 : ∀ w ∈ u_ws RX0 TX0 2, w ∈ wsX0_note := fun w h => List.mem_cons_of_mem _ (List.mem_append_left _ (List.mem_append_right _ h))
  have hin2 : ∀ w ∈ u_ws RX2 TX2 15, w ∈ wsX0_note := fun w h => List.mem_cons_of_mem _ (List.mem_append_right _ h)
  have hD := pm_ad_self hD0
  have hS : va_S (pm_ad (pm_hc y h b Bs (pm_rf b pi) kn q S)) s.heap s.heap [] := va_S.rf
  have hP : va_P D vwCl (pm_hc y h b Bs (pm_rf b pi) kn q S) s.heap := hP
  have hl := lv_entry ([.ref (h 0), .ref (q 0)]) (n := 2) (Nat.le_of_ble_eq_true rfl)
  rw [lg_entry_eq]
  generalize (lg_sl ([.ref (h 0), .ref (q 0)]) ++ List.replicate (2 - (lg_sl ([.ref (h 0), .ref (q 0)])).length) Slot.unset).toArray = ls at hl ⊢
  have hl : lv_has ls 2 [(0, .ref (h 0)), (1, .ref (q 0))] := hl
  refine lv_aload_n hx hb dX0_note_0 rfl (lv_at hl 0 rfl) ?_
  refine va_get (D := D) (ci := 0) (v := .ref (h 1)) (C := RX0) (T := TX0) (N := 2) hx hb hts hin0 hown hK hP 0 rfl rfl 0 (by decide) (hts (.fieldLink RX0 11 "ProofMarks$History" "states" "[LProofMarks$Sheet;") (List.mem_of_getElem? (i := 1) rfl)) (fun _ h9 => h9) rfl dX0_note_1 ?_
  refine lv_aload_n hx hb dX0_note_4 rfl (lv_at hl 0 rfl) ?_
  refine va_get (D := D) (ci := 0) (v := .int (nI kn)) (C := RX0) (T := TX0) (N := 2) hx hb hts hin0 hown hK hP 0 rfl rfl 1 (by decide) (hts (.fieldLink RX0 15 "ProofMarks$History" "kept" "I") (List.mem_of_getElem? (i := 2) rfl)) (fun _ h9 => h9) rfl dX0_note_5 ?_
  refine kx_aald (v := b (pi kn) 0) hx hb hK hP 1 3 rfl rfl (by omega) (by decide) rfl dX0_note_8 ?_
  refine lv_aload_n hx hb dX0_note_9 rfl (lv_at hl 1 rfl) ?_
  have hPc := (pm_hc_P hP (hpi kn (by omega))).1
  have hDc := (pm_hc_D hD (hpi kn (by omega))).1
  refine va_callv (va_runV (As := [.ref (q 0)]) (rest := []) ⟨hx, hb, hml, hown, hts⟩ (k_X2_takeOver l D y (b (pi kn)) q (Bs (pi kn)) S) (cwV 1 hts gX0_note_X2_takeOver rfl rfl rfl hd_X2_takeOver ⟨Nat.le_of_ble_eq_true rfl, Nat.le_of_ble_eq_true rfl⟩) ⟨pm_wr_blind, va_recv hK hPc (ci := 2) (q0 := 0) rfl rfl, pm_wr_pre hPc hK hDc⟩ rfl rfl hl.1 rfl (lv_room (Nat.le_of_ble_eq_true rfl)) dX0_note_10 ⟨Nat.le_of_ble_eq_true rfl, Nat.le_of_ble_eq_true rfl⟩) hS (fun q _ h9 => pm_ad_all hDc q h9) (pm_ad_all hDc) (fun u9 t9 H1 locs ht9 _ h9 hB9 _ hk9 hS => ?_)
  have hP := pm_hc_to hP hD (hpi kn (by omega)) hk9 (by rw [← ht9]; exact hB9)
  have hD : va_D _ (pm_hc y h b (pm_ub Bs (pi kn) S) (pm_rf b pi) kn q S) := pm_D_same (pm_hc_fst ..) hD
  exact W.vret hx hb hr (fun t ht _ => ⟨⟨(), rfl, trivial, (by show va_P D vwCl (pm_hc y h b (pm_ub Bs (pi kn) S) (pm_rf b pi) kn q S) t.heap; rw [ht]; exact hP)⟩, hS.F ht⟩) hS.2.2 dX0_note_13

set_option maxHeartbeats 4000000 in
set_option maxRecDepth 100000 in
theorem k_X0_bringBack (l : Launch) (D : va_G) (y : Nat → ClassId) (h : Nat → Nat) (b : Nat → Nat → Nat) (Bs : Nat → Nat → Nat → Nat) (pi : Nat → Nat) (kn : Nat) (q : Nat → Nat) (S : Nat → Nat → Nat) (hpi : ∀ i, i < 7 → pi i < 7) (hkn : kn ≤ 6) (hk0 : 0 < kn) : Met l yX0_bringBack wsX0_bringBack ({ frames := 2, cells := 0, slots := 0, locals := 39 } : Room) (pm_wr D (pm_ty y) [.ref (h 0), .ref (q 0)] (pm_hc y h b Bs (pm_rf b pi) kn q S)) (pm_Qv D (fun (_ : Unit) => True) (fun (_ : Unit) => pm_hc y h b Bs (pm_rf b pi) (kn - 1) q (Bs (pi (kn - 1)))) (pm_hc y h b Bs (pm_rf b pi) kn q S)) 0 0 (pm_ad (pm_hc y h b Bs (pm_rf b pi) kn q S)) := by
  refine Met.ofW (cc := cX0_bringBack) (maxL := 2) (ret := none) (by decide) rfl ?_
  intro p e s m args below meth c s₁ B hml hpre
  obtain ⟨rfl, hP, hK, hD0⟩ := hpre
  have hx := B.exec
  have hb := B.bytes
  have hr := B.returns
  have hts := atoms_spec (ws := wsX0_bringBack) B.pre
  have hown : s.vm.findClass RX0 = some m.cls := findClass_of_methodNamed B.named
  have hlocks := B.notSynchronized
  have hin0 : ∀ w ∈ u_ws RX0 TX0 2, w ∈ wsX0_bringBack := fun w h => List.mem_cons_of_mem _ (List.mem_append_left _ (List.mem_append_right _ h))
  have hin2 : ∀ w ∈ u_ws RX2 TX2 15, w ∈ wsX0_bringBack := fun w h => List.mem_cons_of_mem _ (List.mem_append_right _ h)
  have hD := pm_ad_self hD0
  have hS : va_S (pm_ad (pm_hc y h b Bs (pm_rf b pi) kn q S)) s.heap s.heap [] := va_S.rf
  have hP : va_P D vwCl (pm_hc y h b Bs (pm_rf b pi) kn q S) s.heap := hP
  have hl := lv_entry ([.ref (h 0), .ref (q 0)]) (n := 2) (Nat.le_of_ble_eq_true rfl)
  rw [lg_entry_eq]
  generalize (lg_sl ([.ref (h 0), .ref (q 0)]) ++ List.replicate (2 - (lg_sl ([.ref (h 0), .ref (q 0)])).length) Slot.unset).toArray = ls at hl ⊢
  have hl : lv_has ls 2 [(0, .ref (h 0)), (1, .ref (q 0))] := hl
  refine lv_aload_n hx hb dX0_bringBack_0 rfl (lv_at hl 0 rfl) ?_
  refine va_get (D := D) (ci := 0) (v := .int (nI kn)) (C := RX0) (T := TX0) (N := 2) hx hb hts hin0 hown hK hP 0 rfl rfl 1 (by decide) (hts (.fieldLink RX0 15 "ProofMarks$History" "kept" "I") (List.mem_of_getElem? (i := 1) rfl)) (fun _ h9 => h9) rfl dX0_bringBack_1 ?_
  refine kx_if_le (tgt := 30) hx hb (by omega) dX0_bringBack_4 (by decide) (fun c1 => by exfalso; omega) (fun c1 => ?_)
  refine lv_aload_n hx hb dX0_bringBack_7 rfl (lv_at hl 0 rfl) ?_
  refine lv_dup hx hb dX0_bringBack_8 rfl ?_
  refine va_get (D := D) (ci := 0) (v := .int (nI kn)) (C := RX0) (T := TX0) (N := 2) hx hb hts hin0 hown hK hP 0 rfl rfl 1 (by decide) (hts (.fieldLink RX0 15 "ProofMarks$History" "kept" "I") (List.mem_of_getElem? (i := 1) rfl)) (fun _ h9 => h9) rfl dX0_bringBack_9 ?_
  refine lv_iconst (v := nI 1) hx hb dX0_bringBack_12 (by decide) ?_
  refine kx_isub hx hb (by omega) dX0_bringBack_13 ?_
  refine kx_put (D := D) (ci := 0) (v := .int (nI (kn - 1))) (ty := .int) (ws' := pm_hc y h b Bs (pm_rf b pi) (kn - 1) q S) (C := RX0) (T := TX0) (N := 2) hx hb hts hin0 tyX0 tyX0_ok nmX0 hown hK hP hD hS 0 rfl rfl 1 (by decide) (hts (.fieldLink RX0 15 "ProofMarks$History" "kept" "I") (List.mem_of_getElem? (i := 1) rfl)) (fun _ h9 => h9) rfl (by decide +kernel) rfl rfl (Nat.le_of_ble_eq_true rfl) rfl dX0_bringBack_14 (fun H locs hP hD hS => ?_)
  refine lv_aload_n hx hb dX0_bringBack_17 rfl (lv_at hl 1 rfl) ?_
  refine lv_aload_n hx hb dX0_bringBack_18 rfl (lv_at hl 0 rfl) ?_
  refine va_get (D := D) (ci := 0) (v := .ref (h 1)) (C := RX0) (T := TX0) (N := 2) hx hb hts hin0 hown hK hP 0 rfl rfl 0 (by decide) (hts (.fieldLink RX0 11 "ProofMarks$History" "states" "[LProofMarks$Sheet;") (List.mem_of_getElem? (i := 2) rfl)) (fun _ h9 => h9) rfl dX0_bringBack_19 ?_
  refine lv_aload_n hx hb dX0_bringBack_22 rfl (lv_at hl 0 rfl) ?_
  refine va_get (D := D) (ci := 0) (v := .int (nI (kn - 1))) (C := RX0) (T := TX0) (N := 2) hx hb hts hin0 hown hK hP 0 rfl rfl 1 (by decide) (hts (.fieldLink RX0 15 "ProofMarks$History" "kept" "I") (List.mem_of_getElem? (i := 1) rfl)) (fun _ h9 => h9) rfl dX0_bringBack_23 ?_
  refine kx_aald (v := b (pi (kn - 1)) 0) hx hb hK hP 1 3 rfl rfl (by omega) (by decide) rfl dX0_bringBack_26 ?_
  have hPc := (pm_hc_P hP (hpi (kn - 1) (by omega))).2
  have hDc := (pm_hc_D hD (hpi (kn - 1) (by omega))).2
  refine va_callv (va_runV (As := [.ref (b (pi (kn - 1)) 0)]) (rest := []) ⟨hx, hb, hml, hown, hts⟩ (k_X2_takeOver l D y q (b (pi (kn - 1))) S (Bs (pi (kn - 1)))) (cwV 1 hts gX0_bringBack_X2_takeOver rfl rfl rfl hd_X2_takeOver ⟨Nat.le_of_ble_eq_true rfl, Nat.le_of_ble_eq_true rfl⟩) ⟨pm_wr_blind, va_recv hK hPc (ci := 2) (q0 := 0) rfl rfl, pm_wr_pre hPc hK hDc⟩ rfl rfl hl.1 rfl (lv_room (Nat.le_of_ble_eq_true rfl)) dX0_bringBack_27 ⟨Nat.le_of_ble_eq_true rfl, Nat.le_of_ble_eq_true rfl⟩) hS (fun q _ h9 => pm_ad_all hDc q h9) (pm_ad_all hDc) (fun u9 t9 H1 locs ht9 _ h9 hB9 _ hk9 hS => ?_)
  have hP := pm_hc_of hP hD (hpi (kn - 1) (by omega)) hk9 (by rw [← ht9]; exact hB9)
  have hD : va_D _ (pm_hc y h b Bs (pm_rf b pi) (kn - 1) q (Bs (pi (kn - 1)))) := pm_D_same (pm_hc_fst ..) hD
  exact W.vret hx hb hr (fun t ht _ => ⟨⟨(), rfl, trivial, (by show va_P D vwCl (pm_hc y h b Bs (pm_rf b pi) (kn - 1) q (Bs (pi (kn - 1)))) t.heap; rw [ht]; exact hP)⟩, hS.F ht⟩) hS.2.2 dX0_bringBack_30

