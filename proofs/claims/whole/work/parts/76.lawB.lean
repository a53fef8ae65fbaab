set_option maxHeartbeats 4000000 in
set_option maxRecDepth 100000 in
theorem law_c9 {p : Program} {l : Launch} {e : Env} {s : State} {m : MethodId} {below : List Frame} {meth : Method} {c : Code} {D : va_G} {y : Nat → ClassId} {b : Nat} {L tl tm : Nat} {xs : Nat → Int32} (hL : L ≤ 2048) (C0 : lw_At p s m meth c b L xs) (hK : va_K D vwCl (pm_ty y) s) (hN : pm_NW s) (hT : pm_ST (fun q : Nat => s.heap.size ≤ q) tl tm s) {Ly : Nat → Nat → Nat} {qm : Nat → Nat} {i : Nat} (hi : i + 4 ≤ L) (GO : pm_Go p l e s m below meth c D y b Ly qm i 729) : pm_Go p l e s m below meth c D y b Ly qm i 417 := by
  intro S Bs pi kn Gs sv U gp gs Hs Sl H locs ls hLI hP hD hS hl
  obtain ⟨hx, hb, hr, hml, hown, hts0, hX, hbl, hlocks, hgv⟩ := C0
  have hown : s.vm.findClass RL = some m.cls := hown
  have hts : ∀ w ∈ wsL_law, w.before #[Value.ref b] s = true := fun w hw => hts0 w (wsL_law_in w hw)
  have hbA : ¬ (fun q : Nat => s.heap.size ≤ q) b := Nat.not_le.mpr hbl
  obtain ⟨hI, hC, hM, hMS, hIH, hIS, hsv, hPI⟩ := id hLI
  refine lv_aload_n hx hb dL_law_417 rfl (lv_at hl 1 rfl) ?_
  refine lv_aload_n hx hb dL_law_418 rfl (lv_at hl 0 rfl) ?_
  refine lv_iload_n hx hb dL_law_419 rfl (lv_at hl 3 rfl) ?_
  refine lv_iconst (v := nI 1) hx hb dL_law_420 (by decide) ?_
  refine kx_iadd hx hb dL_law_421 ?_
  refine va_sld hx hb hX hbl hbA hS (vp_in_nI (show i + 1 < L by omega) (by omega)) dL_law_422 ?_
  have hP : va_P D vwCl ([] ++ (pm_cl y Ly S Bs pi kn Gs sv U ++ (pm_mo y qm S gp gs kn U.2.1 sv U.1 ++ []))) _ := hP
  have hD : va_D _ ([] ++ (pm_cl y Ly S Bs pi kn Gs sv U ++ (pm_mo y qm S gp gs kn U.2.1 sv U.1 ++ []))) := hD
  have hPc := pm_cutP hP
  have hDc := pm_cutD hD
  refine vp_callSi (W.runV (As := [.int (xs (nI (i + 1)).toNatClampNeg)]) (rest := []) ⟨hx, hb, hml, hown, hts⟩ (k_X3_chosen l D y Ly S Bs pi kn Gs sv U Hs Sl (xs (nI (i + 1)).toNatClampNeg) hI) (cwV 1 hts gL_law_X3_chosen rfl rfl rfl hd_X3_chosen ⟨Nat.le_of_ble_eq_true rfl, Nat.le_of_ble_eq_true rfl⟩) ⟨pm_ro_blind, va_recv hK hPc (ci := 3) (q0 := 0) rfl rfl, pm_ro_pre hPc hK⟩ rfl rfl hl.1 rfl (lv_room (Nat.le_of_ble_eq_true rfl)) dL_law_423 ⟨Nat.le_of_ble_eq_true rfl, Nat.le_of_ble_eq_true rfl⟩) (fun r7 h7 => ?_)
  refine lv_aload_n hx hb dL_law_426 rfl (lv_at hl 2 rfl) ?_
  refine lv_aload_n hx hb dL_law_427 rfl (lv_at hl 0 rfl) ?_
  refine lv_iload_n hx hb dL_law_428 rfl (lv_at hl 3 rfl) ?_
  refine lv_iconst (v := nI 1) hx hb dL_law_429 (by decide) ?_
  refine kx_iadd hx hb dL_law_430 ?_
  refine va_sld hx hb hX hbl hbA hS (vp_in_nI (show i + 1 < L by omega) (by omega)) dL_law_431 ?_
  have hP : va_P D vwCl (pm_cl y Ly S Bs pi kn Gs sv U ++ (pm_mo y qm S gp gs kn U.2.1 sv U.1 ++ [])) _ := hP
  have hD : va_D _ (pm_cl y Ly S Bs pi kn Gs sv U ++ (pm_mo y qm S gp gs kn U.2.1 sv U.1 ++ [])) := hD
  have hPc := pm_cutP hP
  have hDc := pm_cutD hD
  refine vp_callSi (W.runV (As := [.int (xs (nI (i + 1)).toNatClampNeg)]) (rest := [.int r7]) ⟨hx, hb, hml, hown, hts⟩ (k_X4_chosen l D y qm S gp gs kn U.2.1 sv U.1 (xs (nI (i + 1)).toNatClampNeg) hI) (cwV 1 hts gL_law_X4_chosen rfl rfl rfl hd_X4_chosen ⟨Nat.le_of_ble_eq_true rfl, Nat.le_of_ble_eq_true rfl⟩) ⟨pm_ro_blind, va_recv hK hPc (ci := 4) (q0 := 0) rfl rfl, pm_ro_pre hPc hK⟩ rfl rfl hl.1 rfl (lv_room (Nat.le_of_ble_eq_true rfl)) dL_law_432 ⟨Nat.le_of_ble_eq_true rfl, Nat.le_of_ble_eq_true rfl⟩) (fun r8 h8 => ?_)
  refine lv_icmp_eq (tgt := 729) hx hb dL_law_435 (by decide) (fun _ => ?_) (fun c1 => absurd (pm_isch_u h7 h8) c1)
  exact GO S Bs pi kn Gs sv U gp gs Hs Sl _ _ ls hLI hP hD hS hl

set_option maxHeartbeats 4000000 in
set_option maxRecDepth 100000 in
theorem law_c10 {p : Program} {l : Launch} {e : Env} {s : State} {m : MethodId} {below : List Frame} {meth : Method} {c : Code} {D : va_G} {y : Nat → ClassId} {b : Nat} {L tl tm : Nat} {xs : Nat → Int32} (hL : L ≤ 2048) (C0 : lw_At p s m meth c b L xs) (hK : va_K D vwCl (pm_ty y) s) (hN : pm_NW s) (hT : pm_ST (fun q : Nat => s.heap.size ≤ q) tl tm s) {Ly : Nat → Nat → Nat} {qm : Nat → Nat} {i : Nat} (hi : i + 4 ≤ L) (GO : pm_Go p l e s m below meth c D y b Ly qm i 729) : pm_Go p l e s m below meth c D y b Ly qm i 440 := by
  intro S Bs pi kn Gs sv U gp gs Hs Sl H locs ls hLI hP hD hS hl
  obtain ⟨hx, hb, hr, hml, hown, hts0, hX, hbl, hlocks, hgv⟩ := C0
  have hown : s.vm.findClass RL = some m.cls := hown
  have hts : ∀ w ∈ wsL_law, w.before #[Value.ref b] s = true := fun w hw => hts0 w (wsL_law_in w hw)
  have hbA : ¬ (fun q : Nat => s.heap.size ≤ q) b := Nat.not_le.mpr hbl
  obtain ⟨hI, hC, hM, hMS, hIH, hIS, hsv, hPI⟩ := id hLI
  refine lv_aload_n hx hb dL_law_440 rfl (lv_at hl 1 rfl) ?_
  refine lv_aload_n hx hb dL_law_441 rfl (lv_at hl 0 rfl) ?_
  refine lv_iload_n hx hb dL_law_442 rfl (lv_at hl 3 rfl) ?_
  refine lv_iconst (v := nI 1) hx hb dL_law_443 (by decide) ?_
  refine kx_iadd hx hb dL_law_444 ?_
  refine va_sld hx hb hX hbl hbA hS (vp_in_nI (show i + 1 < L by omega) (by omega)) dL_law_445 ?_
  have hP : va_P D vwCl ([] ++ (pm_cl y Ly S Bs pi kn Gs sv U ++ (pm_mo y qm S gp gs kn U.2.1 sv U.1 ++ []))) _ := hP
  have hD : va_D _ ([] ++ (pm_cl y Ly S Bs pi kn Gs sv U ++ (pm_mo y qm S gp gs kn U.2.1 sv U.1 ++ []))) := hD
  have hPc := pm_cutP hP
  have hDc := pm_cutD hD
  refine vp_callSi (W.runV (As := [.int (xs (nI (i + 1)).toNatClampNeg)]) (rest := []) ⟨hx, hb, hml, hown, hts⟩ (k_X3_count l D y Ly S Bs pi kn Gs sv U Hs Sl (xs (nI (i + 1)).toNatClampNeg) hI) (cwV 1 hts gL_law_X3_count rfl rfl rfl hd_X3_count ⟨Nat.le_of_ble_eq_true rfl, Nat.le_of_ble_eq_true rfl⟩) ⟨pm_ron_blind, va_recv hK hPc (ci := 3) (q0 := 0) rfl rfl, pm_ron_pre hPc hK hN⟩ rfl rfl hl.1 rfl (lv_room (Nat.le_of_ble_eq_true rfl)) dL_law_446 ⟨Nat.le_of_ble_eq_true rfl, Nat.le_of_ble_eq_true rfl⟩) (fun r7 h7 => ?_)
  refine lv_aload_n hx hb dL_law_449 rfl (lv_at hl 2 rfl) ?_
  refine lv_aload_n hx hb dL_law_450 rfl (lv_at hl 0 rfl) ?_
  refine lv_iload_n hx hb dL_law_451 rfl (lv_at hl 3 rfl) ?_
  refine lv_iconst (v := nI 1) hx hb dL_law_452 (by decide) ?_
  refine kx_iadd hx hb dL_law_453 ?_
  refine va_sld hx hb hX hbl hbA hS (vp_in_nI (show i + 1 < L by omega) (by omega)) dL_law_454 ?_
  have hP : va_P D vwCl (pm_cl y Ly S Bs pi kn Gs sv U ++ (pm_mo y qm S gp gs kn U.2.1 sv U.1 ++ [])) _ := hP
  have hD : va_D _ (pm_cl y Ly S Bs pi kn Gs sv U ++ (pm_mo y qm S gp gs kn U.2.1 sv U.1 ++ [])) := hD
  have hPc := pm_cutP hP
  have hDc := pm_cutD hD
  refine vp_callSi (W.runV (As := [.int (xs (nI (i + 1)).toNatClampNeg)]) (rest := [.int r7]) ⟨hx, hb, hml, hown, hts⟩ (k_X4_count l D y qm S gp gs kn U.2.1 sv U.1 (xs (nI (i + 1)).toNatClampNeg) hI) (cwV 1 hts gL_law_X4_count rfl rfl rfl hd_X4_count ⟨Nat.le_of_ble_eq_true rfl, Nat.le_of_ble_eq_true rfl⟩) ⟨pm_ro_blind, va_recv hK hPc (ci := 4) (q0 := 0) rfl rfl, pm_ro_pre hPc hK⟩ rfl rfl hl.1 rfl (lv_room (Nat.le_of_ble_eq_true rfl)) dL_law_455 ⟨Nat.le_of_ble_eq_true rfl, Nat.le_of_ble_eq_true rfl⟩) (fun r8 h8 => ?_)
  refine lv_icmp_eq (tgt := 729) hx hb dL_law_458 (by decide) (fun _ => ?_) (fun c1 => absurd ((h7.trans (pm_cls_co2 S U.2.1 kn _)).trans h8.symm) c1)
  exact GO S Bs pi kn Gs sv U gp gs Hs Sl _ _ ls hLI hP hD hS hl

set_option maxHeartbeats 4000000 in
set_option maxRecDepth 100000 in
theorem law_c11 {p : Program} {l : Launch} {e : Env} {s : State} {m : MethodId} {below : List Frame} {meth : Method} {c : Code} {D : va_G} {y : Nat → ClassId} {b : Nat} {L tl tm : Nat} {xs : Nat → Int32} (hL : L ≤ 2048) (C0 : lw_At p s m meth c b L xs) (hK : va_K D vwCl (pm_ty y) s) (hN : pm_NW s) (hT : pm_ST (fun q : Nat => s.heap.size ≤ q) tl tm s) {Ly : Nat → Nat → Nat} {qm : Nat → Nat} {i : Nat} (hi : i + 4 ≤ L) (GO : pm_Go p l e s m below meth c D y b Ly qm i 729) : pm_Go p l e s m below meth c D y b Ly qm i 463 := by
  intro S Bs pi kn Gs sv U gp gs Hs Sl H locs ls hLI hP hD hS hl
  obtain ⟨hx, hb, hr, hml, hown, hts0, hX, hbl, hlocks, hgv⟩ := C0
  have hown : s.vm.findClass RL = some m.cls := hown
  have hts : ∀ w ∈ wsL_law, w.before #[Value.ref b] s = true := fun w hw => hts0 w (wsL_law_in w hw)
  have hbA : ¬ (fun q : Nat => s.heap.size ≤ q) b := Nat.not_le.mpr hbl
  obtain ⟨hI, hC, hM, hMS, hIH, hIS, hsv, hPI⟩ := id hLI
  refine lv_aload_n hx hb dL_law_463 rfl (lv_at hl 1 rfl) ?_
  refine lv_aload_n hx hb dL_law_464 rfl (lv_at hl 0 rfl) ?_
  refine lv_iload_n hx hb dL_law_465 rfl (lv_at hl 3 rfl) ?_
  refine lv_iconst (v := nI 1) hx hb dL_law_466 (by decide) ?_
  refine kx_iadd hx hb dL_law_467 ?_
  refine va_sld hx hb hX hbl hbA hS (vp_in_nI (show i + 1 < L by omega) (by omega)) dL_law_468 ?_
  have hP : va_P D vwCl ([] ++ (pm_cl y Ly S Bs pi kn Gs sv U ++ (pm_mo y qm S gp gs kn U.2.1 sv U.1 ++ []))) _ := hP
  have hD : va_D _ ([] ++ (pm_cl y Ly S Bs pi kn Gs sv U ++ (pm_mo y qm S gp gs kn U.2.1 sv U.1 ++ []))) := hD
  have hPc := pm_cutP hP
  have hDc := pm_cutD hD
  refine vp_callSi (W.runV (As := [.int (xs (nI (i + 1)).toNatClampNeg)]) (rest := []) ⟨hx, hb, hml, hown, hts⟩ (k_X3_why l D y Ly S Bs pi kn Gs sv U Hs Sl (xs (nI (i + 1)).toNatClampNeg) hI) (cwV 1 hts gL_law_X3_why rfl rfl rfl hd_X3_why ⟨Nat.le_of_ble_eq_true rfl, Nat.le_of_ble_eq_true rfl⟩) ⟨pm_ro_blind, va_recv hK hPc (ci := 3) (q0 := 0) rfl rfl, pm_ro_pre hPc hK⟩ rfl rfl hl.1 rfl (lv_room (Nat.le_of_ble_eq_true rfl)) dL_law_469 ⟨Nat.le_of_ble_eq_true rfl, Nat.le_of_ble_eq_true rfl⟩) (fun r7 h7 => ?_)
  refine lv_aload_n hx hb dL_law_472 rfl (lv_at hl 2 rfl) ?_
  refine lv_aload_n hx hb dL_law_473 rfl (lv_at hl 0 rfl) ?_
  refine lv_iload_n hx hb dL_law_474 rfl (lv_at hl 3 rfl) ?_
  refine lv_iconst (v := nI 1) hx hb dL_law_475 (by decide) ?_
  refine kx_iadd hx hb dL_law_476 ?_
  refine va_sld hx hb hX hbl hbA hS (vp_in_nI (show i + 1 < L by omega) (by omega)) dL_law_477 ?_
  have hP : va_P D vwCl (pm_cl y Ly S Bs pi kn Gs sv U ++ (pm_mo y qm S gp gs kn U.2.1 sv U.1 ++ [])) _ := hP
  have hD : va_D _ (pm_cl y Ly S Bs pi kn Gs sv U ++ (pm_mo y qm S gp gs kn U.2.1 sv U.1 ++ [])) := hD
  have hPc := pm_cutP hP
  have hDc := pm_cutD hD
  refine vp_callSi (W.runV (As := [.int (xs (nI (i + 1)).toNatClampNeg)]) (rest := [.int r7]) ⟨hx, hb, hml, hown, hts⟩ (k_X4_why l D y qm S gp gs kn U.2.1 sv U.1 (xs (nI (i + 1)).toNatClampNeg) hI) (cwV 1 hts gL_law_X4_why rfl rfl rfl hd_X4_why ⟨Nat.le_of_ble_eq_true rfl, Nat.le_of_ble_eq_true rfl⟩) ⟨pm_ro_blind, va_recv hK hPc (ci := 4) (q0 := 0) rfl rfl, pm_ro_pre hPc hK⟩ rfl rfl hl.1 rfl (lv_room (Nat.le_of_ble_eq_true rfl)) dL_law_478 ⟨Nat.le_of_ble_eq_true rfl, Nat.le_of_ble_eq_true rfl⟩) (fun r8 h8 => ?_)
  refine lv_icmp_eq (tgt := 729) hx hb dL_law_481 (by decide) (fun _ => ?_) (fun c1 => absurd (h7.trans h8.symm) c1)
  exact GO S Bs pi kn Gs sv U gp gs Hs Sl _ _ ls hLI hP hD hS hl

set_option maxHeartbeats 4000000 in
set_option maxRecDepth 100000 in
theorem law_c12 {p : Program} {l : Launch} {e : Env} {s : State} {m : MethodId} {below : List Frame} {meth : Method} {c : Code} {D : va_G} {y : Nat → ClassId} {b : Nat} {L tl tm : Nat} {xs : Nat → Int32} (hL : L ≤ 2048) (C0 : lw_At p s m meth c b L xs) (hK : va_K D vwCl (pm_ty y) s) (hN : pm_NW s) (hT : pm_ST (fun q : Nat => s.heap.size ≤ q) tl tm s) {Ly : Nat → Nat → Nat} {qm : Nat → Nat} {i : Nat} (hi : i + 4 ≤ L) (GO : pm_Go p l e s m below meth c D y b Ly qm i 729) : pm_Go p l e s m below meth c D y b Ly qm i 486 := by
  intro S Bs pi kn Gs sv U gp gs Hs Sl H locs ls hLI hP hD hS hl
  obtain ⟨hx, hb, hr, hml, hown, hts0, hX, hbl, hlocks, hgv⟩ := C0
  have hown : s.vm.findClass RL = some m.cls := hown
  have hts : ∀ w ∈ wsL_law, w.before #[Value.ref b] s = true := fun w hw => hts0 w (wsL_law_in w hw)
  have hbA : ¬ (fun q : Nat => s.heap.size ≤ q) b := Nat.not_le.mpr hbl
  obtain ⟨hI, hC, hM, hMS, hIH, hIS, hsv, hPI⟩ := id hLI
  refine lv_aload_n hx hb dL_law_486 rfl (lv_at hl 1 rfl) ?_
  refine lv_aload_n hx hb dL_law_487 rfl (lv_at hl 0 rfl) ?_
  refine lv_iload_n hx hb dL_law_488 rfl (lv_at hl 3 rfl) ?_
  refine lv_iconst (v := nI 1) hx hb dL_law_489 (by decide) ?_
  refine kx_iadd hx hb dL_law_490 ?_
  refine va_sld hx hb hX hbl hbA hS (vp_in_nI (show i + 1 < L by omega) (by omega)) dL_law_491 ?_
  have hP : va_P D vwCl ([] ++ (pm_cl y Ly S Bs pi kn Gs sv U ++ (pm_mo y qm S gp gs kn U.2.1 sv U.1 ++ []))) _ := hP
  have hD : va_D _ ([] ++ (pm_cl y Ly S Bs pi kn Gs sv U ++ (pm_mo y qm S gp gs kn U.2.1 sv U.1 ++ []))) := hD
  have hPc := pm_cutP hP
  have hDc := pm_cutD hD
  refine vp_callSi (W.runV (As := [.int (xs (nI (i + 1)).toNatClampNeg)]) (rest := []) ⟨hx, hb, hml, hown, hts⟩ (k_X3_ifRound l D y Ly S Bs pi kn Gs sv U Hs Sl (xs (nI (i + 1)).toNatClampNeg) hI) (cwV 1 hts gL_law_X3_ifRound rfl rfl rfl hd_X3_ifRound ⟨Nat.le_of_ble_eq_true rfl, Nat.le_of_ble_eq_true rfl⟩) ⟨pm_ro_blind, va_recv hK hPc (ci := 3) (q0 := 0) rfl rfl, pm_ro_pre hPc hK⟩ rfl rfl hl.1 rfl (lv_room (Nat.le_of_ble_eq_true rfl)) dL_law_492 ⟨Nat.le_of_ble_eq_true rfl, Nat.le_of_ble_eq_true rfl⟩) (fun r7 h7 => ?_)
  refine lv_aload_n hx hb dL_law_495 rfl (lv_at hl 2 rfl) ?_
  refine lv_aload_n hx hb dL_law_496 rfl (lv_at hl 0 rfl) ?_
  refine lv_iload_n hx hb dL_law_497 rfl (lv_at hl 3 rfl) ?_
  refine lv_iconst (v := nI 1) hx hb dL_law_498 (by decide) ?_
  refine kx_iadd hx hb dL_law_499 ?_
  refine va_sld hx hb hX hbl hbA hS (vp_in_nI (show i + 1 < L by omega) (by omega)) dL_law_500 ?_
  have hP : va_P D vwCl (pm_cl y Ly S Bs pi kn Gs sv U ++ (pm_mo y qm S gp gs kn U.2.1 sv U.1 ++ [])) _ := hP
  have hD : va_D _ (pm_cl y Ly S Bs pi kn Gs sv U ++ (pm_mo y qm S gp gs kn U.2.1 sv U.1 ++ [])) := hD
  have hPc := pm_cutP hP
  have hDc := pm_cutD hD
  refine vp_callSi (W.runV (As := [.int (xs (nI (i + 1)).toNatClampNeg)]) (rest := [.int r7]) ⟨hx, hb, hml, hown, hts⟩ (k_X4_ifRound l D y qm S gp gs kn U.2.1 sv U.1 (xs (nI (i + 1)).toNatClampNeg) hI) (cwV 1 hts gL_law_X4_ifRound rfl rfl rfl hd_X4_ifRound ⟨Nat.le_of_ble_eq_true rfl, Nat.le_of_ble_eq_true rfl⟩) ⟨pm_ro_blind, va_recv hK hPc (ci := 4) (q0 := 0) rfl rfl, pm_ro_pre hPc hK⟩ rfl rfl hl.1 rfl (lv_room (Nat.le_of_ble_eq_true rfl)) dL_law_501 ⟨Nat.le_of_ble_eq_true rfl, Nat.le_of_ble_eq_true rfl⟩) (fun r8 h8 => ?_)
  refine lv_icmp_eq (tgt := 729) hx hb dL_law_504 (by decide) (fun _ => ?_) (fun c1 => absurd (h7.trans h8.symm) c1)
  exact GO S Bs pi kn Gs sv U gp gs Hs Sl _ _ ls hLI hP hD hS hl

set_option maxHeartbeats 4000000 in
set_option maxRecDepth 100000 in
theorem law_c13 {p : Program} {l : Launch} {e : Env} {s : State} {m : MethodId} {below : List Frame} {meth : Method} {c : Code} {D : va_G} {y : Nat → ClassId} {b : Nat} {L tl tm : Nat} {xs : Nat → Int32} (hL : L ≤ 2048) (C0 : lw_At p s m meth c b L xs) (hK : va_K D vwCl (pm_ty y) s) (hN : pm_NW s) (hT : pm_ST (fun q : Nat => s.heap.size ≤ q) tl tm s) {Ly : Nat → Nat → Nat} {qm : Nat → Nat} {i : Nat} (hi : i + 4 ≤ L) (GO : pm_Go p l e s m below meth c D y b Ly qm i 729) : pm_Go p l e s m below meth c D y b Ly qm i 509 := by
  intro S Bs pi kn Gs sv U gp gs Hs Sl H locs ls hLI hP hD hS hl
  obtain ⟨hx, hb, hr, hml, hown, hts0, hX, hbl, hlocks, hgv⟩ := C0
  have hown : s.vm.findClass RL = some m.cls := hown
  have hts : ∀ w ∈ wsL_law, w.before #[Value.ref b] s = true := fun w hw => hts0 w (wsL_law_in w hw)
  have hbA : ¬ (fun q : Nat => s.heap.size ≤ q) b := Nat.not_le.mpr hbl
  obtain ⟨hI, hC, hM, hMS, hIH, hIS, hsv, hPI⟩ := id hLI
  refine lv_aload_n hx hb dL_law_509 rfl (lv_at hl 1 rfl) ?_
  refine lv_aload_n hx hb dL_law_510 rfl (lv_at hl 0 rfl) ?_
  refine lv_iload_n hx hb dL_law_511 rfl (lv_at hl 3 rfl) ?_
  refine lv_iconst (v := nI 1) hx hb dL_law_512 (by decide) ?_
  refine kx_iadd hx hb dL_law_513 ?_
  refine va_sld hx hb hX hbl hbA hS (vp_in_nI (show i + 1 < L by omega) (by omega)) dL_law_514 ?_
  have hP : va_P D vwCl ([] ++ (pm_cl y Ly S Bs pi kn Gs sv U ++ (pm_mo y qm S gp gs kn U.2.1 sv U.1 ++ []))) _ := hP
  have hD : va_D _ ([] ++ (pm_cl y Ly S Bs pi kn Gs sv U ++ (pm_mo y qm S gp gs kn U.2.1 sv U.1 ++ []))) := hD
  have hPc := pm_cutP hP
  have hDc := pm_cutD hD
  refine vp_callSi (W.runV (As := [.int (xs (nI (i + 1)).toNatClampNeg)]) (rest := []) ⟨hx, hb, hml, hown, hts⟩ (k_X3_decides l D y Ly S Bs pi kn Gs sv U Hs Sl (xs (nI (i + 1)).toNatClampNeg) hI) (cwV 1 hts gL_law_X3_decides rfl rfl rfl hd_X3_decides ⟨Nat.le_of_ble_eq_true rfl, Nat.le_of_ble_eq_true rfl⟩) ⟨pm_ro_blind, va_recv hK hPc (ci := 3) (q0 := 0) rfl rfl, pm_ro_pre hPc hK⟩ rfl rfl hl.1 rfl (lv_room (Nat.le_of_ble_eq_true rfl)) dL_law_515 ⟨Nat.le_of_ble_eq_true rfl, Nat.le_of_ble_eq_true rfl⟩) (fun r7 h7 => ?_)
  refine lv_aload_n hx hb dL_law_518 rfl (lv_at hl 2 rfl) ?_
  refine lv_aload_n hx hb dL_law_519 rfl (lv_at hl 0 rfl) ?_
  refine lv_iload_n hx hb dL_law_520 rfl (lv_at hl 3 rfl) ?_
  refine lv_iconst (v := nI 1) hx hb dL_law_521 (by decide) ?_
  refine kx_iadd hx hb dL_law_522 ?_
  refine va_sld hx hb hX hbl hbA hS (vp_in_nI (show i + 1 < L by omega) (by omega)) dL_law_523 ?_
  have hP : va_P D vwCl (pm_cl y Ly S Bs pi kn Gs sv U ++ (pm_mo y qm S gp gs kn U.2.1 sv U.1 ++ [])) _ := hP
  have hD : va_D _ (pm_cl y Ly S Bs pi kn Gs sv U ++ (pm_mo y qm S gp gs kn U.2.1 sv U.1 ++ [])) := hD
  have hPc := pm_cutP hP
  have hDc := pm_cutD hD
  refine va_calli (va_runV (As := [.int (xs (nI (i + 1)).toNatClampNeg)]) (rest := [.int r7]) ⟨hx, hb, hml, hown, hts⟩ (k_X4_decides l D y qm S gp gs kn U.2.1 sv U.1 (xs (nI (i + 1)).toNatClampNeg) hI) (cwV 1 hts gL_law_X4_decides rfl rfl rfl hd_X4_decides ⟨Nat.le_of_ble_eq_true rfl, Nat.le_of_ble_eq_true rfl⟩) ⟨pm_wr_blind, va_recv hK hPc (ci := 4) (q0 := 0) rfl rfl, pm_wr_pre hPc hK hDc⟩ rfl rfl hl.1 rfl (lv_room (Nat.le_of_ble_eq_true rfl)) dL_law_524 ⟨Nat.le_of_ble_eq_true rfl, Nat.le_of_ble_eq_true rfl⟩) hS (fun q _ h9 => pm_ad_all hDc q h9) (pm_ad_all hDc) (fun r8 u8 t9 H1 locs ht9 _ h8 hB9 _ hk9 hS => ?_)
  obtain ⟨hP, hD⟩ := pm_mid (w' := pm_mo y qm S gp gs kn U.2.1 sv U.1) hP hD hk9 (by rw [← ht9]; exact hB9) rfl
  clear hk9 hB9 ht9 hPc hDc
  generalize H1 = H at hP hS ⊢
  refine lv_icmp_eq (tgt := 729) hx hb dL_law_527 (by decide) (fun _ => ?_) (fun c1 => absurd (h7.trans h8.symm) c1)
  exact GO S Bs pi kn Gs sv U gp gs Hs Sl _ _ ls hLI hP hD hS hl

set_option maxHeartbeats 4000000 in
set_option maxRecDepth 100000 in
theorem law_c14 {p : Program} {l : Launch} {e : Env} {s : State} {m : MethodId} {below : List Frame} {meth : Method} {c : Code} {D : va_G} {y : Nat → ClassId} {b : Nat} {L tl tm : Nat} {xs : Nat → Int32} (hL : L ≤ 2048) (C0 : lw_At p s m meth c b L xs) (hK : va_K D vwCl (pm_ty y) s) (hN : pm_NW s) (hT : pm_ST (fun q : Nat => s.heap.size ≤ q) tl tm s) {Ly : Nat → Nat → Nat} {qm : Nat → Nat} {i : Nat} (hi : i + 4 ≤ L) (GO : pm_Go p l e s m below meth c D y b Ly qm i 729) : pm_Go p l e s m below meth c D y b Ly qm i 532 := by
  intro S Bs pi kn Gs sv U gp gs Hs Sl H locs ls hLI hP hD hS hl
  obtain ⟨hx, hb, hr, hml, hown, hts0, hX, hbl, hlocks, hgv⟩ := C0
  have hown : s.vm.findClass RL = some m.cls := hown
  have hts : ∀ w ∈ wsL_law, w.before #[Value.ref b] s = true := fun w hw => hts0 w (wsL_law_in w hw)
  have hbA : ¬ (fun q : Nat => s.heap.size ≤ q) b := Nat.not_le.mpr hbl
  obtain ⟨hI, hC, hM, hMS, hIH, hIS, hsv, hPI⟩ := id hLI
  refine lv_aload_n hx hb dL_law_532 rfl (lv_at hl 1 rfl) ?_
  refine lv_aload_n hx hb dL_law_533 rfl (lv_at hl 0 rfl) ?_
  refine lv_iload_n hx hb dL_law_534 rfl (lv_at hl 3 rfl) ?_
  refine lv_iconst (v := nI 1) hx hb dL_law_535 (by decide) ?_
  refine kx_iadd hx hb dL_law_536 ?_
  refine va_sld hx hb hX hbl hbA hS (vp_in_nI (show i + 1 < L by omega) (by omega)) dL_law_537 ?_
  refine lv_aload_n hx hb dL_law_538 rfl (lv_at hl 0 rfl) ?_
  refine lv_iload_n hx hb dL_law_539 rfl (lv_at hl 3 rfl) ?_
  refine lv_iconst (v := nI 2) hx hb dL_law_540 (by decide) ?_
  refine kx_iadd hx hb dL_law_541 ?_
  refine va_sld hx hb hX hbl hbA hS (vp_in_nI (show i + 2 < L by omega) (by omega)) dL_law_542 ?_
  have hP : va_P D vwCl ([] ++ (pm_cl y Ly S Bs pi kn Gs sv U ++ (pm_mo y qm S gp gs kn U.2.1 sv U.1 ++ []))) _ := hP
  have hD : va_D _ ([] ++ (pm_cl y Ly S Bs pi kn Gs sv U ++ (pm_mo y qm S gp gs kn U.2.1 sv U.1 ++ []))) := hD
  have hPc := pm_cutP hP
  have hDc := pm_cutD hD
  refine vp_callSi (W.runV (As := [.int (xs (nI (i + 1)).toNatClampNeg), .int (xs (nI (i + 2)).toNatClampNeg)]) (rest := []) ⟨hx, hb, hml, hown, hts⟩ (k_X3_agree l D y Ly S Bs pi kn Gs sv U Hs Sl (xs (nI (i + 1)).toNatClampNeg) (xs (nI (i + 2)).toNatClampNeg) hI) (cwV 2 hts gL_law_X3_agree rfl rfl rfl hd_X3_agree ⟨Nat.le_of_ble_eq_true rfl, Nat.le_of_ble_eq_true rfl⟩) ⟨pm_ro_blind, va_recv hK hPc (ci := 3) (q0 := 0) rfl rfl, pm_ro_pre hPc hK⟩ rfl rfl hl.1 rfl (lv_room (Nat.le_of_ble_eq_true rfl)) dL_law_543 ⟨Nat.le_of_ble_eq_true rfl, Nat.le_of_ble_eq_true rfl⟩) (fun r7 h7 => ?_)
  refine lv_aload_n hx hb dL_law_546 rfl (lv_at hl 2 rfl) ?_
  refine lv_aload_n hx hb dL_law_547 rfl (lv_at hl 0 rfl) ?_
  refine lv_iload_n hx hb dL_law_548 rfl (lv_at hl 3 rfl) ?_
  refine lv_iconst (v := nI 1) hx hb dL_law_549 (by decide) ?_
  refine kx_iadd hx hb dL_law_550 ?_
  refine va_sld hx hb hX hbl hbA hS (vp_in_nI (show i + 1 < L by omega) (by omega)) dL_law_551 ?_
  refine lv_aload_n hx hb dL_law_552 rfl (lv_at hl 0 rfl) ?_
  refine lv_iload_n hx hb dL_law_553 rfl (lv_at hl 3 rfl) ?_
  refine lv_iconst (v := nI 2) hx hb dL_law_554 (by decide) ?_
  refine kx_iadd hx hb dL_law_555 ?_
  refine va_sld hx hb hX hbl hbA hS (vp_in_nI (show i + 2 < L by omega) (by omega)) dL_law_556 ?_
  have hP : va_P D vwCl (pm_cl y Ly S Bs pi kn Gs sv U ++ (pm_mo y qm S gp gs kn U.2.1 sv U.1 ++ [])) _ := hP
  have hD : va_D _ (pm_cl y Ly S Bs pi kn Gs sv U ++ (pm_mo y qm S gp gs kn U.2.1 sv U.1 ++ [])) := hD
  have hPc := pm_cutP hP
  have hDc := pm_cutD hD
  refine vp_callSi (W.runV (As := [.int (xs (nI (i + 1)).toNatClampNeg), .int (xs (nI (i + 2)).toNatClampNeg)]) (rest := [.int r7]) ⟨hx, hb, hml, hown, hts⟩ (k_X4_agree l D y qm S gp gs kn U.2.1 sv U.1 (xs (nI (i + 1)).toNatClampNeg) (xs (nI (i + 2)).toNatClampNeg) hI) (cwV 2 hts gL_law_X4_agree rfl rfl rfl hd_X4_agree ⟨Nat.le_of_ble_eq_true rfl, Nat.le_of_ble_eq_true rfl⟩) ⟨pm_ro_blind, va_recv hK hPc (ci := 4) (q0 := 0) rfl rfl, pm_ro_pre hPc hK⟩ rfl rfl hl.1 rfl (lv_room (Nat.le_of_ble_eq_true rfl)) dL_law_557 ⟨Nat.le_of_ble_eq_true rfl, Nat.le_of_ble_eq_true rfl⟩) (fun r8 h8 => ?_)
  refine lv_icmp_eq (tgt := 729) hx hb dL_law_560 (by decide) (fun _ => ?_) (fun c1 => absurd (h7.trans h8.symm) c1)
  exact GO S Bs pi kn Gs sv U gp gs Hs Sl _ _ ls hLI hP hD hS hl

set_option maxHeartbeats 4000000 in
set_option maxRecDepth 100000 in
theorem law_c15 {p : Program} {l : Launch} {e : Env} {s : State} {m : MethodId} {below : List Frame} {meth : Method} {c : Code} {D : va_G} {y : Nat → ClassId} {b : Nat} {L tl tm : Nat} {xs : Nat → Int32} (hL : L ≤ 2048) (C0 : lw_At p s m meth c b L xs) (hK : va_K D vwCl (pm_ty y) s) (hN : pm_NW s) (hT : pm_ST (fun q : Nat => s.heap.size ≤ q) tl tm s) {Ly : Nat → Nat → Nat} {qm : Nat → Nat} {i : Nat} (hi : i + 4 ≤ L) (GO : pm_Go p l e s m below meth c D y b Ly qm i 729) : pm_Go p l e s m below meth c D y b Ly qm i 565 := by
  intro S Bs pi kn Gs sv U gp gs Hs Sl H locs ls hLI hP hD hS hl
  obtain ⟨hx, hb, hr, hml, hown, hts0, hX, hbl, hlocks, hgv⟩ := C0
  have hown : s.vm.findClass RL = some m.cls := hown
  have hts : ∀ w ∈ wsL_law, w.before #[Value.ref b] s = true := fun w hw => hts0 w (wsL_law_in w hw)
  have hbA : ¬ (fun q : Nat => s.heap.size ≤ q) b := Nat.not_le.mpr hbl
  obtain ⟨hI, hC, hM, hMS, hIH, hIS, hsv, hPI⟩ := id hLI
  refine lv_aload_n hx hb dL_law_565 rfl (lv_at hl 1 rfl) ?_
  have hP : va_P D vwCl ([] ++ (pm_cl y Ly S Bs pi kn Gs sv U ++ (pm_mo y qm S gp gs kn U.2.1 sv U.1 ++ []))) _ := hP
  have hD : va_D _ ([] ++ (pm_cl y Ly S Bs pi kn Gs sv U ++ (pm_mo y qm S gp gs kn U.2.1 sv U.1 ++ []))) := hD
  have hPc := pm_cutP hP
  have hDc := pm_cutD hD
  refine vp_callSi (W.runV (As := []) (rest := []) ⟨hx, hb, hml, hown, hts⟩ (k_X3_paperFor l D y Ly S Bs pi kn Gs sv U Hs Sl hI) (cwV 0 hts gL_law_X3_paperFor rfl rfl rfl hd_X3_paperFor ⟨Nat.le_of_ble_eq_true rfl, Nat.le_of_ble_eq_true rfl⟩) ⟨pm_ro_blind, va_recv hK hPc (ci := 3) (q0 := 0) rfl rfl, pm_ro_pre hPc hK⟩ rfl rfl hl.1 rfl (lv_room (Nat.le_of_ble_eq_true rfl)) dL_law_566 ⟨Nat.le_of_ble_eq_true rfl, Nat.le_of_ble_eq_true rfl⟩) (fun r7 h7 => ?_)
  refine lv_aload_n hx hb dL_law_569 rfl (lv_at hl 2 rfl) ?_
  have hP : va_P D vwCl (pm_cl y Ly S Bs pi kn Gs sv U ++ (pm_mo y qm S gp gs kn U.2.1 sv U.1 ++ [])) _ := hP
  have hD : va_D _ (pm_cl y Ly S Bs pi kn Gs sv U ++ (pm_mo y qm S gp gs kn U.2.1 sv U.1 ++ [])) := hD
  have hPc := pm_cutP hP
  have hDc := pm_cutD hD
  refine vp_callSi (W.runV (As := []) (rest := [.int r7]) ⟨hx, hb, hml, hown, hts⟩ (k_X4_paperFor l D y qm S gp gs kn U.2.1 sv U.1 hI) (cwV 0 hts gL_law_X4_paperFor rfl rfl rfl hd_X4_paperFor ⟨Nat.le_of_ble_eq_true rfl, Nat.le_of_ble_eq_true rfl⟩) ⟨pm_ro_blind, va_recv hK hPc (ci := 4) (q0 := 0) rfl rfl, pm_ro_pre hPc hK⟩ rfl rfl hl.1 rfl (lv_room (Nat.le_of_ble_eq_true rfl)) dL_law_570 ⟨Nat.le_of_ble_eq_true rfl, Nat.le_of_ble_eq_true rfl⟩) (fun r8 h8 => ?_)
  refine lv_icmp_eq (tgt := 729) hx hb dL_law_573 (by decide) (fun _ => ?_) (fun c1 => absurd (h7.trans h8.symm) c1)
  exact GO S Bs pi kn Gs sv U gp gs Hs Sl _ _ ls hLI hP hD hS hl

set_option maxHeartbeats 4000000 in
set_option maxRecDepth 100000 in
theorem law_c16 {p : Program} {l : Launch} {e : Env} {s : State} {m : MethodId} {below : List Frame} {meth : Method} {c : Code} {D : va_G} {y : Nat → ClassId} {b : Nat} {L tl tm : Nat} {xs : Nat → Int32} (hL : L ≤ 2048) (C0 : lw_At p s m meth c b L xs) (hK : va_K D vwCl (pm_ty y) s) (hN : pm_NW s) (hT : pm_ST (fun q : Nat => s.heap.size ≤ q) tl tm s) {Ly : Nat → Nat → Nat} {qm : Nat → Nat} {i : Nat} (hi : i + 4 ≤ L) (GO : pm_Go p l e s m below meth c D y b Ly qm i 729) : pm_Go p l e s m below meth c D y b Ly qm i 578 := by
  intro S Bs pi kn Gs sv U gp gs Hs Sl H locs ls hLI hP hD hS hl
  obtain ⟨hx, hb, hr, hml, hown, hts0, hX, hbl, hlocks, hgv⟩ := C0
  have hown : s.vm.findClass RL = some m.cls := hown
  have hts : ∀ w ∈ wsL_law, w.before #[Value.ref b] s = true := fun w hw => hts0 w (wsL_law_in w hw)
  have hbA : ¬ (fun q : Nat => s.heap.size ≤ q) b := Nat.not_le.mpr hbl
  obtain ⟨hI, hC, hM, hMS, hIH, hIS, hsv, hPI⟩ := id hLI
  refine lv_aload_n hx hb dL_law_578 rfl (lv_at hl 1 rfl) ?_
  refine lv_aload_n hx hb dL_law_579 rfl (lv_at hl 0 rfl) ?_
  refine lv_iload_n hx hb dL_law_580 rfl (lv_at hl 3 rfl) ?_
  refine lv_iconst (v := nI 1) hx hb dL_law_581 (by decide) ?_
  refine kx_iadd hx hb dL_law_582 ?_
  refine va_sld hx hb hX hbl hbA hS (vp_in_nI (show i + 1 < L by omega) (by omega)) dL_law_583 ?_
  refine lv_i2l (v := (xs (nI (i + 1)).toNatClampNeg).toInt64) hx hb dL_law_584 rfl ?_
  refine lv_bipush (v := nI 32) hx hb dL_law_585 (by decide) ?_
  refine lv_lshl (v := ((xs (nI (i + 1)).toNatClampNeg).toInt64) <<< ((nI 32).toInt64 &&& 63)) hx hb dL_law_587 rfl ?_
  refine lv_aload_n hx hb dL_law_588 rfl (lv_at hl 0 rfl) ?_
  refine lv_iload_n hx hb dL_law_589 rfl (lv_at hl 3 rfl) ?_
  refine lv_iconst (v := nI 2) hx hb dL_law_590 (by decide) ?_
  refine kx_iadd hx hb dL_law_591 ?_
  refine va_sld hx hb hX hbl hbA hS (vp_in_nI (show i + 2 < L by omega) (by omega)) dL_law_592 ?_
  refine lv_i2l (v := (xs (nI (i + 2)).toNatClampNeg).toInt64) hx hb dL_law_593 rfl ?_
  refine lv_ldc2 hx hb hown (hts (.constantLong RL 81 (4294967295)) (by decide +kernel)) dL_law_594 ?_
  refine lv_land hx hb dL_law_597 ?_
  refine lv_lor hx hb dL_law_598 ?_
  refine lv_topl (fun x9 e9 => ?_)
  obtain rfl : x9 = pm_L (((((xs (nI (i + 1)).toNatClampNeg).toInt64) <<< ((nI 32).toInt64 &&& 63)) ||| (((xs (nI (i + 2)).toNatClampNeg).toInt64) &&& 4294967295)).toUInt64.toNat) := e9.trans (pm_L_of ((((xs (nI (i + 1)).toNatClampNeg).toInt64) <<< ((nI 32).toInt64 &&& 63)) ||| (((xs (nI (i + 2)).toNatClampNeg).toInt64) &&& 4294967295))).symm
  have hP : va_P D vwCl ([] ++ (pm_cl y Ly S Bs pi kn Gs sv U ++ (pm_mo y qm S gp gs kn U.2.1 sv U.1 ++ []))) _ := hP
  have hD : va_D _ ([] ++ (pm_cl y Ly S Bs pi kn Gs sv U ++ (pm_mo y qm S gp gs kn U.2.1 sv U.1 ++ []))) := hD
  have hPc := pm_cutP hP
  have hDc := pm_cutD hD
  have hX64 : ((((xs (nI (i + 1)).toNatClampNeg).toInt64) <<< ((nI 32).toInt64 &&& 63)) ||| (((xs (nI (i + 2)).toNatClampNeg).toInt64) &&& 4294967295)).toUInt64.toNat < 2 ^ 64 := UInt64.toNat_lt _
  refine va_calli (va_runV (As := [.long (pm_L (((((xs (nI (i + 1)).toNatClampNeg).toInt64) <<< ((nI 32).toInt64 &&& 63)) ||| (((xs (nI (i + 2)).toNatClampNeg).toInt64) &&& 4294967295)).toUInt64.toNat))]) (rest := []) ⟨hx, hb, hml, hown, hts⟩ (k_X3_put l D y Ly S Bs pi kn Gs sv U Hs Sl (((((xs (nI (i + 1)).toNatClampNeg).toInt64) <<< ((nI 32).toInt64 &&& 63)) ||| (((xs (nI (i + 2)).toNatClampNeg).toInt64) &&& 4294967295)).toUInt64.toNat) hPI hX64) (cwV 1 hts gL_law_X3_put rfl rfl rfl hd_X3_put ⟨Nat.le_of_ble_eq_true rfl, Nat.le_of_ble_eq_true rfl⟩) ⟨pm_wr_blind, va_recv hK hPc (ci := 3) (q0 := 0) rfl rfl, pm_wr_pre hPc hK hDc⟩ rfl rfl hl.1 rfl (lv_room (Nat.le_of_ble_eq_true rfl)) dL_law_599 ⟨Nat.le_of_ble_eq_true rfl, Nat.le_of_ble_eq_true rfl⟩) hS (fun q _ h9 => pm_ad_all hDc q h9) (pm_ad_all hDc) (fun r7 u9 t9 H1 locs ht9 _ h7 hB9 _ hk9 hS => ?_)
  obtain ⟨hP, hD⟩ := pm_mid (w' := pm_cl y Ly S Bs pi kn Gs sv ((pm_aPut U.1 U.2.1 (((((xs (nI (i + 1)).toNatClampNeg).toInt64) <<< ((nI 32).toInt64 &&& 63)) ||| (((xs (nI (i + 2)).toNatClampNeg).toInt64) &&& 4294967295)).toUInt64.toNat)).2.1, (pm_aPut U.1 U.2.1 (((((xs (nI (i + 1)).toNatClampNeg).toInt64) <<< ((nI 32).toInt64 &&& 63)) ||| (((xs (nI (i + 2)).toNatClampNeg).toInt64) &&& 4294967295)).toUInt64.toNat)).2.2, U.2.2)) hP hD hk9 (by rw [← ht9]; exact hB9) (pm_cl_fst ..)
  clear hk9 hB9 ht9 hPc hDc
  generalize H1 = H at hP hS ⊢
  refine lv_aload_n hx hb dL_law_602 rfl (lv_at hl 2 rfl) ?_
  refine lv_aload_n hx hb dL_law_603 rfl (lv_at hl 0 rfl) ?_
  refine lv_iload_n hx hb dL_law_604 rfl (lv_at hl 3 rfl) ?_
  refine lv_iconst (v := nI 1) hx hb dL_law_605 (by decide) ?_
  refine kx_iadd hx hb dL_law_606 ?_
  refine va_sld hx hb hX hbl hbA hS (vp_in_nI (show i + 1 < L by omega) (by omega)) dL_law_607 ?_
  refine lv_i2l (v := (xs (nI (i + 1)).toNatClampNeg).toInt64) hx hb dL_law_608 rfl ?_
  refine lv_bipush (v := nI 32) hx hb dL_law_609 (by decide) ?_
  refine lv_lshl (v := ((xs (nI (i + 1)).toNatClampNeg).toInt64) <<< ((nI 32).toInt64 &&& 63)) hx hb dL_law_611 rfl ?_
  refine lv_aload_n hx hb dL_law_612 rfl (lv_at hl 0 rfl) ?_
  refine lv_iload_n hx hb dL_law_613 rfl (lv_at hl 3 rfl) ?_
  refine lv_iconst (v := nI 2) hx hb dL_law_614 (by decide) ?_
  refine kx_iadd hx hb dL_law_615 ?_
  refine va_sld hx hb hX hbl hbA hS (vp_in_nI (show i + 2 < L by omega) (by omega)) dL_law_616 ?_
  refine lv_i2l (v := (xs (nI (i + 2)).toNatClampNeg).toInt64) hx hb dL_law_617 rfl ?_
  refine lv_ldc2 hx hb hown (hts (.constantLong RL 81 (4294967295)) (by decide +kernel)) dL_law_618 ?_
  refine lv_land hx hb dL_law_621 ?_
  refine lv_lor hx hb dL_law_622 ?_
  refine lv_topl (fun x9 e9 => ?_)
  obtain rfl : x9 = pm_L (((((xs (nI (i + 1)).toNatClampNeg).toInt64) <<< ((nI 32).toInt64 &&& 63)) ||| (((xs (nI (i + 2)).toNatClampNeg).toInt64) &&& 4294967295)).toUInt64.toNat) := e9.trans (pm_L_of ((((xs (nI (i + 1)).toNatClampNeg).toInt64) <<< ((nI 32).toInt64 &&& 63)) ||| (((xs (nI (i + 2)).toNatClampNeg).toInt64) &&& 4294967295))).symm
  have hP : va_P D vwCl (pm_cl y Ly S Bs pi kn Gs sv ((pm_aPut U.1 U.2.1 (((((xs (nI (i + 1)).toNatClampNeg).toInt64) <<< ((nI 32).toInt64 &&& 63)) ||| (((xs (nI (i + 2)).toNatClampNeg).toInt64) &&& 4294967295)).toUInt64.toNat)).2.1, (pm_aPut U.1 U.2.1 (((((xs (nI (i + 1)).toNatClampNeg).toInt64) <<< ((nI 32).toInt64 &&& 63)) ||| (((xs (nI (i + 2)).toNatClampNeg).toInt64) &&& 4294967295)).toUInt64.toNat)).2.2, U.2.2) ++ (pm_mo y qm S gp gs kn U.2.1 sv U.1 ++ [])) _ := hP
  have hD : va_D _ (pm_cl y Ly S Bs pi kn Gs sv ((pm_aPut U.1 U.2.1 (((((xs (nI (i + 1)).toNatClampNeg).toInt64) <<< ((nI 32).toInt64 &&& 63)) ||| (((xs (nI (i + 2)).toNatClampNeg).toInt64) &&& 4294967295)).toUInt64.toNat)).2.1, (pm_aPut U.1 U.2.1 (((((xs (nI (i + 1)).toNatClampNeg).toInt64) <<< ((nI 32).toInt64 &&& 63)) ||| (((xs (nI (i + 2)).toNatClampNeg).toInt64) &&& 4294967295)).toUInt64.toNat)).2.2, U.2.2) ++ (pm_mo y qm S gp gs kn U.2.1 sv U.1 ++ [])) := hD
  have hPc := pm_cutP hP
  have hDc := pm_cutD hD
  refine va_calli (va_runV (As := [.long (pm_L (((((xs (nI (i + 1)).toNatClampNeg).toInt64) <<< ((nI 32).toInt64 &&& 63)) ||| (((xs (nI (i + 2)).toNatClampNeg).toInt64) &&& 4294967295)).toUInt64.toNat))]) (rest := [.int r7]) ⟨hx, hb, hml, hown, hts⟩ (k_X4_put l D y qm S gp gs kn U.2.1 sv U.1 (((((xs (nI (i + 1)).toNatClampNeg).toInt64) <<< ((nI 32).toInt64 &&& 63)) ||| (((xs (nI (i + 2)).toNatClampNeg).toInt64) &&& 4294967295)).toUInt64.toNat) hPI hX64) (cwV 1 hts gL_law_X4_put rfl rfl rfl hd_X4_put ⟨Nat.le_of_ble_eq_true rfl, Nat.le_of_ble_eq_true rfl⟩) ⟨pm_wr_blind, va_recv hK hPc (ci := 4) (q0 := 0) rfl rfl, pm_wr_pre hPc hK hDc⟩ rfl rfl hl.1 rfl (lv_room (Nat.le_of_ble_eq_true rfl)) dL_law_623 ⟨Nat.le_of_ble_eq_true rfl, Nat.le_of_ble_eq_true rfl⟩) hS (fun q _ h9 => pm_ad_all hDc q h9) (pm_ad_all hDc) (fun r8 u9 t9 H1 locs ht9 _ h8 hB9 _ hk9 hS => ?_)
  obtain ⟨hP, hD⟩ := pm_mid (w' := pm_mo y qm S gp gs kn ((pm_aPut U.1 U.2.1 (((((xs (nI (i + 1)).toNatClampNeg).toInt64) <<< ((nI 32).toInt64 &&& 63)) ||| (((xs (nI (i + 2)).toNatClampNeg).toInt64) &&& 4294967295)).toUInt64.toNat)).2.2) sv ((pm_aPut U.1 U.2.1 (((((xs (nI (i + 1)).toNatClampNeg).toInt64) <<< ((nI 32).toInt64 &&& 63)) ||| (((xs (nI (i + 2)).toNatClampNeg).toInt64) &&& 4294967295)).toUInt64.toNat)).2.1)) hP hD hk9 (by rw [← ht9]; exact hB9) rfl
  clear hk9 hB9 ht9 hPc hDc
  generalize H1 = H at hP hS ⊢
  refine lv_icmp_eq (tgt := 729) hx hb dL_law_626 (by decide) (fun _ => ?_) (fun c1 => absurd (h7.trans h8.symm) c1)
  exact GO S Bs pi kn Gs sv ((pm_aPut U.1 U.2.1 (((((xs (nI (i + 1)).toNatClampNeg).toInt64) <<< ((nI 32).toInt64 &&& 63)) ||| (((xs (nI (i + 2)).toNatClampNeg).toInt64) &&& 4294967295)).toUInt64.toNat)).2.1, (pm_aPut U.1 U.2.1 (((((xs (nI (i + 1)).toNatClampNeg).toInt64) <<< ((nI 32).toInt64 &&& 63)) ||| (((xs (nI (i + 2)).toNatClampNeg).toInt64) &&& 4294967295)).toUInt64.toNat)).2.2, U.2.2) gp gs Hs Sl _ _ ls (pm_LI_pad hLI (pm_aPut_PI _ hPI)) hP hD hS hl

set_option maxHeartbeats 4000000 in
set_option maxRecDepth 100000 in
theorem law_c17 {p : Program} {l : Launch} {e : Env} {s : State} {m : MethodId} {below : List Frame} {meth : Method} {c : Code} {D : va_G} {y : Nat → ClassId} {b : Nat} {L tl tm : Nat} {xs : Nat → Int32} (hL : L ≤ 2048) (C0 : lw_At p s m meth c b L xs) (hK : va_K D vwCl (pm_ty y) s) (hN : pm_NW s) (hT : pm_ST (fun q : Nat => s.heap.size ≤ q) tl tm s) {Ly : Nat → Nat → Nat} {qm : Nat → Nat} {i : Nat} (hi : i + 4 ≤ L) (GO : pm_Go p l e s m below meth c D y b Ly qm i 729) : pm_Go p l e s m below meth c D y b Ly qm i 631 := by
  intro S Bs pi kn Gs sv U gp gs Hs Sl H locs ls hLI hP hD hS hl
  obtain ⟨hx, hb, hr, hml, hown, hts0, hX, hbl, hlocks, hgv⟩ := C0
  have hown : s.vm.findClass RL = some m.cls := hown
  have hts : ∀ w ∈ wsL_law, w.before #[Value.ref b] s = true := fun w hw => hts0 w (wsL_law_in w hw)
  have hbA : ¬ (fun q : Nat => s.heap.size ≤ q) b := Nat.not_le.mpr hbl
  obtain ⟨hI, hC, hM, hMS, hIH, hIS, hsv, hPI⟩ := id hLI
  refine lv_aload_n hx hb dL_law_631 rfl (lv_at hl 1 rfl) ?_
  have hP : va_P D vwCl ([] ++ (pm_cl y Ly S Bs pi kn Gs sv U ++ (pm_mo y qm S gp gs kn U.2.1 sv U.1 ++ []))) _ := hP
  have hD : va_D _ ([] ++ (pm_cl y Ly S Bs pi kn Gs sv U ++ (pm_mo y qm S gp gs kn U.2.1 sv U.1 ++ []))) := hD
  have hPc := pm_cutP hP
  have hDc := pm_cutD hD
  refine va_calli (va_runV (As := []) (rest := []) ⟨hx, hb, hml, hown, hts⟩ (k_X3_wipe l D y Ly S Bs pi kn Gs sv U Hs Sl) (cwV 0 hts gL_law_X3_wipe rfl rfl rfl hd_X3_wipe ⟨Nat.le_of_ble_eq_true rfl, Nat.le_of_ble_eq_true rfl⟩) ⟨pm_wr_blind, va_recv hK hPc (ci := 3) (q0 := 0) rfl rfl, pm_wr_pre hPc hK hDc⟩ rfl rfl hl.1 rfl (lv_room (Nat.le_of_ble_eq_true rfl)) dL_law_632 ⟨Nat.le_of_ble_eq_true rfl, Nat.le_of_ble_eq_true rfl⟩) hS (fun q _ h9 => pm_ad_all hDc q h9) (pm_ad_all hDc) (fun r7 u9 t9 H1 locs ht9 _ h7 hB9 _ hk9 hS => ?_)
  obtain ⟨hP, hD⟩ := pm_mid (w' := pm_cl y Ly S Bs pi kn Gs sv (U.1, 0, U.2.2)) hP hD hk9 (by rw [← ht9]; exact hB9) (pm_cl_fst ..)
  clear hk9 hB9 ht9 hPc hDc
  generalize H1 = H at hP hS ⊢
  refine lv_aload_n hx hb dL_law_635 rfl (lv_at hl 2 rfl) ?_
  have hP : va_P D vwCl (pm_cl y Ly S Bs pi kn Gs sv (U.1, 0, U.2.2) ++ (pm_mo y qm S gp gs kn U.2.1 sv U.1 ++ [])) _ := hP
  have hD : va_D _ (pm_cl y Ly S Bs pi kn Gs sv (U.1, 0, U.2.2) ++ (pm_mo y qm S gp gs kn U.2.1 sv U.1 ++ [])) := hD
  have hPc := pm_cutP hP
  have hDc := pm_cutD hD
  refine va_calli (va_runV (As := []) (rest := [.int r7]) ⟨hx, hb, hml, hown, hts⟩ (k_X4_wipe l D y qm S gp gs kn U.2.1 sv U.1) (cwV 0 hts gL_law_X4_wipe rfl rfl rfl hd_X4_wipe ⟨Nat.le_of_ble_eq_true rfl, Nat.le_of_ble_eq_true rfl⟩) ⟨pm_wr_blind, va_recv hK hPc (ci := 4) (q0 := 0) rfl rfl, pm_wr_pre hPc hK hDc⟩ rfl rfl hl.1 rfl (lv_room (Nat.le_of_ble_eq_true rfl)) dL_law_636 ⟨Nat.le_of_ble_eq_true rfl, Nat.le_of_ble_eq_true rfl⟩) hS (fun q _ h9 => pm_ad_all hDc q h9) (pm_ad_all hDc) (fun r8 u9 t9 H1 locs ht9 _ h8 hB9 _ hk9 hS => ?_)
  obtain ⟨hP, hD⟩ := pm_mid (w' := pm_mo y qm S gp gs kn 0 sv U.1) hP hD hk9 (by rw [← ht9]; exact hB9) rfl
  clear hk9 hB9 ht9 hPc hDc
  generalize H1 = H at hP hS ⊢
  refine lv_icmp_eq (tgt := 729) hx hb dL_law_639 (by decide) (fun _ => ?_) (fun c1 => absurd (h7.trans h8.symm) c1)
  exact GO S Bs pi kn Gs sv (U.1, 0, U.2.2) gp gs Hs Sl _ _ ls (pm_LI_pad hLI ⟨Nat.zero_le _, fun p hp => absurd hp (Nat.not_lt_zero p)⟩) hP hD hS hl

set_option maxHeartbeats 4000000 in
set_option maxRecDepth 100000 in
theorem law_c18 {p : Program} {l : Launch} {e : Env} {s : State} {m : MethodId} {below : List Frame} {meth : Method} {c : Code} {D : va_G} {y : Nat → ClassId} {b : Nat} {L tl tm : Nat} {xs : Nat → Int32} (hL : L ≤ 2048) (C0 : lw_At p s m meth c b L xs) (hK : va_K D vwCl (pm_ty y) s) (hN : pm_NW s) (hT : pm_ST (fun q : Nat => s.heap.size ≤ q) tl tm s) {Ly : Nat → Nat → Nat} {qm : Nat → Nat} {i : Nat} (hi : i + 4 ≤ L) (GO : pm_Go p l e s m below meth c D y b Ly qm i 729) : pm_Go p l e s m below meth c D y b Ly qm i 644 := by
  intro S Bs pi kn Gs sv U gp gs Hs Sl H locs ls hLI hP hD hS hl
  obtain ⟨hx, hb, hr, hml, hown, hts0, hX, hbl, hlocks, hgv⟩ := C0
  have hown : s.vm.findClass RL = some m.cls := hown
  have hts : ∀ w ∈ wsL_law, w.before #[Value.ref b] s = true := fun w hw => hts0 w (wsL_law_in w hw)
  have hbA : ¬ (fun q : Nat => s.heap.size ≤ q) b := Nat.not_le.mpr hbl
  obtain ⟨hI, hC, hM, hMS, hIH, hIS, hsv, hPI⟩ := id hLI
  refine lv_aload_n hx hb dL_law_644 rfl (lv_at hl 1 rfl) ?_
  have hP : va_P D vwCl ([] ++ (pm_cl y Ly S Bs pi kn Gs sv U ++ (pm_mo y qm S gp gs kn U.2.1 sv U.1 ++ []))) _ := hP
  have hD : va_D _ ([] ++ (pm_cl y Ly S Bs pi kn Gs sv U ++ (pm_mo y qm S gp gs kn U.2.1 sv U.1 ++ []))) := hD
  have hPc := pm_cutP hP
  have hDc := pm_cutD hD
  refine va_calli (va_runV (As := []) (rest := []) ⟨hx, hb, hml, hown, hts⟩ (k_X3_fault l D y Ly S Bs pi kn Gs sv U Hs Sl hPI) (cwV 0 hts gL_law_X3_fault rfl rfl rfl hd_X3_fault ⟨Nat.le_of_ble_eq_true rfl, Nat.le_of_ble_eq_true rfl⟩) ⟨pm_wr_blind, va_recv hK hPc (ci := 3) (q0 := 0) rfl rfl, pm_wr_pre hPc hK hDc⟩ rfl rfl hl.1 rfl (lv_room (Nat.le_of_ble_eq_true rfl)) dL_law_645 ⟨Nat.le_of_ble_eq_true rfl, Nat.le_of_ble_eq_true rfl⟩) hS (fun q _ h9 => pm_ad_all hDc q h9) (pm_ad_all hDc) (fun r7 u7 t9 H1 locs ht9 _ h7 hB9 _ hk9 hS => ?_)
  obtain ⟨hP, hD⟩ := pm_mid (w' := pm_cl y Ly S Bs pi kn Gs sv (U.1, U.2.1, u7)) hP hD hk9 (by rw [← ht9]; exact hB9) (pm_cl_fst ..)
  clear hk9 hB9 ht9 hPc hDc
  generalize H1 = H at hP hS ⊢
  refine lv_aload_n hx hb dL_law_648 rfl (lv_at hl 2 rfl) ?_
  have hP : va_P D vwCl (pm_cl y Ly S Bs pi kn Gs sv (U.1, U.2.1, u7) ++ (pm_mo y qm S gp gs kn U.2.1 sv U.1 ++ [])) _ := hP
  have hD : va_D _ (pm_cl y Ly S Bs pi kn Gs sv (U.1, U.2.1, u7) ++ (pm_mo y qm S gp gs kn U.2.1 sv U.1 ++ [])) := hD
  have hPc := pm_cutP hP
  have hDc := pm_cutD hD
  refine vp_callSi (W.runV (As := []) (rest := [.int r7]) ⟨hx, hb, hml, hown, hts⟩ (k_X4_fault l D y qm S gp gs kn U.2.1 sv U.1 hPI) (cwV 0 hts gL_law_X4_fault rfl rfl rfl hd_X4_fault ⟨Nat.le_of_ble_eq_true rfl, Nat.le_of_ble_eq_true rfl⟩) ⟨pm_ro_blind, va_recv hK hPc (ci := 4) (q0 := 0) rfl rfl, pm_ro_pre hPc hK⟩ rfl rfl hl.1 rfl (lv_room (Nat.le_of_ble_eq_true rfl)) dL_law_649 ⟨Nat.le_of_ble_eq_true rfl, Nat.le_of_ble_eq_true rfl⟩) (fun r8 h8 => ?_)
  refine lv_icmp_eq (tgt := 729) hx hb dL_law_652 (by decide) (fun _ => ?_) (fun c1 => absurd (h7.trans h8.symm) c1)
  exact GO S Bs pi kn Gs sv (U.1, U.2.1, u7) gp gs Hs Sl _ _ ls (pm_LI_pad hLI hPI) hP hD hS hl

set_option maxHeartbeats 4000000 in
set_option maxRecDepth 100000 in
theorem law_c19 {p : Program} {l : Launch} {e : Env} {s : State} {m : MethodId} {below : List Frame} {meth : Method} {c : Code} {D : va_G} {y : Nat → ClassId} {b : Nat} {L tl tm : Nat} {xs : Nat → Int32} (hL : L ≤ 2048) (C0 : lw_At p s m meth c b L xs) (hK : va_K D vwCl (pm_ty y) s) (hN : pm_NW s) (hT : pm_ST (fun q : Nat => s.heap.size ≤ q) tl tm s) {Ly : Nat → Nat → Nat} {qm : Nat → Nat} {i : Nat} (hi : i + 4 ≤ L) (GO : pm_Go p l e s m below meth c D y b Ly qm i 729) : pm_Go p l e s m below meth c D y b Ly qm i 657 := by
  intro S Bs pi kn Gs sv U gp gs Hs Sl H locs ls hLI hP hD hS hl
  obtain ⟨hx, hb, hr, hml, hown, hts0, hX, hbl, hlocks, hgv⟩ := C0
  have hown : s.vm.findClass RL = some m.cls := hown
  have hts : ∀ w ∈ wsL_law, w.before #[Value.ref b] s = true := fun w hw => hts0 w (wsL_law_in w hw)
  have hbA : ¬ (fun q : Nat => s.heap.size ≤ q) b := Nat.not_le.mpr hbl
  obtain ⟨hI, hC, hM, hMS, hIH, hIS, hsv, hPI⟩ := id hLI
  by_cases hfa : pm_fa U.1 U.2.1 = -6
  · have hnf := pm_fa_6 hPI hfa
    refine lv_aload_n hx hb dL_law_657 rfl (lv_at hl 1 rfl) ?_
    have hP : va_P D vwCl ([] ++ (pm_cl y Ly S Bs pi kn Gs sv U ++ (pm_mo y qm S gp gs kn U.2.1 sv U.1 ++ []))) _ := hP
    have hD : va_D _ ([] ++ (pm_cl y Ly S Bs pi kn Gs sv U ++ (pm_mo y qm S gp gs kn U.2.1 sv U.1 ++ []))) := hD
    have hPc := pm_cutP hP
    have hDc := pm_cutD hD
    refine va_calli (va_runV (As := []) (rest := []) ⟨hx, hb, hml, hown, hts⟩ (k_X3_carryOut l D y Ly S Bs pi kn Gs sv U Hs Sl hC hI hPI hnf) (cwV 0 hts gL_law_X3_carryOut rfl rfl rfl hd_X3_carryOut ⟨Nat.le_of_ble_eq_true rfl, Nat.le_of_ble_eq_true rfl⟩) ⟨pm_wrn_blind, va_recv hK hPc (ci := 3) (q0 := 0) rfl rfl, pm_wrn_pre hPc hK hDc hN⟩ rfl rfl hl.1 rfl (lv_room (Nat.le_of_ble_eq_true rfl)) dL_law_658 ⟨Nat.le_of_ble_eq_true rfl, Nat.le_of_ble_eq_true rfl⟩) hS (fun q _ h9 => pm_ad_all hDc q h9) (pm_ad_all hDc) (fun r7 u7 t9 H1 locs ht9 _ h7 hB9 _ hk9 hS => ?_)
    obtain ⟨hP, hD⟩ := pm_mid (w' := pm_cl y Ly (pm_rs S U.1 U.2.1 u7.1) (pm_ub Bs (pi kn) S) (pm_kp pi kn) (pm_kn kn) Gs sv (U.1, 0, u7.2)) hP hD hk9 (by rw [← ht9]; exact hB9) (pm_cl_fst ..)
    clear hk9 hB9 ht9 hPc hDc
    generalize H1 = H at hP hS ⊢
    refine lv_aload_n hx hb dL_law_661 rfl (lv_at hl 2 rfl) ?_
    have hP : va_P D vwCl (pm_cl y Ly (pm_rs S U.1 U.2.1 u7.1) (pm_ub Bs (pi kn) S) (pm_kp pi kn) (pm_kn kn) Gs sv (U.1, 0, u7.2) ++ (pm_mo y qm S gp gs kn U.2.1 sv U.1 ++ [])) _ := hP
    have hD : va_D _ (pm_cl y Ly (pm_rs S U.1 U.2.1 u7.1) (pm_ub Bs (pi kn) S) (pm_kp pi kn) (pm_kn kn) Gs sv (U.1, 0, u7.2) ++ (pm_mo y qm S gp gs kn U.2.1 sv U.1 ++ [])) := hD
    have hPc := pm_cutP hP
    have hDc := pm_cutD hD
    refine va_calli (va_runV (As := []) (rest := [.int r7]) ⟨hx, hb, hml, hown, hts⟩ (k_X4_carryOut l D y qm S gp gs kn U.2.1 sv U.1 Hs hI hPI hC.2.2.1 hM hnf) (cwV 0 hts gL_law_X4_carryOut rfl rfl rfl hd_X4_carryOut ⟨Nat.le_of_ble_eq_true rfl, Nat.le_of_ble_eq_true rfl⟩) ⟨pm_wr_blind, va_recv hK hPc (ci := 4) (q0 := 0) rfl rfl, pm_wr_pre hPc hK hDc⟩ rfl rfl hl.1 rfl (lv_room (Nat.le_of_ble_eq_true rfl)) dL_law_662 ⟨Nat.le_of_ble_eq_true rfl, Nat.le_of_ble_eq_true rfl⟩) hS (fun q _ h9 => pm_ad_all hDc q h9) (pm_ad_all hDc) (fun r8 u8 t9 H1 locs ht9 _ h8 hB9 _ hk9 hS => ?_)
    obtain ⟨hP, hD⟩ := pm_mid (w' := pm_mo y qm (pm_rs S U.1 U.2.1 u8.1) u8.2 gs (pm_kn kn) 0 sv U.1) hP hD hk9 (by rw [← ht9]; exact hB9) rfl
    clear hk9 hB9 ht9 hPc hDc
    generalize H1 = H at hP hS ⊢
    have hu : u7.1 = u8.1 := pm_stop_u h7.2.1 h8.2.1 h7.2.2 h8.2.2.1
    refine lv_icmp_eq (tgt := 729) hx hb dL_law_665 (by decide) (fun _ => ?_) (fun c1 => absurd (h7.1.trans ((congrArg nI hu).trans h8.1.symm)) c1)
    rw [← hu] at hP hD h8
    exact GO (pm_rs S U.1 U.2.1 u7.1) (pm_ub Bs (pi kn) S) (pm_kp pi kn) (pm_kn kn) Gs sv (U.1, 0, u7.2) u8.2 gs (pm_push Hs kn S) Sl _ _ ls (pm_LI_keep hLI (pm_rs_inv hI U.1 U.2.1 u7.1) ⟨Nat.zero_le _, fun p hp => absurd hp (Nat.not_lt_zero p)⟩ h8.2.2.2) hP hD hS hl
  · skip
    refine lv_aload_n hx hb dL_law_657 rfl (lv_at hl 1 rfl) ?_
    have hP : va_P D vwCl ([] ++ (pm_cl y Ly S Bs pi kn Gs sv U ++ (pm_mo y qm S gp gs kn U.2.1 sv U.1 ++ []))) _ := hP
    have hD : va_D _ ([] ++ (pm_cl y Ly S Bs pi kn Gs sv U ++ (pm_mo y qm S gp gs kn U.2.1 sv U.1 ++ []))) := hD
    have hPc := pm_cutP hP
    have hDc := pm_cutD hD
    refine va_calli (va_runV (As := []) (rest := []) ⟨hx, hb, hml, hown, hts⟩ (k_X3_carryOut_f l D y Ly S Bs pi kn Gs sv U Hs Sl hPI hfa) (cwV 0 hts gL_law_X3_carryOut rfl rfl rfl hd_X3_carryOut ⟨Nat.le_of_ble_eq_true rfl, Nat.le_of_ble_eq_true rfl⟩) ⟨pm_wrn_blind, va_recv hK hPc (ci := 3) (q0 := 0) rfl rfl, pm_wrn_pre hPc hK hDc hN⟩ rfl rfl hl.1 rfl (lv_room (Nat.le_of_ble_eq_true rfl)) dL_law_658 ⟨Nat.le_of_ble_eq_true rfl, Nat.le_of_ble_eq_true rfl⟩) hS (fun q _ h9 => pm_ad_all hDc q h9) (pm_ad_all hDc) (fun r7 u7 t9 H1 locs ht9 _ h7 hB9 _ hk9 hS => ?_)
    obtain ⟨hP, hD⟩ := pm_mid (w' := pm_cl y Ly S Bs pi kn Gs sv (U.1, U.2.1, u7)) hP hD hk9 (by rw [← ht9]; exact hB9) (pm_cl_fst ..)
    clear hk9 hB9 ht9 hPc hDc
    generalize H1 = H at hP hS ⊢
    refine lv_aload_n hx hb dL_law_661 rfl (lv_at hl 2 rfl) ?_
    have hP : va_P D vwCl (pm_cl y Ly S Bs pi kn Gs sv (U.1, U.2.1, u7) ++ (pm_mo y qm S gp gs kn U.2.1 sv U.1 ++ [])) _ := hP
    have hD : va_D _ (pm_cl y Ly S Bs pi kn Gs sv (U.1, U.2.1, u7) ++ (pm_mo y qm S gp gs kn U.2.1 sv U.1 ++ [])) := hD
    have hPc := pm_cutP hP
    have hDc := pm_cutD hD
    refine vp_callSi (W.runV (As := []) (rest := [.int r7]) ⟨hx, hb, hml, hown, hts⟩ (k_X4_carryOut_f l D y qm S gp gs kn U.2.1 sv U.1 hPI hfa) (cwV 0 hts gL_law_X4_carryOut rfl rfl rfl hd_X4_carryOut ⟨Nat.le_of_ble_eq_true rfl, Nat.le_of_ble_eq_true rfl⟩) ⟨pm_ro_blind, va_recv hK hPc (ci := 4) (q0 := 0) rfl rfl, pm_ro_pre hPc hK⟩ rfl rfl hl.1 rfl (lv_room (Nat.le_of_ble_eq_true rfl)) dL_law_662 ⟨Nat.le_of_ble_eq_true rfl, Nat.le_of_ble_eq_true rfl⟩) (fun r8 h8 => ?_)
    refine lv_icmp_eq (tgt := 729) hx hb dL_law_665 (by decide) (fun _ => ?_) (fun c2 => absurd (h7.trans h8.symm) c2)
    exact GO S Bs pi kn Gs sv (U.1, U.2.1, u7) gp gs Hs Sl _ _ ls (pm_LI_pad hLI hPI) hP hD hS hl

set_option maxHeartbeats 4000000 in
set_option maxRecDepth 100000 in
theorem law_c20 {p : Program} {l : Launch} {e : Env} {s : State} {m : MethodId} {below : List Frame} {meth : Method} {c : Code} {D : va_G} {y : Nat → ClassId} {b : Nat} {L tl tm : Nat} {xs : Nat → Int32} (hL : L ≤ 2048) (C0 : lw_At p s m meth c b L xs) (hK : va_K D vwCl (pm_ty y) s) (hN : pm_NW s) (hT : pm_ST (fun q : Nat => s.heap.size ≤ q) tl tm s) {Ly : Nat → Nat → Nat} {qm : Nat → Nat} {i : Nat} (hi : i + 4 ≤ L) (GO : pm_Go p l e s m below meth c D y b Ly qm i 729) : pm_Go p l e s m below meth c D y b Ly qm i 670 := by
  intro S Bs pi kn Gs sv U gp gs Hs Sl H locs ls hLI hP hD hS hl
  obtain ⟨hx, hb, hr, hml, hown, hts0, hX, hbl, hlocks, hgv⟩ := C0
  have hown : s.vm.findClass RL = some m.cls := hown
  have hts : ∀ w ∈ wsL_law, w.before #[Value.ref b] s = true := fun w hw => hts0 w (wsL_law_in w hw)
  have hbA : ¬ (fun q : Nat => s.heap.size ≤ q) b := Nat.not_le.mpr hbl
  obtain ⟨hI, hC, hM, hMS, hIH, hIS, hsv, hPI⟩ := id hLI
  rcases Nat.eq_zero_or_pos kn with hk0 | hk0
  · skip
    refine lv_aload_n hx hb dL_law_670 rfl (lv_at hl 1 rfl) ?_
    have hP : va_P D vwCl ([] ++ (pm_cl y Ly S Bs pi kn Gs sv U ++ (pm_mo y qm S gp gs kn U.2.1 sv U.1 ++ []))) _ := hP
    have hD : va_D _ ([] ++ (pm_cl y Ly S Bs pi kn Gs sv U ++ (pm_mo y qm S gp gs kn U.2.1 sv U.1 ++ []))) := hD
    have hPc := pm_cutP hP
    have hDc := pm_cutD hD
    refine vp_callSi (W.runV (As := []) (rest := []) ⟨hx, hb, hml, hown, hts⟩ (k_X3_undo_0 l D y Ly S Bs pi kn Gs sv U Hs Sl hk0) (cwV 0 hts gL_law_X3_undo rfl rfl rfl hd_X3_undo ⟨Nat.le_of_ble_eq_true rfl, Nat.le_of_ble_eq_true rfl⟩) ⟨pm_ron_blind, va_recv hK hPc (ci := 3) (q0 := 0) rfl rfl, pm_ron_pre hPc hK hN⟩ rfl rfl hl.1 rfl (lv_room (Nat.le_of_ble_eq_true rfl)) dL_law_671 ⟨Nat.le_of_ble_eq_true rfl, Nat.le_of_ble_eq_true rfl⟩) (fun r7 h7 => ?_)
    refine lv_aload_n hx hb dL_law_674 rfl (lv_at hl 2 rfl) ?_
    have hP : va_P D vwCl (pm_cl y Ly S Bs pi kn Gs sv U ++ (pm_mo y qm S gp gs kn U.2.1 sv U.1 ++ [])) _ := hP
    have hD : va_D _ (pm_cl y Ly S Bs pi kn Gs sv U ++ (pm_mo y qm S gp gs kn U.2.1 sv U.1 ++ [])) := hD
    have hPc := pm_cutP hP
    have hDc := pm_cutD hD
    refine vp_callSi (W.runV (As := []) (rest := [.int r7]) ⟨hx, hb, hml, hown, hts⟩ (k_X4_undo_0 l D y qm S gp gs kn U.2.1 sv U.1 hk0) (cwV 0 hts gL_law_X4_undo rfl rfl rfl hd_X4_undo ⟨Nat.le_of_ble_eq_true rfl, Nat.le_of_ble_eq_true rfl⟩) ⟨pm_ro_blind, va_recv hK hPc (ci := 4) (q0 := 0) rfl rfl, pm_ro_pre hPc hK⟩ rfl rfl hl.1 rfl (lv_room (Nat.le_of_ble_eq_true rfl)) dL_law_675 ⟨Nat.le_of_ble_eq_true rfl, Nat.le_of_ble_eq_true rfl⟩) (fun r8 h8 => ?_)
    refine lv_icmp_eq (tgt := 729) hx hb dL_law_678 (by decide) (fun _ => ?_) (fun c1 => absurd (h7.trans h8.symm) c1)
    exact GO S Bs pi kn Gs sv U gp gs Hs Sl _ _ ls hLI hP hD hS hl
  · skip
    refine lv_aload_n hx hb dL_law_670 rfl (lv_at hl 1 rfl) ?_
    have hP : va_P D vwCl ([] ++ (pm_cl y Ly S Bs pi kn Gs sv U ++ (pm_mo y qm S gp gs kn U.2.1 sv U.1 ++ []))) _ := hP
    have hD : va_D _ ([] ++ (pm_cl y Ly S Bs pi kn Gs sv U ++ (pm_mo y qm S gp gs kn U.2.1 sv U.1 ++ []))) := hD
    have hPc := pm_cutP hP
    have hDc := pm_cutD hD
    refine va_calli (va_runV (As := []) (rest := []) ⟨hx, hb, hml, hown, hts⟩ (k_X3_undo l D y Ly S Bs pi kn Gs sv U Hs Sl hC hk0) (cwV 0 hts gL_law_X3_undo rfl rfl rfl hd_X3_undo ⟨Nat.le_of_ble_eq_true rfl, Nat.le_of_ble_eq_true rfl⟩) ⟨pm_wrn_blind, va_recv hK hPc (ci := 3) (q0 := 0) rfl rfl, pm_wrn_pre hPc hK hDc hN⟩ rfl rfl hl.1 rfl (lv_room (Nat.le_of_ble_eq_true rfl)) dL_law_671 ⟨Nat.le_of_ble_eq_true rfl, Nat.le_of_ble_eq_true rfl⟩) hS (fun q _ h9 => pm_ad_all hDc q h9) (pm_ad_all hDc) (fun r7 u9 t9 H1 locs ht9 _ h7 hB9 _ hk9 hS => ?_)
    obtain ⟨hP, hD⟩ := pm_mid (w' := pm_cl y Ly (Bs (pi (kn - 1))) Bs pi (kn - 1) Gs sv U) hP hD hk9 (by rw [← ht9]; exact hB9) (pm_cl_fst ..)
    clear hk9 hB9 ht9 hPc hDc
    generalize H1 = H at hP hS ⊢
    refine lv_aload_n hx hb dL_law_674 rfl (lv_at hl 2 rfl) ?_
    have hP : va_P D vwCl (pm_cl y Ly (Bs (pi (kn - 1))) Bs pi (kn - 1) Gs sv U ++ (pm_mo y qm S gp gs kn U.2.1 sv U.1 ++ [])) _ := hP
    have hD : va_D _ (pm_cl y Ly (Bs (pi (kn - 1))) Bs pi (kn - 1) Gs sv U ++ (pm_mo y qm S gp gs kn U.2.1 sv U.1 ++ [])) := hD
    have hPc := pm_cutP hP
    have hDc := pm_cutD hD
    refine va_calli (va_runV (As := []) (rest := [.int r7]) ⟨hx, hb, hml, hown, hts⟩ (k_X4_undo l D y qm S gp gs kn U.2.1 sv U.1 Hs hC.2.2.1 hk0 hM) (cwV 0 hts gL_law_X4_undo rfl rfl rfl hd_X4_undo ⟨Nat.le_of_ble_eq_true rfl, Nat.le_of_ble_eq_true rfl⟩) ⟨pm_wr_blind, va_recv hK hPc (ci := 4) (q0 := 0) rfl rfl, pm_wr_pre hPc hK hDc⟩ rfl rfl hl.1 rfl (lv_room (Nat.le_of_ble_eq_true rfl)) dL_law_675 ⟨Nat.le_of_ble_eq_true rfl, Nat.le_of_ble_eq_true rfl⟩) hS (fun q _ h9 => pm_ad_all hDc q h9) (pm_ad_all hDc) (fun r8 u9 t9 H1 locs ht9 _ h8 hB9 _ hk9 hS => ?_)
    obtain ⟨hP, hD⟩ := pm_mid (w' := pm_mo y qm (Hs (kn - 1)) gp gs (kn - 1) U.2.1 sv U.1) hP hD hk9 (by rw [← ht9]; exact hB9) rfl
    clear hk9 hB9 ht9 hPc hDc
    generalize H1 = H at hP hS ⊢
    refine lv_icmp_eq (tgt := 729) hx hb dL_law_678 (by decide) (fun _ => ?_) (fun c2 => absurd (h7.trans h8.symm) c2)
    obtain ⟨hBk, hLI2⟩ := pm_LI_undo hLI hk0
    rw [hBk] at hP hD
    exact GO (Hs (kn - 1)) Bs pi (kn - 1) Gs sv U gp gs Hs Sl _ _ ls hLI2 hP hD hS hl

set_option maxHeartbeats 4000000 in
set_option maxRecDepth 100000 in
theorem law_c21 {p : Program} {l : Launch} {e : Env} {s : State} {m : MethodId} {below : List Frame} {meth : Method} {c : Code} {D : va_G} {y : Nat → ClassId} {b : Nat} {L tl tm : Nat} {xs : Nat → Int32} (hL : L ≤ 2048) (C0 : lw_At p s m meth c b L xs) (hK : va_K D vwCl (pm_ty y) s) (hN : pm_NW s) (hT : pm_ST (fun q : Nat => s.heap.size ≤ q) tl tm s) {Ly : Nat → Nat → Nat} {qm : Nat → Nat} {i : Nat} (hi : i + 4 ≤ L) (GO : pm_Go p l e s m below meth c D y b Ly qm i 729) : pm_Go p l e s m below meth c D y b Ly qm i 683 := by
  intro S Bs pi kn Gs sv U gp gs Hs Sl H locs ls hLI hP hD hS hl
  obtain ⟨hx, hb, hr, hml, hown, hts0, hX, hbl, hlocks, hgv⟩ := C0
  have hown : s.vm.findClass RL = some m.cls := hown
  have hts : ∀ w ∈ wsL_law, w.before #[Value.ref b] s = true := fun w hw => hts0 w (wsL_law_in w hw)
  have hbA : ¬ (fun q : Nat => s.heap.size ≤ q) b := Nat.not_le.mpr hbl
  obtain ⟨hI, hC, hM, hMS, hIH, hIS, hsv, hPI⟩ := id hLI
  rcases pm_cases (xs (nI (i + 1)).toNatClampNeg) (n := 2) (by decide) with ho | ⟨j, hj, ej⟩
  · skip
    refine lv_aload_n hx hb dL_law_683 rfl (lv_at hl 1 rfl) ?_
    refine lv_aload_n hx hb dL_law_684 rfl (lv_at hl 0 rfl) ?_
    refine lv_iload_n hx hb dL_law_685 rfl (lv_at hl 3 rfl) ?_
    refine lv_iconst (v := nI 1) hx hb dL_law_686 (by decide) ?_
    refine kx_iadd hx hb dL_law_687 ?_
    refine va_sld hx hb hX hbl hbA hS (vp_in_nI (show i + 1 < L by omega) (by omega)) dL_law_688 ?_
    have hP : va_P D vwCl ([] ++ (pm_cl y Ly S Bs pi kn Gs sv U ++ (pm_mo y qm S gp gs kn U.2.1 sv U.1 ++ []))) _ := hP
    have hD : va_D _ ([] ++ (pm_cl y Ly S Bs pi kn Gs sv U ++ (pm_mo y qm S gp gs kn U.2.1 sv U.1 ++ []))) := hD
    have hPc := pm_cutP hP
    have hDc := pm_cutD hD
    refine vp_callSi (W.runV (As := [.int (xs (nI (i + 1)).toNatClampNeg)]) (rest := []) ⟨hx, hb, hml, hown, hts⟩ (k_X3_save_o l D y Ly S Bs pi kn Gs sv U Hs Sl (xs (nI (i + 1)).toNatClampNeg) ho) (cwV 1 hts gL_law_X3_save rfl rfl rfl hd_X3_save ⟨Nat.le_of_ble_eq_true rfl, Nat.le_of_ble_eq_true rfl⟩) ⟨pm_ron_blind, va_recv hK hPc (ci := 3) (q0 := 0) rfl rfl, pm_ron_pre hPc hK hN⟩ rfl rfl hl.1 rfl (lv_room (Nat.le_of_ble_eq_true rfl)) dL_law_689 ⟨Nat.le_of_ble_eq_true rfl, Nat.le_of_ble_eq_true rfl⟩) (fun r7 h7 => ?_)
    refine lv_aload_n hx hb dL_law_692 rfl (lv_at hl 2 rfl) ?_
    refine lv_aload_n hx hb dL_law_693 rfl (lv_at hl 0 rfl) ?_
    refine lv_iload_n hx hb dL_law_694 rfl (lv_at hl 3 rfl) ?_
    refine lv_iconst (v := nI 1) hx hb dL_law_695 (by decide) ?_
    refine kx_iadd hx hb dL_law_696 ?_
    refine va_sld hx hb hX hbl hbA hS (vp_in_nI (show i + 1 < L by omega) (by omega)) dL_law_697 ?_
    have hP : va_P D vwCl (pm_cl y Ly S Bs pi kn Gs sv U ++ (pm_mo y qm S gp gs kn U.2.1 sv U.1 ++ [])) _ := hP
    have hD : va_D _ (pm_cl y Ly S Bs pi kn Gs sv U ++ (pm_mo y qm S gp gs kn U.2.1 sv U.1 ++ [])) := hD
    have hPc := pm_cutP hP
    have hDc := pm_cutD hD
    refine vp_callSi (W.runV (As := [.int (xs (nI (i + 1)).toNatClampNeg)]) (rest := [.int r7]) ⟨hx, hb, hml, hown, hts⟩ (k_X4_save_o l D y qm S gp gs kn U.2.1 sv U.1 (xs (nI (i + 1)).toNatClampNeg) ho) (cwV 1 hts gL_law_X4_save rfl rfl rfl hd_X4_save ⟨Nat.le_of_ble_eq_true rfl, Nat.le_of_ble_eq_true rfl⟩) ⟨pm_ro_blind, va_recv hK hPc (ci := 4) (q0 := 0) rfl rfl, pm_ro_pre hPc hK⟩ rfl rfl hl.1 rfl (lv_room (Nat.le_of_ble_eq_true rfl)) dL_law_698 ⟨Nat.le_of_ble_eq_true rfl, Nat.le_of_ble_eq_true rfl⟩) (fun r8 h8 => ?_)
    refine lv_icmp_eq (tgt := 729) hx hb dL_law_701 (by decide) (fun _ => ?_) (fun c1 => absurd (h7.trans h8.symm) c1)
    exact GO S Bs pi kn Gs sv U gp gs Hs Sl _ _ ls hLI hP hD hS hl
  · skip
    refine lv_aload_n hx hb dL_law_683 rfl (lv_at hl 1 rfl) ?_
    refine lv_aload_n hx hb dL_law_684 rfl (lv_at hl 0 rfl) ?_
    refine lv_iload_n hx hb dL_law_685 rfl (lv_at hl 3 rfl) ?_
    refine lv_iconst (v := nI 1) hx hb dL_law_686 (by decide) ?_
    refine kx_iadd hx hb dL_law_687 ?_
    refine va_sld hx hb hX hbl hbA hS (vp_in_nI (show i + 1 < L by omega) (by omega)) dL_law_688 ?_
    refine lv_topi (fun x2 e3 => ?_)
    obtain rfl : x2 = nI j := e3.trans (ej)
    have hP : va_P D vwCl ([] ++ (pm_cl y Ly S Bs pi kn Gs sv U ++ (pm_mo y qm S gp gs kn U.2.1 sv U.1 ++ []))) _ := hP
    have hD : va_D _ ([] ++ (pm_cl y Ly S Bs pi kn Gs sv U ++ (pm_mo y qm S gp gs kn U.2.1 sv U.1 ++ []))) := hD
    have hPc := pm_cutP hP
    have hDc := pm_cutD hD
    refine va_calli (va_runV (As := [.int (nI j)]) (rest := []) ⟨hx, hb, hml, hown, hts⟩ (k_X3_save l D y Ly S Bs pi kn Gs sv U Hs Sl j hj) (cwV 1 hts gL_law_X3_save rfl rfl rfl hd_X3_save ⟨Nat.le_of_ble_eq_true rfl, Nat.le_of_ble_eq_true rfl⟩) ⟨pm_wrn_blind, va_recv hK hPc (ci := 3) (q0 := 0) rfl rfl, pm_wrn_pre hPc hK hDc hN⟩ rfl rfl hl.1 rfl (lv_room (Nat.le_of_ble_eq_true rfl)) dL_law_689 ⟨Nat.le_of_ble_eq_true rfl, Nat.le_of_ble_eq_true rfl⟩) hS (fun q _ h9 => pm_ad_all hDc q h9) (pm_ad_all hDc) (fun r7 u9 t9 H1 locs ht9 _ h7 hB9 _ hk9 hS => ?_)
    obtain ⟨hP, hD⟩ := pm_mid (w' := pm_cl y Ly S Bs pi kn (pm_ub Gs j S) (updN sv j 1) U) hP hD hk9 (by rw [← ht9]; exact hB9) (pm_cl_fst ..)
    clear hk9 hB9 ht9 hPc hDc
    generalize H1 = H at hP hS ⊢
    refine lv_aload_n hx hb dL_law_692 rfl (lv_at hl 2 rfl) ?_
    refine lv_aload_n hx hb dL_law_693 rfl (lv_at hl 0 rfl) ?_
    refine lv_iload_n hx hb dL_law_694 rfl (lv_at hl 3 rfl) ?_
    refine lv_iconst (v := nI 1) hx hb dL_law_695 (by decide) ?_
    refine kx_iadd hx hb dL_law_696 ?_
    refine va_sld hx hb hX hbl hbA hS (vp_in_nI (show i + 1 < L by omega) (by omega)) dL_law_697 ?_
    refine lv_topi (fun x4 e5 => ?_)
    obtain rfl : x4 = nI j := e5.trans (ej)
    have hP : va_P D vwCl (pm_cl y Ly S Bs pi kn (pm_ub Gs j S) (updN sv j 1) U ++ (pm_mo y qm S gp gs kn U.2.1 sv U.1 ++ [])) _ := hP
    have hD : va_D _ (pm_cl y Ly S Bs pi kn (pm_ub Gs j S) (updN sv j 1) U ++ (pm_mo y qm S gp gs kn U.2.1 sv U.1 ++ [])) := hD
    have hPc := pm_cutP hP
    have hDc := pm_cutD hD
    refine va_calli (va_runV (As := [.int (nI j)]) (rest := [.int r7]) ⟨hx, hb, hml, hown, hts⟩ (k_X4_save l D y qm S gp gs kn U.2.1 sv U.1 Sl j hj hMS) (cwV 1 hts gL_law_X4_save rfl rfl rfl hd_X4_save ⟨Nat.le_of_ble_eq_true rfl, Nat.le_of_ble_eq_true rfl⟩) ⟨pm_wr_blind, va_recv hK hPc (ci := 4) (q0 := 0) rfl rfl, pm_wr_pre hPc hK hDc⟩ rfl rfl hl.1 rfl (lv_room (Nat.le_of_ble_eq_true rfl)) dL_law_698 ⟨Nat.le_of_ble_eq_true rfl, Nat.le_of_ble_eq_true rfl⟩) hS (fun q _ h9 => pm_ad_all hDc q h9) (pm_ad_all hDc) (fun r8 u8 t9 H1 locs ht9 _ h8 hB9 _ hk9 hS => ?_)
    obtain ⟨hP, hD⟩ := pm_mid (w' := pm_mo y qm S gp u8 kn U.2.1 (updN sv j 1) U.1) hP hD hk9 (by rw [← ht9]; exact hB9) rfl
    clear hk9 hB9 ht9 hPc hDc
    generalize H1 = H at hP hS ⊢
    refine lv_icmp_eq (tgt := 729) hx hb dL_law_701 (by decide) (fun _ => ?_) (fun c6 => absurd (h7.trans h8.1.symm) c6)
    exact GO S Bs pi kn (pm_ub Gs j S) (updN sv j 1) U gp u8 Hs (pm_slp Sl j S) _ _ ls (pm_LI_save hLI hj h8.2) hP hD hS hl

set_option maxHeartbeats 4000000 in
set_option maxRecDepth 100000 in
theorem law_c22 {p : Program} {l : Launch} {e : Env} {s : State} {m : MethodId} {below : List Frame} {meth : Method} {c : Code} {D : va_G} {y : Nat → ClassId} {b : Nat} {L tl tm : Nat} {xs : Nat → Int32} (hL : L ≤ 2048) (C0 : lw_At p s m meth c b L xs) (hK : va_K D vwCl (pm_ty y) s) (hN : pm_NW s) (hT : pm_ST (fun q : Nat => s.heap.size ≤ q) tl tm s) {Ly : Nat → Nat → Nat} {qm : Nat → Nat} {i : Nat} (hi : i + 4 ≤ L) (GO : pm_Go p l e s m below meth c D y b Ly qm i 729) : pm_Go p l e s m below meth c D y b Ly qm i 706 := by
  intro S Bs pi kn Gs sv U gp gs Hs Sl H locs ls hLI hP hD hS hl
  obtain ⟨hx, hb, hr, hml, hown, hts0, hX, hbl, hlocks, hgv⟩ := C0
  have hown : s.vm.findClass RL = some m.cls := hown
  have hts : ∀ w ∈ wsL_law, w.before #[Value.ref b] s = true := fun w hw => hts0 w (wsL_law_in w hw)
  have hbA : ¬ (fun q : Nat => s.heap.size ≤ q) b := Nat.not_le.mpr hbl
  obtain ⟨hI, hC, hM, hMS, hIH, hIS, hsv, hPI⟩ := id hLI
  rcases pm_cases (xs (nI (i + 1)).toNatClampNeg) (n := 2) (by decide) with ho | ⟨j, hj, ej⟩
  · skip
    refine lv_aload_n hx hb dL_law_706 rfl (lv_at hl 1 rfl) ?_
    refine lv_aload_n hx hb dL_law_707 rfl (lv_at hl 0 rfl) ?_
    refine lv_iload_n hx hb dL_law_708 rfl (lv_at hl 3 rfl) ?_
    refine lv_iconst (v := nI 1) hx hb dL_law_709 (by decide) ?_
    refine kx_iadd hx hb dL_law_710 ?_
    refine va_sld hx hb hX hbl hbA hS (vp_in_nI (show i + 1 < L by omega) (by omega)) dL_law_711 ?_
    have hP : va_P D vwCl ([] ++ (pm_cl y Ly S Bs pi kn Gs sv U ++ (pm_mo y qm S gp gs kn U.2.1 sv U.1 ++ []))) _ := hP
    have hD : va_D _ ([] ++ (pm_cl y Ly S Bs pi kn Gs sv U ++ (pm_mo y qm S gp gs kn U.2.1 sv U.1 ++ []))) := hD
    have hPc := pm_cutP hP
    have hDc := pm_cutD hD
    refine vp_callSi (W.runV (As := [.int (xs (nI (i + 1)).toNatClampNeg)]) (rest := []) ⟨hx, hb, hml, hown, hts⟩ (k_X3_restore_o l D y Ly S Bs pi kn Gs sv U Hs Sl (xs (nI (i + 1)).toNatClampNeg) ho) (cwV 1 hts gL_law_X3_restore rfl rfl rfl hd_X3_restore ⟨Nat.le_of_ble_eq_true rfl, Nat.le_of_ble_eq_true rfl⟩) ⟨pm_ron_blind, va_recv hK hPc (ci := 3) (q0 := 0) rfl rfl, pm_ron_pre hPc hK hN⟩ rfl rfl hl.1 rfl (lv_room (Nat.le_of_ble_eq_true rfl)) dL_law_712 ⟨Nat.le_of_ble_eq_true rfl, Nat.le_of_ble_eq_true rfl⟩) (fun r7 h7 => ?_)
    refine lv_aload_n hx hb dL_law_715 rfl (lv_at hl 2 rfl) ?_
    refine lv_aload_n hx hb dL_law_716 rfl (lv_at hl 0 rfl) ?_
    refine lv_iload_n hx hb dL_law_717 rfl (lv_at hl 3 rfl) ?_
    refine lv_iconst (v := nI 1) hx hb dL_law_718 (by decide) ?_
    refine kx_iadd hx hb dL_law_719 ?_
    refine va_sld hx hb hX hbl hbA hS (vp_in_nI (show i + 1 < L by omega) (by omega)) dL_law_720 ?_
    have hP : va_P D vwCl (pm_cl y Ly S Bs pi kn Gs sv U ++ (pm_mo y qm S gp gs kn U.2.1 sv U.1 ++ [])) _ := hP
    have hD : va_D _ (pm_cl y Ly S Bs pi kn Gs sv U ++ (pm_mo y qm S gp gs kn U.2.1 sv U.1 ++ [])) := hD
    have hPc := pm_cutP hP
    have hDc := pm_cutD hD
    refine vp_callSi (W.runV (As := [.int (xs (nI (i + 1)).toNatClampNeg)]) (rest := [.int r7]) ⟨hx, hb, hml, hown, hts⟩ (k_X4_restore_o l D y qm S gp gs kn U.2.1 sv U.1 (xs (nI (i + 1)).toNatClampNeg) ho) (cwV 1 hts gL_law_X4_restore rfl rfl rfl hd_X4_restore ⟨Nat.le_of_ble_eq_true rfl, Nat.le_of_ble_eq_true rfl⟩) ⟨pm_ro_blind, va_recv hK hPc (ci := 4) (q0 := 0) rfl rfl, pm_ro_pre hPc hK⟩ rfl rfl hl.1 rfl (lv_room (Nat.le_of_ble_eq_true rfl)) dL_law_721 ⟨Nat.le_of_ble_eq_true rfl, Nat.le_of_ble_eq_true rfl⟩) (fun r8 h8 => ?_)
    refine lv_icmp_eq (tgt := 729) hx hb dL_law_724 (by decide) (fun _ => ?_) (fun c1 => absurd (h7.trans h8.symm) c1)
    exact GO S Bs pi kn Gs sv U gp gs Hs Sl _ _ ls hLI hP hD hS hl
  · rcases hsv j hj with hs | hs
    · skip
      refine lv_aload_n hx hb dL_law_706 rfl (lv_at hl 1 rfl) ?_
      refine lv_aload_n hx hb dL_law_707 rfl (lv_at hl 0 rfl) ?_
      refine lv_iload_n hx hb dL_law_708 rfl (lv_at hl 3 rfl) ?_
      refine lv_iconst (v := nI 1) hx hb dL_law_709 (by decide) ?_
      refine kx_iadd hx hb dL_law_710 ?_
      refine va_sld hx hb hX hbl hbA hS (vp_in_nI (show i + 1 < L by omega) (by omega)) dL_law_711 ?_
      refine lv_topi (fun x2 e3 => ?_)
      obtain rfl : x2 = nI j := e3.trans (ej)
      have hP : va_P D vwCl ([] ++ (pm_cl y Ly S Bs pi kn Gs sv U ++ (pm_mo y qm S gp gs kn U.2.1 sv U.1 ++ []))) _ := hP
      have hD : va_D _ ([] ++ (pm_cl y Ly S Bs pi kn Gs sv U ++ (pm_mo y qm S gp gs kn U.2.1 sv U.1 ++ []))) := hD
      have hPc := pm_cutP hP
      have hDc := pm_cutD hD
      refine vp_callSi (W.runV (As := [.int (nI j)]) (rest := []) ⟨hx, hb, hml, hown, hts⟩ (k_X3_restore_n l D y Ly S Bs pi kn Gs sv U Hs Sl j hj hs) (cwV 1 hts gL_law_X3_restore rfl rfl rfl hd_X3_restore ⟨Nat.le_of_ble_eq_true rfl, Nat.le_of_ble_eq_true rfl⟩) ⟨pm_ron_blind, va_recv hK hPc (ci := 3) (q0 := 0) rfl rfl, pm_ron_pre hPc hK hN⟩ rfl rfl hl.1 rfl (lv_room (Nat.le_of_ble_eq_true rfl)) dL_law_712 ⟨Nat.le_of_ble_eq_true rfl, Nat.le_of_ble_eq_true rfl⟩) (fun r7 h7 => ?_)
      refine lv_aload_n hx hb dL_law_715 rfl (lv_at hl 2 rfl) ?_
      refine lv_aload_n hx hb dL_law_716 rfl (lv_at hl 0 rfl) ?_
      refine lv_iload_n hx hb dL_law_717 rfl (lv_at hl 3 rfl) ?_
      refine lv_iconst (v := nI 1) hx hb dL_law_718 (by decide) ?_
      refine kx_iadd hx hb dL_law_719 ?_
      refine va_sld hx hb hX hbl hbA hS (vp_in_nI (show i + 1 < L by omega) (by omega)) dL_law_720 ?_
      refine lv_topi (fun x4 e5 => ?_)
      obtain rfl : x4 = nI j := e5.trans (ej)
      have hP : va_P D vwCl (pm_cl y Ly S Bs pi kn Gs sv U ++ (pm_mo y qm S gp gs kn U.2.1 sv U.1 ++ [])) _ := hP
      have hD : va_D _ (pm_cl y Ly S Bs pi kn Gs sv U ++ (pm_mo y qm S gp gs kn U.2.1 sv U.1 ++ [])) := hD
      have hPc := pm_cutP hP
      have hDc := pm_cutD hD
      refine vp_callSi (W.runV (As := [.int (nI j)]) (rest := [.int r7]) ⟨hx, hb, hml, hown, hts⟩ (k_X4_restore_n l D y qm S gp gs kn U.2.1 sv U.1 j hj hs) (cwV 1 hts gL_law_X4_restore rfl rfl rfl hd_X4_restore ⟨Nat.le_of_ble_eq_true rfl, Nat.le_of_ble_eq_true rfl⟩) ⟨pm_ro_blind, va_recv hK hPc (ci := 4) (q0 := 0) rfl rfl, pm_ro_pre hPc hK⟩ rfl rfl hl.1 rfl (lv_room (Nat.le_of_ble_eq_true rfl)) dL_law_721 ⟨Nat.le_of_ble_eq_true rfl, Nat.le_of_ble_eq_true rfl⟩) (fun r8 h8 => ?_)
      refine lv_icmp_eq (tgt := 729) hx hb dL_law_724 (by decide) (fun _ => ?_) (fun c6 => absurd (h7.trans h8.symm) c6)
      exact GO S Bs pi kn Gs sv U gp gs Hs Sl _ _ ls hLI hP hD hS hl
    · obtain ⟨hGj, hIj⟩ := pm_LI_rest hLI hj hs
      refine lv_aload_n hx hb dL_law_706 rfl (lv_at hl 1 rfl) ?_
      refine lv_aload_n hx hb dL_law_707 rfl (lv_at hl 0 rfl) ?_
      refine lv_iload_n hx hb dL_law_708 rfl (lv_at hl 3 rfl) ?_
      refine lv_iconst (v := nI 1) hx hb dL_law_709 (by decide) ?_
      refine kx_iadd hx hb dL_law_710 ?_
      refine va_sld hx hb hX hbl hbA hS (vp_in_nI (show i + 1 < L by omega) (by omega)) dL_law_711 ?_
      refine lv_topi (fun x7 e8 => ?_)
      obtain rfl : x7 = nI j := e8.trans (ej)
      have hP : va_P D vwCl ([] ++ (pm_cl y Ly S Bs pi kn Gs sv U ++ (pm_mo y qm S gp gs kn U.2.1 sv U.1 ++ []))) _ := hP
      have hD : va_D _ ([] ++ (pm_cl y Ly S Bs pi kn Gs sv U ++ (pm_mo y qm S gp gs kn U.2.1 sv U.1 ++ []))) := hD
      have hPc := pm_cutP hP
      have hDc := pm_cutD hD
      refine va_calli (va_runV (As := [.int (nI j)]) (rest := []) ⟨hx, hb, hml, hown, hts⟩ (k_X3_restore l D y Ly S Bs pi kn Gs sv U Hs Sl j hC hj hs (by rw [hGj]; exact hIj)) (cwV 1 hts gL_law_X3_restore rfl rfl rfl hd_X3_restore ⟨Nat.le_of_ble_eq_true rfl, Nat.le_of_ble_eq_true rfl⟩) ⟨pm_wrn_blind, va_recv hK hPc (ci := 3) (q0 := 0) rfl rfl, pm_wrn_pre hPc hK hDc hN⟩ rfl rfl hl.1 rfl (lv_room (Nat.le_of_ble_eq_true rfl)) dL_law_712 ⟨Nat.le_of_ble_eq_true rfl, Nat.le_of_ble_eq_true rfl⟩) hS (fun q _ h9 => pm_ad_all hDc q h9) (pm_ad_all hDc) (fun r7 u9 t9 H1 locs ht9 _ h7 hB9 _ hk9 hS => ?_)
      obtain ⟨hP, hD⟩ := pm_mid (w' := pm_cl y Ly (Gs j) (pm_ub Bs (pi kn) S) (pm_kp pi kn) (pm_kn kn) Gs sv U) hP hD hk9 (by rw [← ht9]; exact hB9) (pm_cl_fst ..)
      clear hk9 hB9 ht9 hPc hDc
      generalize H1 = H at hP hS ⊢
      refine lv_aload_n hx hb dL_law_715 rfl (lv_at hl 2 rfl) ?_
      refine lv_aload_n hx hb dL_law_716 rfl (lv_at hl 0 rfl) ?_
      refine lv_iload_n hx hb dL_law_717 rfl (lv_at hl 3 rfl) ?_
      refine lv_iconst (v := nI 1) hx hb dL_law_718 (by decide) ?_
      refine kx_iadd hx hb dL_law_719 ?_
      refine va_sld hx hb hX hbl hbA hS (vp_in_nI (show i + 1 < L by omega) (by omega)) dL_law_720 ?_
      refine lv_topi (fun x9 e10 => ?_)
      obtain rfl : x9 = nI j := e10.trans (ej)
      have hP : va_P D vwCl (pm_cl y Ly (Gs j) (pm_ub Bs (pi kn) S) (pm_kp pi kn) (pm_kn kn) Gs sv U ++ (pm_mo y qm S gp gs kn U.2.1 sv U.1 ++ [])) _ := hP
      have hD : va_D _ (pm_cl y Ly (Gs j) (pm_ub Bs (pi kn) S) (pm_kp pi kn) (pm_kn kn) Gs sv U ++ (pm_mo y qm S gp gs kn U.2.1 sv U.1 ++ [])) := hD
      have hPc := pm_cutP hP
      have hDc := pm_cutD hD
      refine va_calli (va_runV (As := [.int (nI j)]) (rest := [.int r7]) ⟨hx, hb, hml, hown, hts⟩ (k_X4_restore l D y qm S gp gs kn U.2.1 sv U.1 Hs Sl j hj hs hMS hC.2.2.1 hM) (cwV 1 hts gL_law_X4_restore rfl rfl rfl hd_X4_restore ⟨Nat.le_of_ble_eq_true rfl, Nat.le_of_ble_eq_true rfl⟩) ⟨pm_wr_blind, va_recv hK hPc (ci := 4) (q0 := 0) rfl rfl, pm_wr_pre hPc hK hDc⟩ rfl rfl hl.1 rfl (lv_room (Nat.le_of_ble_eq_true rfl)) dL_law_721 ⟨Nat.le_of_ble_eq_true rfl, Nat.le_of_ble_eq_true rfl⟩) hS (fun q _ h9 => pm_ad_all hDc q h9) (pm_ad_all hDc) (fun r8 u8 t9 H1 locs ht9 _ h8 hB9 _ hk9 hS => ?_)
      obtain ⟨hP, hD⟩ := pm_mid (w' := pm_mo y qm (Sl j) u8 gs (pm_kn kn) U.2.1 sv U.1) hP hD hk9 (by rw [← ht9]; exact hB9) rfl
      clear hk9 hB9 ht9 hPc hDc
      generalize H1 = H at hP hS ⊢
      refine lv_icmp_eq (tgt := 729) hx hb dL_law_724 (by decide) (fun _ => ?_) (fun c11 => absurd (h7.trans ((congrArg (fun z : Nat → Nat → Nat => nI (z 10 0)) hGj).trans h8.1.symm)) c11)
      rw [hGj] at hP hD
      exact GO (Sl j) (pm_ub Bs (pi kn) S) (pm_kp pi kn) (pm_kn kn) Gs sv U u8 gs (pm_push Hs kn S) Sl _ _ ls (pm_LI_keep hLI hIj hPI h8.2) hP hD hS hl
