set_option maxHeartbeats 4000000 in
set_option maxRecDepth 100000 in
theorem k_X1_here (l : Launch) (D : va_G) (y : Nat → ClassId) (q : Nat → Nat) (pP : Nat → Nat) (pln pa : Nat) (po ped pot pnm psz : Int32) (hPI : pm_PI pP pln) (hpa : pa ≤ 200) : Met l yX1_here wsX1_here ({ frames := 0, cells := 0, slots := 0, locals := 0 } : Room) (pm_ro D (pm_ty y) [.ref (q 0)] (pm_pad y q pP pln pa po ped pot pnm psz)) (vp_Si (fun r : Int32 => r = nI (pm_sg pP pln pa))) 0 0 (fun _ => False) := by
  refine Met.ofW (cc := cX1_here) (maxL := 1) (ret := (some .char)) (by decide) rfl ?_
  intro p e s m args below meth c s₁ B hml hpre
  obtain ⟨rfl, hP, hK⟩ := hpre
  have hx := B.exec
  have hb := B.bytes
  have hr := B.returns
  have hts := atoms_spec (ws := wsX1_here) B.pre
  have hown : s.vm.findClass RX1 = some m.cls := findClass_of_methodNamed B.named
  have hlocks := B.notSynchronized
  have hin1 : ∀ w ∈ u_ws RX1 TX1 8, w ∈ wsX1_here := fun w h => List.mem_cons_of_mem _ (List.mem_append_right _ h)
  have hP : va_P D vwCl (pm_pad y q pP pln pa po ped pot pnm psz) s.heap := hP
  have hl := lv_entry ([.ref (q 0)]) (n := 1) (Nat.le_of_ble_eq_true rfl)
  rw [lg_entry_eq]
  generalize (lg_sl ([.ref (q 0)]) ++ List.replicate (1 - (lg_sl ([.ref (q 0)])).length) Slot.unset).toArray = ls at hl ⊢
  have hl : lv_has ls 1 [(0, .ref (q 0))] := hl
  have hln := hPI.1
  refine lv_aload_n hx hb dX1_here_0 rfl (lv_at hl 0 rfl) ?_
  refine va_get (D := D) (ci := 1) (v := .int (nI pa)) (C := RX1) (T := TX1) (N := 8) hx hb hts hin1 hown hK hP 0 rfl rfl 2 (by decide) (hts (.fieldLink RX1 19 "ProofMarks$Pad" "at" "I") (List.mem_of_getElem? (i := 1) rfl)) (fun _ h9 => h9) rfl dX1_here_1 ?_
  refine kx_if_lt (tgt := 30) hx hb (by omega) dX1_here_4 (by decide) ?_
  refine lv_aload_n hx hb dX1_here_7 rfl (lv_at hl 0 rfl) ?_
  refine va_get (D := D) (ci := 1) (v := .int (nI pa)) (C := RX1) (T := TX1) (N := 8) hx hb hts hin1 hown hK hP 0 rfl rfl 2 (by decide) (hts (.fieldLink RX1 19 "ProofMarks$Pad" "at" "I") (List.mem_of_getElem? (i := 1) rfl)) (fun _ h9 => h9) rfl dX1_here_8 ?_
  refine lv_aload_n hx hb dX1_here_11 rfl (lv_at hl 0 rfl) ?_
  refine va_get (D := D) (ci := 1) (v := .int (nI pln)) (C := RX1) (T := TX1) (N := 8) hx hb hts hin1 hown hK hP 0 rfl rfl 1 (by decide) (hts (.fieldLink RX1 15 "ProofMarks$Pad" "length" "I") (List.mem_of_getElem? (i := 2) rfl)) (fun _ h9 => h9) rfl dX1_here_12 ?_
  refine kx_icmp_ge (tgt := 30) hx hb (by omega) (by omega) dX1_here_15 (by decide) (fun c1 => ?_) (fun c1 => ?_)
  · skip
    refine lv_iconst (v := nI 0) hx hb dX1_here_30 (by decide) ?_
    exact W.zret (ty := .char) hx hb hr (pk_charN (by decide)).1 (fun t ht _ => ⟨_, rfl, (congrArg nI (by rw [pm_sg_f (by omega)])), ht⟩) (fun _ h => absurd h List.not_mem_nil) dX1_here_31
  · skip
    refine lv_aload_n hx hb dX1_here_18 rfl (lv_at hl 0 rfl) ?_
    refine va_get (D := D) (ci := 1) (v := .ref (q 1)) (C := RX1) (T := TX1) (N := 8) hx hb hts hin1 hown hK hP 0 rfl rfl 0 (by decide) (hts (.fieldLink RX1 11 "ProofMarks$Pad" "signs" "[C") (List.mem_of_getElem? (i := 3) rfl)) (fun _ h9 => h9) rfl dX1_here_19 ?_
    refine lv_aload_n hx hb dX1_here_22 rfl (lv_at hl 0 rfl) ?_
    refine va_get (D := D) (ci := 1) (v := .int (nI pa)) (C := RX1) (T := TX1) (N := 8) hx hb hts hin1 hown hK hP 0 rfl rfl 2 (by decide) (hts (.fieldLink RX1 19 "ProofMarks$Pad" "at" "I") (List.mem_of_getElem? (i := 1) rfl)) (fun _ h9 => h9) rfl dX1_here_23 ?_
    refine kx_cald (v := nI (pP pa)) hx hb hK hP 1 1 rfl rfl (by omega) (by decide) rfl dX1_here_26 ?_
    refine lv_goto (tgt := 31) hx hb dX1_here_27 (by decide) ?_
    exact W.zret (ty := .char) hx hb hr (pk_charN (by have := hPI.2 pa; omega)).1 (fun t ht _ => ⟨_, rfl, (congrArg nI (by rw [pm_sg_t (by omega)])), ht⟩) (fun _ h => absurd h List.not_mem_nil) dX1_here_31

set_option maxHeartbeats 4000000 in
set_option maxRecDepth 100000 in
theorem k_X1_take (l : Launch) (D : va_G) (y : Nat → ClassId) (q : Nat → Nat) (pP : Nat → Nat) (pln pa : Nat) (po ped pot pnm psz : Int32) (c9 : Nat) (hPI : pm_PI pP pln) (hpa : pa ≤ 200) (hc9 : 0 < c9) (hc8 : c9 < 128) : Met l yX1_take wsX1_take ({ frames := 1, cells := 0, slots := 0, locals := 20 } : Room) (pm_wr D (pm_ty y) [.ref (q 0), .int (nI c9)] (pm_pad y q pP pln pa po ped pot pnm psz)) (pm_Qi D (fun (r : Int32) (u : Nat) => (pa < pln ∧ pP pa = c9 ∧ pa + 1 = u ∧ r = nI 1) ∨ (¬ (pa < pln ∧ pP pa = c9) ∧ pa = u ∧ r = nI 0)) (fun (u : Nat) => pm_pad y q pP pln u po ped pot pnm psz) (pm_pad y q pP pln pa po ped pot pnm psz)) 0 0 (pm_ad (pm_pad y q pP pln pa po ped pot pnm psz)) := by
  refine Met.ofW (cc := cX1_take) (maxL := 2) (ret := (some .boolean)) (by decide) rfl ?_
  intro p e s m args below meth c s₁ B hml hpre
  obtain ⟨rfl, hP, hK, hD0⟩ := hpre
  have hx := B.exec
  have hb := B.bytes
  have hr := B.returns
  have hts := atoms_spec (ws := wsX1_take) B.pre
  have hown : s.vm.findClass RX1 = some m.cls := findClass_of_methodNamed B.named
  have hlocks := B.notSynchronized
  have hin1 : ∀ w ∈ u_ws RX1 TX1 8, w ∈ wsX1_take := fun w h => List.mem_cons_of_mem _ (List.mem_append_right _ h)
  have hD := pm_ad_self hD0
  have hS : va_S (pm_ad (pm_pad y q pP pln pa po ped pot pnm psz)) s.heap s.heap [] := va_S.rf
  have hP : va_P D vwCl (pm_pad y q pP pln pa po ped pot pnm psz) s.heap := hP
  have hl := lv_entry ([.ref (q 0), .int (nI c9)]) (n := 2) (Nat.le_of_ble_eq_true rfl)
  rw [lg_entry_eq]
  generalize (lg_sl ([.ref (q 0), .int (nI c9)]) ++ List.replicate (2 - (lg_sl ([.ref (q 0), .int (nI c9)])).length) Slot.unset).toArray = ls at hl ⊢
  have hl : lv_has ls 2 [(0, .ref (q 0)), (1, .int (nI c9))] := hl
  have hln := hPI.1
  refine lv_aload_n hx hb dX1_take_0 rfl (lv_at hl 0 rfl) ?_
  refine vp_callSi (W.runV (As := []) (rest := []) ⟨hx, hb, hml, hown, hts⟩ (k_X1_here l D y q pP pln pa po ped pot pnm psz hPI (by omega)) (cwV 0 hts gX1_take_X1_here rfl rfl rfl hd_X1_here ⟨Nat.le_of_ble_eq_true rfl, Nat.le_of_ble_eq_true rfl⟩) ⟨pm_ro_blind, va_recv hK hP (ci := 1) (q0 := 0) rfl rfl, pm_ro_pre hP hK⟩ rfl rfl hl.1 rfl (lv_room (Nat.le_of_ble_eq_true rfl)) dX1_take_1 ⟨Nat.le_of_ble_eq_true rfl, Nat.le_of_ble_eq_true rfl⟩) (fun r1 h2 => ?_)
  obtain rfl : r1 = nI (pm_sg pP pln pa) := h2
  have := pm_sg_le (P := pP) (ln := pln) (p := pa) hPI
  refine lv_iload_n hx hb dX1_take_4 rfl (lv_at hl 1 rfl) ?_
  refine kx_icmp_eq (tgt := 10) hx hb (by omega) (by omega) dX1_take_5 (by decide) (fun c3 => ?_) (fun c3 => ?_)
  · skip
    refine lv_aload_n hx hb dX1_take_10 rfl (lv_at hl 0 rfl) ?_
    refine lv_dup hx hb dX1_take_11 rfl ?_
    refine va_get (D := D) (ci := 1) (v := .int (nI pa)) (C := RX1) (T := TX1) (N := 8) hx hb hts hin1 hown hK hP 0 rfl rfl 2 (by decide) (hts (.fieldLink RX1 19 "ProofMarks$Pad" "at" "I") (List.mem_of_getElem? (i := 1) rfl)) (fun _ h9 => h9) rfl dX1_take_12 ?_
    refine lv_iconst (v := nI 1) hx hb dX1_take_15 (by decide) ?_
    refine kx_iadd hx hb dX1_take_16 ?_
    refine kx_put (D := D) (ci := 1) (v := .int (nI (pa + 1))) (ty := .int) (ws' := pm_pad y q pP pln (pa + 1) po ped pot pnm psz) (C := RX1) (T := TX1) (N := 8) hx hb hts hin1 tyX1 tyX1_ok nmX1 hown hK hP hD hS 0 rfl rfl 2 (by decide) (hts (.fieldLink RX1 19 "ProofMarks$Pad" "at" "I") (List.mem_of_getElem? (i := 1) rfl)) (fun _ h9 => h9) rfl (by decide +kernel) rfl rfl (Nat.le_of_ble_eq_true rfl) rfl dX1_take_17 (fun H locs hP hD hS => ?_)
    refine lv_iconst (v := nI 1) hx hb dX1_take_20 (by decide) ?_
    exact W.zret (ty := .boolean) hx hb hr rfl (fun t ht _ => ⟨⟨_, (pa + 1), rfl, (Or.inl ⟨(pm_sg_c hc9 (by assumption)).1, (pm_sg_c hc9 (by assumption)).2, rfl, rfl⟩), (by show va_P D vwCl (pm_pad y q pP pln (pa + 1) po ped pot pnm psz) t.heap; rw [ht]; exact hP)⟩, hS.F ht⟩) hS.2.2 dX1_take_21
  · skip
    refine lv_iconst (v := nI 0) hx hb dX1_take_8 (by decide) ?_
    exact W.zret (ty := .boolean) hx hb hr rfl (fun t ht _ => ⟨⟨_, pa, rfl, (Or.inr ⟨pm_sg_n (by assumption), rfl, rfl⟩), (by show va_P D vwCl (pm_pad y q pP pln pa po ped pot pnm psz) t.heap; rw [ht]; exact hP)⟩, hS.F ht⟩) hS.2.2 dX1_take_9

set_option maxHeartbeats 4000000 in
set_option maxRecDepth 100000 in
theorem k_X1_pass (l : Launch) (D : va_G) (y : Nat → ClassId) (q : Nat → Nat) (pP : Nat → Nat) (pln pa : Nat) (po ped pot pnm psz : Int32) (xd : Int32) (hpa : pa ≤ 200) : Met l yX1_pass wsX1_pass ({ frames := 0, cells := 0, slots := 0, locals := 0 } : Room) (pm_wr D (pm_ty y) [.ref (q 0), .int xd] (pm_pad y q pP pln pa po ped pot pnm psz)) (pm_Qi D (fun (r : Int32) (u : Nat) => (0 ≤ xd ∧ pa + 1 = u ∧ r = nI 1) ∨ (xd < 0 ∧ pa = u ∧ r = nI 0)) (fun (u : Nat) => pm_pad y q pP pln u po ped pot pnm psz) (pm_pad y q pP pln pa po ped pot pnm psz)) 0 0 (pm_ad (pm_pad y q pP pln pa po ped pot pnm psz)) := by
  refine Met.ofW (cc := cX1_pass) (maxL := 2) (ret := (some .boolean)) (by decide) rfl ?_
  intro p e s m args below meth c s₁ B hml hpre
  obtain ⟨rfl, hP, hK, hD0⟩ := hpre
  have hx := B.exec
  have hb := B.bytes
  have hr := B.returns
  have hts := atoms_spec (ws := wsX1_pass) B.pre
  have hown : s.vm.findClass RX1 = some m.cls := findClass_of_methodNamed B.named
  have hlocks := B.notSynchronized
  have hin1 : ∀ w ∈ u_ws RX1 TX1 8, w ∈ wsX1_pass := fun w h => List.mem_cons_of_mem _ (List.mem_append_right _ h)
  have hD := pm_ad_self hD0
  have hS : va_S (pm_ad (pm_pad y q pP pln pa po ped pot pnm psz)) s.heap s.heap [] := va_S.rf
  have hP : va_P D vwCl (pm_pad y q pP pln pa po ped pot pnm psz) s.heap := hP
  have hl := lv_entry ([.ref (q 0), .int xd]) (n := 2) (Nat.le_of_ble_eq_true rfl)
  rw [lg_entry_eq]
  generalize (lg_sl ([.ref (q 0), .int xd]) ++ List.replicate (2 - (lg_sl ([.ref (q 0), .int xd])).length) Slot.unset).toArray = ls at hl ⊢
  have hl : lv_has ls 2 [(0, .ref (q 0)), (1, .int xd)] := hl
  refine lv_iload_n hx hb dX1_pass_0 rfl (lv_at hl 1 rfl) ?_
  refine lv_if_ge (tgt := 6) hx hb dX1_pass_1 (by decide) (fun c1 => ?_) (fun c1 => ?_)
  · skip
    refine lv_aload_n hx hb dX1_pass_6 rfl (lv_at hl 0 rfl) ?_
    refine lv_dup hx hb dX1_pass_7 rfl ?_
    refine va_get (D := D) (ci := 1) (v := .int (nI pa)) (C := RX1) (T := TX1) (N := 8) hx hb hts hin1 hown hK hP 0 rfl rfl 2 (by decide) (hts (.fieldLink RX1 19 "ProofMarks$Pad" "at" "I") (List.mem_of_getElem? (i := 1) rfl)) (fun _ h9 => h9) rfl dX1_pass_8 ?_
    refine lv_iconst (v := nI 1) hx hb dX1_pass_11 (by decide) ?_
    refine kx_iadd hx hb dX1_pass_12 ?_
    refine kx_put (D := D) (ci := 1) (v := .int (nI (pa + 1))) (ty := .int) (ws' := pm_pad y q pP pln (pa + 1) po ped pot pnm psz) (C := RX1) (T := TX1) (N := 8) hx hb hts hin1 tyX1 tyX1_ok nmX1 hown hK hP hD hS 0 rfl rfl 2 (by decide) (hts (.fieldLink RX1 19 "ProofMarks$Pad" "at" "I") (List.mem_of_getElem? (i := 1) rfl)) (fun _ h9 => h9) rfl (by decide +kernel) rfl rfl (Nat.le_of_ble_eq_true rfl) rfl dX1_pass_13 (fun H locs hP hD hS => ?_)
    refine lv_iconst (v := nI 1) hx hb dX1_pass_16 (by decide) ?_
    exact W.zret (ty := .boolean) hx hb hr rfl (fun t ht _ => ⟨⟨_, (pa + 1), rfl, (Or.inl ⟨by assumption, rfl, rfl⟩), (by show va_P D vwCl (pm_pad y q pP pln (pa + 1) po ped pot pnm psz) t.heap; rw [ht]; exact hP)⟩, hS.F ht⟩) hS.2.2 dX1_pass_17
  · skip
    refine lv_iconst (v := nI 0) hx hb dX1_pass_4 (by decide) ?_
    exact W.zret (ty := .boolean) hx hb hr rfl (fun t ht _ => ⟨⟨_, pa, rfl, (Or.inr ⟨Int32.not_le.mp (by assumption), rfl, rfl⟩), (by show va_P D vwCl (pm_pad y q pP pln pa po ped pot pnm psz) t.heap; rw [ht]; exact hP)⟩, hS.F ht⟩) hS.2.2 dX1_pass_5

set_option maxHeartbeats 4000000 in
set_option maxRecDepth 100000 in
theorem k_X1_digitHere (l : Launch) (D : va_G) (y : Nat → ClassId) (q : Nat → Nat) (pP : Nat → Nat) (pln pa : Nat) (po ped pot pnm psz : Int32) (hPI : pm_PI pP pln) (hpa : pa ≤ 200) : Met l yX1_digitHere wsX1_digitHere ({ frames := 1, cells := 0, slots := 0, locals := 20 } : Room) (pm_ro D (pm_ty y) [.ref (q 0)] (pm_pad y q pP pln pa po ped pot pnm psz)) (vp_Si (fun r : Int32 => (∃ d, d < 10 ∧ pm_dg pP pln pa = some d ∧ r = nI d) ∨ (pm_dg pP pln pa = none ∧ r = -1))) 0 0 (fun _ => False) := by
  refine Met.ofW (cc := cX1_digitHere) (maxL := 2) (ret := (some .int)) (by decide) rfl ?_
  intro p e s m args below meth c s₁ B hml hpre
  obtain ⟨rfl, hP, hK⟩ := hpre
  have hx := B.exec
  have hb := B.bytes
  have hr := B.returns
  have hts := atoms_spec (ws := wsX1_digitHere) B.pre
  have hown : s.vm.findClass RX1 = some m.cls := findClass_of_methodNamed B.named
  have hlocks := B.notSynchronized
  have hin1 : ∀ w ∈ u_ws RX1 TX1 8, w ∈ wsX1_digitHere := fun w h => List.mem_cons_of_mem _ (List.mem_append_right _ h)
  have hP : va_P D vwCl (pm_pad y q pP pln pa po ped pot pnm psz) s.heap := hP
  have hl := lv_entry ([.ref (q 0)]) (n := 2) (Nat.le_of_ble_eq_true rfl)
  rw [lg_entry_eq]
  generalize (lg_sl ([.ref (q 0)]) ++ List.replicate (2 - (lg_sl ([.ref (q 0)])).length) Slot.unset).toArray = ls at hl ⊢
  have hl : lv_has ls 2 [(0, .ref (q 0))] := hl
  have hln := hPI.1
  refine lv_aload_n hx hb dX1_digitHere_0 rfl (lv_at hl 0 rfl) ?_
  refine vp_callSi (W.runV (As := []) (rest := []) ⟨hx, hb, hml, hown, hts⟩ (k_X1_here l D y q pP pln pa po ped pot pnm psz hPI (by omega)) (cwV 0 hts gX1_digitHere_X1_here rfl rfl rfl hd_X1_here ⟨Nat.le_of_ble_eq_true rfl, Nat.le_of_ble_eq_true rfl⟩) ⟨pm_ro_blind, va_recv hK hP (ci := 1) (q0 := 0) rfl rfl, pm_ro_pre hP hK⟩ rfl rfl hl.1 rfl (lv_room (Nat.le_of_ble_eq_true rfl)) dX1_digitHere_1 ⟨Nat.le_of_ble_eq_true rfl, Nat.le_of_ble_eq_true rfl⟩) (fun r1 h2 => ?_)
  obtain rfl : r1 = nI (pm_sg pP pln pa) := h2
  have := pm_sg_le (P := pP) (ln := pln) (p := pa) hPI
  refine lv_istore_n (lv' := [(1, .int (nI (pm_sg pP pln pa))), (0, .ref (q 0))]) hx hb dX1_digitHere_4 rfl hl (by decide) rfl (fun ls hl => ?_)
  refine lv_iload_n hx hb dX1_digitHere_5 rfl (lv_at hl 0 rfl) ?_
  refine lv_bipush (v := nI 48) hx hb dX1_digitHere_6 (by decide) ?_
  refine kx_icmp_lt (tgt := 24) hx hb (by omega) (by decide) dX1_digitHere_8 (by decide) (fun c3 => ?_) (fun c3 => ?_)
  · skip
    refine lv_iconst (v := -1) hx hb dX1_digitHere_24 (by decide) ?_
    exact W.iret hx hb hr (fun t ht _ => ⟨_, rfl, (Or.inr ⟨pm_sgd_f (by omega), rfl⟩), ht⟩) (fun _ h => absurd h List.not_mem_nil) dX1_digitHere_25
  · skip
    refine lv_iload_n hx hb dX1_digitHere_11 rfl (lv_at hl 0 rfl) ?_
    refine lv_bipush (v := nI 57) hx hb dX1_digitHere_12 (by decide) ?_
    refine kx_icmp_gt (tgt := 24) hx hb (by omega) (by decide) dX1_digitHere_14 (by decide) (fun c4 => ?_) (fun c4 => ?_)
    · skip
      refine lv_iconst (v := -1) hx hb dX1_digitHere_24 (by decide) ?_
      exact W.iret hx hb hr (fun t ht _ => ⟨_, rfl, (Or.inr ⟨pm_sgd_f (by omega), rfl⟩), ht⟩) (fun _ h => absurd h List.not_mem_nil) dX1_digitHere_25
    · skip
      refine lv_iload_n hx hb dX1_digitHere_17 rfl (lv_at hl 0 rfl) ?_
      refine lv_bipush (v := nI 48) hx hb dX1_digitHere_18 (by decide) ?_
      refine kx_isub hx hb (by omega) dX1_digitHere_20 ?_
      refine lv_goto (tgt := 25) hx hb dX1_digitHere_21 (by decide) ?_
      exact W.iret hx hb hr (fun t ht _ => ⟨_, rfl, (Or.inl ⟨_, by omega, pm_sgd_t (by omega) (by omega), rfl⟩), ht⟩) (fun _ h => absurd h List.not_mem_nil) dX1_digitHere_25

set_option maxHeartbeats 4000000 in
set_option maxRecDepth 100000 in
theorem k_X1_takeEditor (l : Launch) (D : va_G) (y : Nat → ClassId) (q : Nat → Nat) (pP : Nat → Nat) (pln pa : Nat) (po ped pot pnm psz : Int32) (hPI : pm_PI pP pln) (hpa : pa ≤ 200) : Met l yX1_takeEditor wsX1_takeEditor ({ frames := 2, cells := 0, slots := 0, locals := 41 } : Room) (pm_wr D (pm_ty y) [.ref (q 0)] (pm_pad y q pP pln pa po ped pot pnm psz)) (pm_Qi D (fun (r : Int32) (u : Nat × Int32) => (∃ d, d < 10 ∧ pm_dg pP pln pa = some d ∧ (pa + 1, nI d) = u ∧ r = nI 1) ∨ (pm_dg pP pln pa = none ∧ (pa, -1) = u ∧ r = nI 0)) (fun (u : Nat × Int32) => pm_pad y q pP pln u.1 po u.2 pot pnm psz) (pm_pad y q pP pln pa po ped pot pnm psz)) 0 0 (pm_ad (pm_pad y q pP pln pa po ped pot pnm psz)) := by
  refine Met.ofW (cc := cX1_takeEditor) (maxL := 1) (ret := (some .boolean)) (by decide) rfl ?_
  intro p e s m args below meth c s₁ B hml hpre
  obtain ⟨rfl, hP, hK, hD0⟩ := hpre
  have hx := B.exec
  have hb := B.bytes
  have hr := B.returns
  have hts := atoms_spec (ws := wsX1_takeEditor) B.pre
  have hown : s.vm.findClass RX1 = some m.cls := findClass_of_methodNamed B.named
  have hlocks := B.notSynchronized
  have hin1 : ∀ w ∈ u_ws RX1 TX1 8, w ∈ wsX1_takeEditor := fun w h => List.mem_cons_of_mem _ (List.mem_append_right _ h)
  have hD := pm_ad_self hD0
  have hS : va_S (pm_ad (pm_pad y q pP pln pa po ped pot pnm psz)) s.heap s.heap [] := va_S.rf
  have hP : va_P D vwCl (pm_pad y q pP pln pa po ped pot pnm psz) s.heap := hP
  have hl := lv_entry ([.ref (q 0)]) (n := 1) (Nat.le_of_ble_eq_true rfl)
  rw [lg_entry_eq]
  generalize (lg_sl ([.ref (q 0)]) ++ List.replicate (1 - (lg_sl ([.ref (q 0)])).length) Slot.unset).toArray = ls at hl ⊢
  have hl : lv_has ls 1 [(0, .ref (q 0))] := hl
  have hln := hPI.1
  refine lv_aload_n hx hb dX1_takeEditor_0 rfl (lv_at hl 0 rfl) ?_
  refine lv_aload_n hx hb dX1_takeEditor_1 rfl (lv_at hl 0 rfl) ?_
  refine vp_callSi (W.runV (As := []) (rest := [.ref (q 0)]) ⟨hx, hb, hml, hown, hts⟩ (k_X1_digitHere l D y q pP pln pa po ped pot pnm psz hPI (by omega)) (cwV 0 hts gX1_takeEditor_X1_digitHere rfl rfl rfl hd_X1_digitHere ⟨Nat.le_of_ble_eq_true rfl, Nat.le_of_ble_eq_true rfl⟩) ⟨pm_ro_blind, va_recv hK hP (ci := 1) (q0 := 0) rfl rfl, pm_ro_pre hP hK⟩ rfl rfl hl.1 rfl (lv_room (Nat.le_of_ble_eq_true rfl)) dX1_takeEditor_2 ⟨Nat.le_of_ble_eq_true rfl, Nat.le_of_ble_eq_true rfl⟩) (fun r1 h2 => ?_)
  rcases h2 with ⟨d3, hd3, ed3, rfl⟩ | ⟨ed3, rfl⟩
  · have := (pm_dg9 ed3).2
    refine kx_put (D := D) (ci := 1) (v := .int (nI d3)) (ty := .int) (ws' := pm_pad y q pP pln pa po (nI d3) pot pnm psz) (C := RX1) (T := TX1) (N := 8) hx hb hts hin1 tyX1 tyX1_ok nmX1 hown hK hP hD hS 0 rfl rfl 4 (by decide) (hts (.fieldLink RX1 26 "ProofMarks$Pad" "editor" "I") (List.mem_of_getElem? (i := 1) rfl)) (fun _ h9 => h9) rfl (by decide +kernel) rfl rfl (Nat.le_of_ble_eq_true rfl) rfl dX1_takeEditor_5 (fun H locs hP hD hS => ?_)
    refine lv_aload_n hx hb dX1_takeEditor_8 rfl (lv_at hl 0 rfl) ?_
    refine lv_aload_n hx hb dX1_takeEditor_9 rfl (lv_at hl 0 rfl) ?_
    refine va_get (D := D) (ci := 1) (v := .int (nI d3)) (C := RX1) (T := TX1) (N := 8) hx hb hts hin1 hown hK hP 0 rfl rfl 4 (by decide) (hts (.fieldLink RX1 26 "ProofMarks$Pad" "editor" "I") (List.mem_of_getElem? (i := 1) rfl)) (fun _ h9 => h9) rfl dX1_takeEditor_10 ?_
    refine va_calli (va_runV (As := [.int (nI d3)]) (rest := []) ⟨hx, hb, hml, hown, hts⟩ (k_X1_pass l D y q pP pln pa po (nI d3) pot pnm psz (nI d3) (by omega)) (cwV 1 hts gX1_takeEditor_X1_pass rfl rfl rfl hd_X1_pass ⟨Nat.le_of_ble_eq_true rfl, Nat.le_of_ble_eq_true rfl⟩) ⟨pm_wr_blind, va_recv hK hP (ci := 1) (q0 := 0) rfl rfl, pm_wr_pre hP hK hD⟩ rfl rfl hl.1 rfl (lv_room (Nat.le_of_ble_eq_true rfl)) dX1_takeEditor_13 ⟨Nat.le_of_ble_eq_true rfl, Nat.le_of_ble_eq_true rfl⟩) hS (fun q _ h9 => (pm_ad_all hD) q h9) (pm_ad_all hD) (fun r4 u10 t6 H1 locs ht7 _ h5 hB8 _ hk9 hS => ?_)
    obtain ⟨hP, hD⟩ := pm_all (D := D) (cl := vwCl) (H1 := H1) hD (w' := pm_pad y q pP pln u10 po (nI d3) pot pnm psz) (by rw [← ht7]; exact hB8) (pm_pad_ad _ _ _ _ _ _ _ _ _ _ _ _ _ _ _ _ _ _)
    generalize H1 = H at hP hS ⊢
    rcases h5 with ⟨ps11, rfl, rfl⟩ | ⟨ps11, rfl, rfl⟩
    · skip
      exact W.zret (ty := .boolean) hx hb hr rfl (fun t ht _ => ⟨⟨_, (pa + 1, nI d3), rfl, (Or.inl ⟨_, by assumption, by assumption, rfl, rfl⟩), (by show va_P D vwCl (pm_pad y q pP pln (pa + 1) po (nI d3) pot pnm psz) t.heap; rw [ht]; exact hP)⟩, hS.F ht⟩) hS.2.2 dX1_takeEditor_16
    · exact absurd ps11 (nI_pos (by omega))
  · skip
    refine kx_put (D := D) (ci := 1) (v := .int (-1)) (ty := .int) (ws' := pm_pad y q pP pln pa po (-1) pot pnm psz) (C := RX1) (T := TX1) (N := 8) hx hb hts hin1 tyX1 tyX1_ok nmX1 hown hK hP hD hS 0 rfl rfl 4 (by decide) (hts (.fieldLink RX1 26 "ProofMarks$Pad" "editor" "I") (List.mem_of_getElem? (i := 1) rfl)) (fun _ h9 => h9) rfl (by decide +kernel) rfl rfl (Nat.le_of_ble_eq_true rfl) rfl dX1_takeEditor_5 (fun H locs hP hD hS => ?_)
    refine lv_aload_n hx hb dX1_takeEditor_8 rfl (lv_at hl 0 rfl) ?_
    refine lv_aload_n hx hb dX1_takeEditor_9 rfl (lv_at hl 0 rfl) ?_
    refine va_get (D := D) (ci := 1) (v := .int (-1)) (C := RX1) (T := TX1) (N := 8) hx hb hts hin1 hown hK hP 0 rfl rfl 4 (by decide) (hts (.fieldLink RX1 26 "ProofMarks$Pad" "editor" "I") (List.mem_of_getElem? (i := 1) rfl)) (fun _ h9 => h9) rfl dX1_takeEditor_10 ?_
    refine va_calli (va_runV (As := [.int (-1)]) (rest := []) ⟨hx, hb, hml, hown, hts⟩ (k_X1_pass l D y q pP pln pa po (-1) pot pnm psz (-1) (by omega)) (cwV 1 hts gX1_takeEditor_X1_pass rfl rfl rfl hd_X1_pass ⟨Nat.le_of_ble_eq_true rfl, Nat.le_of_ble_eq_true rfl⟩) ⟨pm_wr_blind, va_recv hK hP (ci := 1) (q0 := 0) rfl rfl, pm_wr_pre hP hK hD⟩ rfl rfl hl.1 rfl (lv_room (Nat.le_of_ble_eq_true rfl)) dX1_takeEditor_13 ⟨Nat.le_of_ble_eq_true rfl, Nat.le_of_ble_eq_true rfl⟩) hS (fun q _ h9 => (pm_ad_all hD) q h9) (pm_ad_all hD) (fun r12 u18 t14 H1 locs ht15 _ h13 hB16 _ hk17 hS => ?_)
    obtain ⟨hP, hD⟩ := pm_all (D := D) (cl := vwCl) (H1 := H1) hD (w' := pm_pad y q pP pln u18 po (-1) pot pnm psz) (by rw [← ht15]; exact hB16) (pm_pad_ad _ _ _ _ _ _ _ _ _ _ _ _ _ _ _ _ _ _)
    generalize H1 = H at hP hS ⊢
    rcases h13 with ⟨ps19, rfl, rfl⟩ | ⟨ps19, rfl, rfl⟩
    · exact absurd (ps19 : (0 : Int32) ≤ -1) (by decide)
    · skip
      exact W.zret (ty := .boolean) hx hb hr rfl (fun t ht _ => ⟨⟨_, (pa, -1), rfl, (Or.inr ⟨by assumption, rfl, rfl⟩), (by show va_P D vwCl (pm_pad y q pP pln pa po (-1) pot pnm psz) t.heap; rw [ht]; exact hP)⟩, hS.F ht⟩) hS.2.2 dX1_takeEditor_16

set_option maxHeartbeats 4000000 in
set_option maxRecDepth 100000 in
theorem k_X1_takeOther (l : Launch) (D : va_G) (y : Nat → ClassId) (q : Nat → Nat) (pP : Nat → Nat) (pln pa : Nat) (po ped pot pnm psz : Int32) (hPI : pm_PI pP pln) (hpa : pa ≤ 200) : Met l yX1_takeOther wsX1_takeOther ({ frames := 2, cells := 0, slots := 0, locals := 41 } : Room) (pm_wr D (pm_ty y) [.ref (q 0)] (pm_pad y q pP pln pa po ped pot pnm psz)) (pm_Qi D (fun (r : Int32) (u : Nat × Int32) => (∃ d, d < 10 ∧ pm_dg pP pln pa = some d ∧ (pa + 1, nI d) = u ∧ r = nI 1) ∨ (pm_dg pP pln pa = none ∧ (pa, -1) = u ∧ r = nI 0)) (fun (u : Nat × Int32) => pm_pad y q pP pln u.1 po ped u.2 pnm psz) (pm_pad y q pP pln pa po ped pot pnm psz)) 0 0 (pm_ad (pm_pad y q pP pln pa po ped pot pnm psz)) := by
  refine Met.ofW (cc := cX1_takeOther) (maxL := 1) (ret := (some .boolean)) (by decide) rfl ?_
  intro p e s m args below meth c s₁ B hml hpre
  obtain ⟨rfl, hP, hK, hD0⟩ := hpre
  have hx := B.exec
  have hb := B.bytes
  have hr := B.returns
  have hts := atoms_spec (ws := wsX1_takeOther) B.pre
  have hown : s.vm.findClass RX1 = some m.cls := findClass_of_methodNamed B.named
  have hlocks := B.notSynchronized
  have hin1 : ∀ w ∈ u_ws RX1 TX1 8, w ∈ wsX1_takeOther := fun w h => List.mem_cons_of_mem _ (List.mem_append_right _ h)
  have hD := pm_ad_self hD0
  have hS : va_S (pm_ad (pm_pad y q pP pln pa po ped pot pnm psz)) s.heap s.heap [] := va_S.rf
  have hP : va_P D vwCl (pm_pad y q pP pln pa po ped pot pnm psz) s.heap := hP
  have hl := lv_entry ([.ref (q 0)]) (n := 1) (Nat.le_of_ble_eq_true rfl)
  rw [lg_entry_eq]
  generalize (lg_sl ([.ref (q 0)]) ++ List.replicate (1 - (lg_sl ([.ref (q 0)])).length) Slot.unset).toArray = ls at hl ⊢
  have hl : lv_has ls 1 [(0, .ref (q 0))] := hl
  have hln := hPI.1
  refine lv_aload_n hx hb dX1_takeOther_0 rfl (lv_at hl 0 rfl) ?_
  refine lv_aload_n hx hb dX1_takeOther_1 rfl (lv_at hl 0 rfl) ?_
  refine vp_callSi (W.runV (As := []) (rest := [.ref (q 0)]) ⟨hx, hb, hml, hown, hts⟩ (k_X1_digitHere l D y q pP pln pa po ped pot pnm psz hPI (by omega)) (cwV 0 hts gX1_takeOther_X1_digitHere rfl rfl rfl hd_X1_digitHere ⟨Nat.le_of_ble_eq_true rfl, Nat.le_of_ble_eq_true rfl⟩) ⟨pm_ro_blind, va_recv hK hP (ci := 1) (q0 := 0) rfl rfl, pm_ro_pre hP hK⟩ rfl rfl hl.1 rfl (lv_room (Nat.le_of_ble_eq_true rfl)) dX1_takeOther_2 ⟨Nat.le_of_ble_eq_true rfl, Nat.le_of_ble_eq_true rfl⟩) (fun r1 h2 => ?_)
  rcases h2 with ⟨d3, hd3, ed3, rfl⟩ | ⟨ed3, rfl⟩
  · have := (pm_dg9 ed3).2
    refine kx_put (D := D) (ci := 1) (v := .int (nI d3)) (ty := .int) (ws' := pm_pad y q pP pln pa po ped (nI d3) pnm psz) (C := RX1) (T := TX1) (N := 8) hx hb hts hin1 tyX1 tyX1_ok nmX1 hown hK hP hD hS 0 rfl rfl 5 (by decide) (hts (.fieldLink RX1 29 "ProofMarks$Pad" "other" "I") (List.mem_of_getElem? (i := 1) rfl)) (fun _ h9 => h9) rfl (by decide +kernel) rfl rfl (Nat.le_of_ble_eq_true rfl) rfl dX1_takeOther_5 (fun H locs hP hD hS => ?_)
    refine lv_aload_n hx hb dX1_takeOther_8 rfl (lv_at hl 0 rfl) ?_
    refine lv_aload_n hx hb dX1_takeOther_9 rfl (lv_at hl 0 rfl) ?_
    refine va_get (D := D) (ci := 1) (v := .int (nI d3)) (C := RX1) (T := TX1) (N := 8) hx hb hts hin1 hown hK hP 0 rfl rfl 5 (by decide) (hts (.fieldLink RX1 29 "ProofMarks$Pad" "other" "I") (List.mem_of_getElem? (i := 1) rfl)) (fun _ h9 => h9) rfl dX1_takeOther_10 ?_
    refine va_calli (va_runV (As := [.int (nI d3)]) (rest := []) ⟨hx, hb, hml, hown, hts⟩ (k_X1_pass l D y q pP pln pa po ped (nI d3) pnm psz (nI d3) (by omega)) (cwV 1 hts gX1_takeOther_X1_pass rfl rfl rfl hd_X1_pass ⟨Nat.le_of_ble_eq_true rfl, Nat.le_of_ble_eq_true rfl⟩) ⟨pm_wr_blind, va_recv hK hP (ci := 1) (q0 := 0) rfl rfl, pm_wr_pre hP hK hD⟩ rfl rfl hl.1 rfl (lv_room (Nat.le_of_ble_eq_true rfl)) dX1_takeOther_13 ⟨Nat.le_of_ble_eq_true rfl, Nat.le_of_ble_eq_true rfl⟩) hS (fun q _ h9 => (pm_ad_all hD) q h9) (pm_ad_all hD) (fun r4 u10 t6 H1 locs ht7 _ h5 hB8 _ hk9 hS => ?_)
    obtain ⟨hP, hD⟩ := pm_all (D := D) (cl := vwCl) (H1 := H1) hD (w' := pm_pad y q pP pln u10 po ped (nI d3) pnm psz) (by rw [← ht7]; exact hB8) (pm_pad_ad _ _ _ _ _ _ _ _ _ _ _ _ _ _ _ _ _ _)
    generalize H1 = H at hP hS ⊢
    rcases h5 with ⟨ps11, rfl, rfl⟩ | ⟨ps11, rfl, rfl⟩
    · skip
      exact W.zret (ty := .boolean) hx hb hr rfl (fun t ht _ => ⟨⟨_, (pa + 1, nI d3), rfl, (Or.inl ⟨_, by assumption, by assumption, rfl, rfl⟩), (by show va_P D vwCl (pm_pad y q pP pln (pa + 1) po ped (nI d3) pnm psz) t.heap; rw [ht]; exact hP)⟩, hS.F ht⟩) hS.2.2 dX1_takeOther_16
    · exact absurd ps11 (nI_pos (by omega))
  · skip
    refine kx_put (D := D) (ci := 1) (v := .int (-1)) (ty := .int) (ws' := pm_pad y q pP pln pa po ped (-1) pnm psz) (C := RX1) (T := TX1) (N := 8) hx hb hts hin1 tyX1 tyX1_ok nmX1 hown hK hP hD hS 0 rfl rfl 5 (by decide) (hts (.fieldLink RX1 29 "ProofMarks$Pad" "other" "I") (List.mem_of_getElem? (i := 1) rfl)) (fun _ h9 => h9) rfl (by decide +kernel) rfl rfl (Nat.le_of_ble_eq_true rfl) rfl dX1_takeOther_5 (fun H locs hP hD hS => ?_)
    refine lv_aload_n hx hb dX1_takeOther_8 rfl (lv_at hl 0 rfl) ?_
    refine lv_aload_n hx hb dX1_takeOther_9 rfl (lv_at hl 0 rfl) ?_
    refine va_get (D := D) (ci := 1) (v := .int (-1)) (C := RX1) (T := TX1) (N := 8) hx hb hts hin1 hown hK hP 0 rfl rfl 5 (by decide) (hts (.fieldLink RX1 29 "ProofMarks$Pad" "other" "I") (List.mem_of_getElem? (i := 1) rfl)) (fun _ h9 => h9) rfl dX1_takeOther_10 ?_
    refine va_calli (va_runV (As := [.int (-1)]) (rest := []) ⟨hx, hb, hml, hown, hts⟩ (k_X1_pass l D y q pP pln pa po ped (-1) pnm psz (-1) (by omega)) (cwV 1 hts gX1_takeOther_X1_pass rfl rfl rfl hd_X1_pass ⟨Nat.le_of_ble_eq_true rfl, Nat.le_of_ble_eq_true rfl⟩) ⟨pm_wr_blind, va_recv hK hP (ci := 1) (q0 := 0) rfl rfl, pm_wr_pre hP hK hD⟩ rfl rfl hl.1 rfl (lv_room (Nat.le_of_ble_eq_true rfl)) dX1_takeOther_13 ⟨Nat.le_of_ble_eq_true rfl, Nat.le_of_ble_eq_true rfl⟩) hS (fun q _ h9 => (pm_ad_all hD) q h9) (pm_ad_all hD) (fun r12 u18 t14 H1 locs ht15 _ h13 hB16 _ hk17 hS => ?_)
    obtain ⟨hP, hD⟩ := pm_all (D := D) (cl := vwCl) (H1 := H1) hD (w' := pm_pad y q pP pln u18 po ped (-1) pnm psz) (by rw [← ht15]; exact hB16) (pm_pad_ad _ _ _ _ _ _ _ _ _ _ _ _ _ _ _ _ _ _)
    generalize H1 = H at hP hS ⊢
    rcases h13 with ⟨ps19, rfl, rfl⟩ | ⟨ps19, rfl, rfl⟩
    · exact absurd (ps19 : (0 : Int32) ≤ -1) (by decide)
    · skip
      exact W.zret (ty := .boolean) hx hb hr rfl (fun t ht _ => ⟨⟨_, (pa, -1), rfl, (Or.inr ⟨by assumption, rfl, rfl⟩), (by show va_P D vwCl (pm_pad y q pP pln pa po ped (-1) pnm psz) t.heap; rw [ht]; exact hP)⟩, hS.F ht⟩) hS.2.2 dX1_takeOther_16

set_option maxHeartbeats 4000000 in
set_option maxRecDepth 100000 in
theorem k_X1_takeSize (l : Launch) (D : va_G) (y : Nat → ClassId) (q : Nat → Nat) (pP : Nat → Nat) (pln pa : Nat) (po ped pot pnm psz : Int32) (hPI : pm_PI pP pln) (hpa : pa ≤ 200) : Met l yX1_takeSize wsX1_takeSize ({ frames := 2, cells := 0, slots := 0, locals := 41 } : Room) (pm_wr D (pm_ty y) [.ref (q 0)] (pm_pad y q pP pln pa po ped pot pnm psz)) (pm_Qi D (fun (r : Int32) (u : Nat × Int32) => (∃ d, d < 10 ∧ pm_dg pP pln pa = some d ∧ (pa + 1, nI d) = u ∧ r = nI 1) ∨ (pm_dg pP pln pa = none ∧ (pa, -1) = u ∧ r = nI 0)) (fun (u : Nat × Int32) => pm_pad y q pP pln u.1 po ped pot pnm u.2) (pm_pad y q pP pln pa po ped pot pnm psz)) 0 0 (pm_ad (pm_pad y q pP pln pa po ped pot pnm psz)) := by
  refine Met.ofW (cc := cX1_takeSize) (maxL := 1) (ret := (some .boolean)) (by decide) rfl ?_
  intro p e s m args below meth c s₁ B hml hpre
  obtain ⟨rfl, hP, hK, hD0⟩ := hpre
  have hx := B.exec
  have hb := B.bytes
  have hr := B.returns
  have hts := atoms_spec (ws := wsX1_takeSize) B.pre
  have hown : s.vm.findClass RX1 = some m.cls := findClass_of_methodNamed B.named
  have hlocks := B.notSynchronized
  have hin1 : ∀ w ∈ u_ws RX1 TX1 8, w ∈ wsX1_takeSize := fun w h => List.mem_cons_of_mem _ (List.mem_append_right _ h)
  have hD := pm_ad_self hD0
  have hS : va_S (pm_ad (pm_pad y q pP pln pa po ped pot pnm psz)) s.heap s.heap [] := va_S.rf
  have hP : va_P D vwCl (pm_pad y q pP pln pa po ped pot pnm psz) s.heap := hP
  have hl := lv_entry ([.ref (q 0)]) (n := 1) (Nat.le_of_ble_eq_true rfl)
  rw [lg_entry_eq]
  generalize (lg_sl ([.ref (q 0)]) ++ List.replicate (1 - (lg_sl ([.ref (q 0)])).length) Slot.unset).toArray = ls at hl ⊢
  have hl : lv_has ls 1 [(0, .ref (q 0))] := hl
  have hln := hPI.1
  refine lv_aload_n hx hb dX1_takeSize_0 rfl (lv_at hl 0 rfl) ?_
  refine lv_aload_n hx hb dX1_takeSize_1 rfl (lv_at hl 0 rfl) ?_
  refine vp_callSi (W.runV (As := []) (rest := [.ref (q 0)]) ⟨hx, hb, hml, hown, hts⟩ (k_X1_digitHere l D y q pP pln pa po ped pot pnm psz hPI (by omega)) (cwV 0 hts gX1_takeSize_X1_digitHere rfl rfl rfl hd_X1_digitHere ⟨Nat.le_of_ble_eq_true rfl, Nat.le_of_ble_eq_true rfl⟩) ⟨pm_ro_blind, va_recv hK hP (ci := 1) (q0 := 0) rfl rfl, pm_ro_pre hP hK⟩ rfl rfl hl.1 rfl (lv_room (Nat.le_of_ble_eq_true rfl)) dX1_takeSize_2 ⟨Nat.le_of_ble_eq_true rfl, Nat.le_of_ble_eq_true rfl⟩) (fun r1 h2 => ?_)
  rcases h2 with ⟨d3, hd3, ed3, rfl⟩ | ⟨ed3, rfl⟩
  · have := (pm_dg9 ed3).2
    refine kx_put (D := D) (ci := 1) (v := .int (nI d3)) (ty := .int) (ws' := pm_pad y q pP pln pa po ped pot pnm (nI d3)) (C := RX1) (T := TX1) (N := 8) hx hb hts hin1 tyX1 tyX1_ok nmX1 hown hK hP hD hS 0 rfl rfl 7 (by decide) (hts (.fieldLink RX1 35 "ProofMarks$Pad" "size" "I") (List.mem_of_getElem? (i := 1) rfl)) (fun _ h9 => h9) rfl (by decide +kernel) rfl rfl (Nat.le_of_ble_eq_true rfl) rfl dX1_takeSize_5 (fun H locs hP hD hS => ?_)
    refine lv_aload_n hx hb dX1_takeSize_8 rfl (lv_at hl 0 rfl) ?_
    refine lv_aload_n hx hb dX1_takeSize_9 rfl (lv_at hl 0 rfl) ?_
    refine va_get (D := D) (ci := 1) (v := .int (nI d3)) (C := RX1) (T := TX1) (N := 8) hx hb hts hin1 hown hK hP 0 rfl rfl 7 (by decide) (hts (.fieldLink RX1 35 "ProofMarks$Pad" "size" "I") (List.mem_of_getElem? (i := 1) rfl)) (fun _ h9 => h9) rfl dX1_takeSize_10 ?_
    refine va_calli (va_runV (As := [.int (nI d3)]) (rest := []) ⟨hx, hb, hml, hown, hts⟩ (k_X1_pass l D y q pP pln pa po ped pot pnm (nI d3) (nI d3) (by omega)) (cwV 1 hts gX1_takeSize_X1_pass rfl rfl rfl hd_X1_pass ⟨Nat.le_of_ble_eq_true rfl, Nat.le_of_ble_eq_true rfl⟩) ⟨pm_wr_blind, va_recv hK hP (ci := 1) (q0 := 0) rfl rfl, pm_wr_pre hP hK hD⟩ rfl rfl hl.1 rfl (lv_room (Nat.le_of_ble_eq_true rfl)) dX1_takeSize_13 ⟨Nat.le_of_ble_eq_true rfl, Nat.le_of_ble_eq_true rfl⟩) hS (fun q _ h9 => (pm_ad_all hD) q h9) (pm_ad_all hD) (fun r4 u10 t6 H1 locs ht7 _ h5 hB8 _ hk9 hS => ?_)
    obtain ⟨hP, hD⟩ := pm_all (D := D) (cl := vwCl) (H1 := H1) hD (w' := pm_pad y q pP pln u10 po ped pot pnm (nI d3)) (by rw [← ht7]; exact hB8) (pm_pad_ad _ _ _ _ _ _ _ _ _ _ _ _ _ _ _ _ _ _)
    generalize H1 = H at hP hS ⊢
    rcases h5 with ⟨ps11, rfl, rfl⟩ | ⟨ps11, rfl, rfl⟩
    · skip
      exact W.zret (ty := .boolean) hx hb hr rfl (fun t ht _ => ⟨⟨_, (pa + 1, nI d3), rfl, (Or.inl ⟨_, by assumption, by assumption, rfl, rfl⟩), (by show va_P D vwCl (pm_pad y q pP pln (pa + 1) po ped pot pnm (nI d3)) t.heap; rw [ht]; exact hP)⟩, hS.F ht⟩) hS.2.2 dX1_takeSize_16
    · exact absurd ps11 (nI_pos (by omega))
  · skip
    refine kx_put (D := D) (ci := 1) (v := .int (-1)) (ty := .int) (ws' := pm_pad y q pP pln pa po ped pot pnm (-1)) (C := RX1) (T := TX1) (N := 8) hx hb hts hin1 tyX1 tyX1_ok nmX1 hown hK hP hD hS 0 rfl rfl 7 (by decide) (hts (.fieldLink RX1 35 "ProofMarks$Pad" "size" "I") (List.mem_of_getElem? (i := 1) rfl)) (fun _ h9 => h9) rfl (by decide +kernel) rfl rfl (Nat.le_of_ble_eq_true rfl) rfl dX1_takeSize_5 (fun H locs hP hD hS => ?_)
    refine lv_aload_n hx hb dX1_takeSize_8 rfl (lv_at hl 0 rfl) ?_
    refine lv_aload_n hx hb dX1_takeSize_9 rfl (lv_at hl 0 rfl) ?_
    refine va_get (D := D) (ci := 1) (v := .int (-1)) (C := RX1) (T := TX1) (N := 8) hx hb hts hin1 hown hK hP 0 rfl rfl 7 (by decide) (hts (.fieldLink RX1 35 "ProofMarks$Pad" "size" "I") (List.mem_of_getElem? (i := 1) rfl)) (fun _ h9 => h9) rfl dX1_takeSize_10 ?_
    refine va_calli (va_runV (As := [.int (-1)]) (rest := []) ⟨hx, hb, hml, hown, hts⟩ (k_X1_pass l D y q pP pln pa po ped pot pnm (-1) (-1) (by omega)) (cwV 1 hts gX1_takeSize_X1_pass rfl rfl rfl hd_X1_pass ⟨Nat.le_of_ble_eq_true rfl, Nat.le_of_ble_eq_true rfl⟩) ⟨pm_wr_blind, va_recv hK hP (ci := 1) (q0 := 0) rfl rfl, pm_wr_pre hP hK hD⟩ rfl rfl hl.1 rfl (lv_room (Nat.le_of_ble_eq_true rfl)) dX1_takeSize_13 ⟨Nat.le_of_ble_eq_true rfl, Nat.le_of_ble_eq_true rfl⟩) hS (fun q _ h9 => (pm_ad_all hD) q h9) (pm_ad_all hD) (fun r12 u18 t14 H1 locs ht15 _ h13 hB16 _ hk17 hS => ?_)
    obtain ⟨hP, hD⟩ := pm_all (D := D) (cl := vwCl) (H1 := H1) hD (w' := pm_pad y q pP pln u18 po ped pot pnm (-1)) (by rw [← ht15]; exact hB16) (pm_pad_ad _ _ _ _ _ _ _ _ _ _ _ _ _ _ _ _ _ _)
    generalize H1 = H at hP hS ⊢
    rcases h13 with ⟨ps19, rfl, rfl⟩ | ⟨ps19, rfl, rfl⟩
    · exact absurd (ps19 : (0 : Int32) ≤ -1) (by decide)
    · skip
      exact W.zret (ty := .boolean) hx hb hr rfl (fun t ht _ => ⟨⟨_, (pa, -1), rfl, (Or.inr ⟨by assumption, rfl, rfl⟩), (by show va_P D vwCl (pm_pad y q pP pln pa po ped pot pnm (-1)) t.heap; rw [ht]; exact hP)⟩, hS.F ht⟩) hS.2.2 dX1_takeSize_16

set_option maxHeartbeats 4000000 in
set_option maxRecDepth 100000 in
theorem k_X1_takeNumber (l : Launch) (D : va_G) (y : Nat → ClassId) (q : Nat → Nat) (pP : Nat → Nat) (pln pa : Nat) (po ped pot pnm psz : Int32) (hPI : pm_PI pP pln) (hpa : pa ≤ 200) : Met l yX1_takeNumber wsX1_takeNumber ({ frames := 2, cells := 0, slots := 0, locals := 41 } : Room) (pm_wr D (pm_ty y) [.ref (q 0)] (pm_pad y q pP pln pa po ped pot pnm psz)) (pm_Qi D (fun (r : Int32) (u : Nat × Int32) => (∃ e, pm_ne pP pln pa = .inl e ∧ (e, nI (pm_na pP pln pa)) = u ∧ r = nI 1) ∨ (pm_ne pP pln pa = .inr pa ∧ (pa, -1) = u ∧ r = nI 0)) (fun (u : Nat × Int32) => pm_pad y q pP pln u.1 po ped pot u.2 psz) (pm_pad y q pP pln pa po ped pot pnm psz)) 0 0 (pm_ad (pm_pad y q pP pln pa po ped pot pnm psz)) := by
  refine Met.ofW (cc := cX1_takeNumber) (maxL := 2) (ret := (some .boolean)) (by decide) rfl ?_
  intro p e s m args below meth c s₁ B hml hpre
  obtain ⟨rfl, hP, hK, hD0⟩ := hpre
  have hx := B.exec
  have hb := B.bytes
  have hr := B.returns
  have hts := atoms_spec (ws := wsX1_takeNumber) B.pre
  have hown : s.vm.findClass RX1 = some m.cls := findClass_of_methodNamed B.named
  have hlocks := B.notSynchronized
  have hin1 : ∀ w ∈ u_ws RX1 TX1 8, w ∈ wsX1_takeNumber := fun w h => List.mem_cons_of_mem _ (List.mem_append_right _ h)
  have hD := pm_ad_self hD0
  have hS : va_S (pm_ad (pm_pad y q pP pln pa po ped pot pnm psz)) s.heap s.heap [] := va_S.rf
  have hP : va_P D vwCl (pm_pad y q pP pln pa po ped pot pnm psz) s.heap := hP
  have hl := lv_entry ([.ref (q 0)]) (n := 2) (Nat.le_of_ble_eq_true rfl)
  rw [lg_entry_eq]
  generalize (lg_sl ([.ref (q 0)]) ++ List.replicate (2 - (lg_sl ([.ref (q 0)])).length) Slot.unset).toArray = ls at hl ⊢
  have hl : lv_has ls 2 [(0, .ref (q 0))] := hl
  have hln := hPI.1
  refine lv_aload_n hx hb dX1_takeNumber_0 rfl (lv_at hl 0 rfl) ?_
  refine lv_aload_n hx hb dX1_takeNumber_1 rfl (lv_at hl 0 rfl) ?_
  refine vp_callSi (W.runV (As := []) (rest := [.ref (q 0)]) ⟨hx, hb, hml, hown, hts⟩ (k_X1_digitHere l D y q pP pln pa po ped pot pnm psz hPI (by omega)) (cwV 0 hts gX1_takeNumber_X1_digitHere rfl rfl rfl hd_X1_digitHere ⟨Nat.le_of_ble_eq_true rfl, Nat.le_of_ble_eq_true rfl⟩) ⟨pm_ro_blind, va_recv hK hP (ci := 1) (q0 := 0) rfl rfl, pm_ro_pre hP hK⟩ rfl rfl hl.1 rfl (lv_room (Nat.le_of_ble_eq_true rfl)) dX1_takeNumber_2 ⟨Nat.le_of_ble_eq_true rfl, Nat.le_of_ble_eq_true rfl⟩) (fun r1 h2 => ?_)
  rcases h2 with ⟨d3, hd3, ed3, rfl⟩ | ⟨ed3, rfl⟩
  · have := (pm_dg9 ed3).2
    refine kx_put (D := D) (ci := 1) (v := .int (nI d3)) (ty := .int) (ws' := pm_pad y q pP pln pa po ped pot (nI d3) psz) (C := RX1) (T := TX1) (N := 8) hx hb hts hin1 tyX1 tyX1_ok nmX1 hown hK hP hD hS 0 rfl rfl 6 (by decide) (hts (.fieldLink RX1 32 "ProofMarks$Pad" "number" "I") (List.mem_of_getElem? (i := 1) rfl)) (fun _ h9 => h9) rfl (by decide +kernel) rfl rfl (Nat.le_of_ble_eq_true rfl) rfl dX1_takeNumber_5 (fun H locs hP hD hS => ?_)
    refine lv_aload_n hx hb dX1_takeNumber_8 rfl (lv_at hl 0 rfl) ?_
    refine lv_aload_n hx hb dX1_takeNumber_9 rfl (lv_at hl 0 rfl) ?_
    refine va_get (D := D) (ci := 1) (v := .int (nI d3)) (C := RX1) (T := TX1) (N := 8) hx hb hts hin1 hown hK hP 0 rfl rfl 6 (by decide) (hts (.fieldLink RX1 32 "ProofMarks$Pad" "number" "I") (List.mem_of_getElem? (i := 1) rfl)) (fun _ h9 => h9) rfl dX1_takeNumber_10 ?_
    refine va_calli (va_runV (As := [.int (nI d3)]) (rest := []) ⟨hx, hb, hml, hown, hts⟩ (k_X1_pass l D y q pP pln pa po ped pot (nI d3) psz (nI d3) (by omega)) (cwV 1 hts gX1_takeNumber_X1_pass rfl rfl rfl hd_X1_pass ⟨Nat.le_of_ble_eq_true rfl, Nat.le_of_ble_eq_true rfl⟩) ⟨pm_wr_blind, va_recv hK hP (ci := 1) (q0 := 0) rfl rfl, pm_wr_pre hP hK hD⟩ rfl rfl hl.1 rfl (lv_room (Nat.le_of_ble_eq_true rfl)) dX1_takeNumber_13 ⟨Nat.le_of_ble_eq_true rfl, Nat.le_of_ble_eq_true rfl⟩) hS (fun q _ h9 => (pm_ad_all hD) q h9) (pm_ad_all hD) (fun r4 u10 t6 H1 locs ht7 _ h5 hB8 _ hk9 hS => ?_)
    obtain ⟨hP, hD⟩ := pm_all (D := D) (cl := vwCl) (H1 := H1) hD (w' := pm_pad y q pP pln u10 po ped pot (nI d3) psz) (by rw [← ht7]; exact hB8) (pm_pad_ad _ _ _ _ _ _ _ _ _ _ _ _ _ _ _ _ _ _)
    generalize H1 = H at hP hS ⊢
    rcases h5 with ⟨ps11, rfl, rfl⟩ | ⟨ps11, rfl, rfl⟩
    · skip
      refine lv_if_ne (tgt := 21) hx hb dX1_takeNumber_16 (by decide) (fun _ => ?_) (fun c12 => absurd c12 (by decide))
      refine lv_aload_n hx hb dX1_takeNumber_21 rfl (lv_at hl 0 rfl) ?_
      refine vp_callSi (W.runV (As := []) (rest := []) ⟨hx, hb, hml, hown, hts⟩ (k_X1_digitHere l D y q pP pln (pa + 1) po ped pot (nI d3) psz hPI (by omega)) (cwV 0 hts gX1_takeNumber_X1_digitHere rfl rfl rfl hd_X1_digitHere ⟨Nat.le_of_ble_eq_true rfl, Nat.le_of_ble_eq_true rfl⟩) ⟨pm_ro_blind, va_recv hK hP (ci := 1) (q0 := 0) rfl rfl, pm_ro_pre hP hK⟩ rfl rfl hl.1 rfl (lv_room (Nat.le_of_ble_eq_true rfl)) dX1_takeNumber_22 ⟨Nat.le_of_ble_eq_true rfl, Nat.le_of_ble_eq_true rfl⟩) (fun r13 h14 => ?_)
      rcases h14 with ⟨d15, hd15, ed15, rfl⟩ | ⟨ed15, rfl⟩
      · have := (pm_dg9 ed15).2
        refine lv_istore_n (lv' := [(1, .int (nI d15)), (0, .ref (q 0))]) hx hb dX1_takeNumber_25 rfl hl (by decide) rfl (fun ls hl => ?_)
        refine lv_aload_n hx hb dX1_takeNumber_26 rfl (lv_at hl 1 rfl) ?_
        refine va_get (D := D) (ci := 1) (v := .int (nI d3)) (C := RX1) (T := TX1) (N := 8) hx hb hts hin1 hown hK hP 0 rfl rfl 6 (by decide) (hts (.fieldLink RX1 32 "ProofMarks$Pad" "number" "I") (List.mem_of_getElem? (i := 1) rfl)) (fun _ h9 => h9) rfl dX1_takeNumber_27 ?_
        refine kx_if_eq (tgt := 54) hx hb (by omega) dX1_takeNumber_30 (by decide) (fun c16 => ?_) (fun c16 => ?_)
        · skip
          refine lv_iconst (v := nI 1) hx hb dX1_takeNumber_54 (by decide) ?_
          exact W.zret (ty := .boolean) hx hb hr rfl (fun t ht _ => ⟨⟨_, (pa + 1, nI d3), rfl, (Or.inl ⟨pa + 1, pm_ne_1 ed3 (Or.inl (by omega)), by rw [pm_na_1 ed3 (Or.inl (by omega))], rfl⟩), (by show va_P D vwCl (pm_pad y q pP pln (pa + 1) po ped pot (nI d3) psz) t.heap; rw [ht]; exact hP)⟩, hS.F ht⟩) hS.2.2 dX1_takeNumber_55
        · skip
          refine lv_aload_n hx hb dX1_takeNumber_33 rfl (lv_at hl 1 rfl) ?_
          refine lv_iload_n hx hb dX1_takeNumber_34 rfl (lv_at hl 0 rfl) ?_
          refine va_calli (va_runV (As := [.int (nI d15)]) (rest := []) ⟨hx, hb, hml, hown, hts⟩ (k_X1_pass l D y q pP pln (pa + 1) po ped pot (nI d3) psz (nI d15) (by omega)) (cwV 1 hts gX1_takeNumber_X1_pass rfl rfl rfl hd_X1_pass ⟨Nat.le_of_ble_eq_true rfl, Nat.le_of_ble_eq_true rfl⟩) ⟨pm_wr_blind, va_recv hK hP (ci := 1) (q0 := 0) rfl rfl, pm_wr_pre hP hK hD⟩ rfl rfl hl.1 rfl (lv_room (Nat.le_of_ble_eq_true rfl)) dX1_takeNumber_35 ⟨Nat.le_of_ble_eq_true rfl, Nat.le_of_ble_eq_true rfl⟩) hS (fun q _ h9 => (pm_ad_all hD) q h9) (pm_ad_all hD) (fun r17 u23 t19 H1 locs ht20 _ h18 hB21 _ hk22 hS => ?_)
          obtain ⟨hP, hD⟩ := pm_all (D := D) (cl := vwCl) (H1 := H1) hD (w' := pm_pad y q pP pln u23 po ped pot (nI d3) psz) (by rw [← ht20]; exact hB21) (pm_pad_ad _ _ _ _ _ _ _ _ _ _ _ _ _ _ _ _ _ _)
          generalize H1 = H at hP hS ⊢
          rcases h18 with ⟨ps24, rfl, rfl⟩ | ⟨ps24, rfl, rfl⟩
          · skip
            refine lv_if_eq (tgt := 54) hx hb dX1_takeNumber_38 (by decide) (fun c25 => absurd c25 (by decide)) (fun _ => ?_)
            refine lv_aload_n hx hb dX1_takeNumber_41 rfl (lv_at hl 1 rfl) ?_
            refine lv_bipush (v := nI 10) hx hb dX1_takeNumber_42 (by decide) ?_
            refine lv_aload_n hx hb dX1_takeNumber_44 rfl (lv_at hl 1 rfl) ?_
            refine va_get (D := D) (ci := 1) (v := .int (nI d3)) (C := RX1) (T := TX1) (N := 8) hx hb hts hin1 hown hK hP 0 rfl rfl 6 (by decide) (hts (.fieldLink RX1 32 "ProofMarks$Pad" "number" "I") (List.mem_of_getElem? (i := 1) rfl)) (fun _ h9 => h9) rfl dX1_takeNumber_45 ?_
            refine kx_imul hx hb dX1_takeNumber_48 ?_
            refine lv_iload_n hx hb dX1_takeNumber_49 rfl (lv_at hl 0 rfl) ?_
            refine kx_iadd hx hb dX1_takeNumber_50 ?_
            refine kx_put (D := D) (ci := 1) (v := .int (nI ((10 * d3) + d15))) (ty := .int) (ws' := pm_pad y q pP pln ((pa + 1) + 1) po ped pot (nI ((10 * d3) + d15)) psz) (C := RX1) (T := TX1) (N := 8) hx hb hts hin1 tyX1 tyX1_ok nmX1 hown hK hP hD hS 0 rfl rfl 6 (by decide) (hts (.fieldLink RX1 32 "ProofMarks$Pad" "number" "I") (List.mem_of_getElem? (i := 1) rfl)) (fun _ h9 => h9) rfl (by decide +kernel) rfl rfl (Nat.le_of_ble_eq_true rfl) rfl dX1_takeNumber_51 (fun H locs hP hD hS => ?_)
            refine lv_iconst (v := nI 1) hx hb dX1_takeNumber_54 (by decide) ?_
            exact W.zret (ty := .boolean) hx hb hr rfl (fun t ht _ => ⟨⟨_, ((pa + 1) + 1, nI ((10 * d3) + d15)), rfl, (Or.inl ⟨pa + 2, pm_ne_2 ed3 (by omega) ed15, by rw [pm_na_2 ed3 (by omega) ed15], rfl⟩), (by show va_P D vwCl (pm_pad y q pP pln ((pa + 1) + 1) po ped pot (nI ((10 * d3) + d15)) psz) t.heap; rw [ht]; exact hP)⟩, hS.F ht⟩) hS.2.2 dX1_takeNumber_55
          · exact absurd ps24 (nI_pos (by omega))
      · skip
        refine lv_istore_n (lv' := [(1, .int (-1)), (0, .ref (q 0))]) hx hb dX1_takeNumber_25 rfl hl (by decide) rfl (fun ls hl => ?_)
        refine lv_aload_n hx hb dX1_takeNumber_26 rfl (lv_at hl 1 rfl) ?_
        refine va_get (D := D) (ci := 1) (v := .int (nI d3)) (C := RX1) (T := TX1) (N := 8) hx hb hts hin1 hown hK hP 0 rfl rfl 6 (by decide) (hts (.fieldLink RX1 32 "ProofMarks$Pad" "number" "I") (List.mem_of_getElem? (i := 1) rfl)) (fun _ h9 => h9) rfl dX1_takeNumber_27 ?_
        refine kx_if_eq (tgt := 54) hx hb (by omega) dX1_takeNumber_30 (by decide) (fun c26 => ?_) (fun c26 => ?_)
        · skip
          refine lv_iconst (v := nI 1) hx hb dX1_takeNumber_54 (by decide) ?_
          exact W.zret (ty := .boolean) hx hb hr rfl (fun t ht _ => ⟨⟨_, (pa + 1, nI d3), rfl, (Or.inl ⟨pa + 1, pm_ne_1 ed3 (Or.inr ed15), by rw [pm_na_1 ed3 (Or.inr ed15)], rfl⟩), (by show va_P D vwCl (pm_pad y q pP pln (pa + 1) po ped pot (nI d3) psz) t.heap; rw [ht]; exact hP)⟩, hS.F ht⟩) hS.2.2 dX1_takeNumber_55
        · skip
          refine lv_aload_n hx hb dX1_takeNumber_33 rfl (lv_at hl 1 rfl) ?_
          refine lv_iload_n hx hb dX1_takeNumber_34 rfl (lv_at hl 0 rfl) ?_
          refine va_calli (va_runV (As := [.int (-1)]) (rest := []) ⟨hx, hb, hml, hown, hts⟩ (k_X1_pass l D y q pP pln (pa + 1) po ped pot (nI d3) psz (-1) (by omega)) (cwV 1 hts gX1_takeNumber_X1_pass rfl rfl rfl hd_X1_pass ⟨Nat.le_of_ble_eq_true rfl, Nat.le_of_ble_eq_true rfl⟩) ⟨pm_wr_blind, va_recv hK hP (ci := 1) (q0 := 0) rfl rfl, pm_wr_pre hP hK hD⟩ rfl rfl hl.1 rfl (lv_room (Nat.le_of_ble_eq_true rfl)) dX1_takeNumber_35 ⟨Nat.le_of_ble_eq_true rfl, Nat.le_of_ble_eq_true rfl⟩) hS (fun q _ h9 => (pm_ad_all hD) q h9) (pm_ad_all hD) (fun r27 u33 t29 H1 locs ht30 _ h28 hB31 _ hk32 hS => ?_)
          obtain ⟨hP, hD⟩ := pm_all (D := D) (cl := vwCl) (H1 := H1) hD (w' := pm_pad y q pP pln u33 po ped pot (nI d3) psz) (by rw [← ht30]; exact hB31) (pm_pad_ad _ _ _ _ _ _ _ _ _ _ _ _ _ _ _ _ _ _)
          generalize H1 = H at hP hS ⊢
          rcases h28 with ⟨ps34, rfl, rfl⟩ | ⟨ps34, rfl, rfl⟩
          · exact absurd (ps34 : (0 : Int32) ≤ -1) (by decide)
          · skip
            refine lv_if_eq (tgt := 54) hx hb dX1_takeNumber_38 (by decide) (fun _ => ?_) (fun c35 => (c35 (by decide)).elim)
            refine lv_iconst (v := nI 1) hx hb dX1_takeNumber_54 (by decide) ?_
            exact W.zret (ty := .boolean) hx hb hr rfl (fun t ht _ => ⟨⟨_, (pa + 1, nI d3), rfl, (Or.inl ⟨pa + 1, pm_ne_1 ed3 (Or.inr ed15), by rw [pm_na_1 ed3 (Or.inr ed15)], rfl⟩), (by show va_P D vwCl (pm_pad y q pP pln (pa + 1) po ped pot (nI d3) psz) t.heap; rw [ht]; exact hP)⟩, hS.F ht⟩) hS.2.2 dX1_takeNumber_55
    · exact absurd ps11 (nI_pos (by omega))
  · skip
    refine kx_put (D := D) (ci := 1) (v := .int (-1)) (ty := .int) (ws' := pm_pad y q pP pln pa po ped pot (-1) psz) (C := RX1) (T := TX1) (N := 8) hx hb hts hin1 tyX1 tyX1_ok nmX1 hown hK hP hD hS 0 rfl rfl 6 (by decide) (hts (.fieldLink RX1 32 "ProofMarks$Pad" "number" "I") (List.mem_of_getElem? (i := 1) rfl)) (fun _ h9 => h9) rfl (by decide +kernel) rfl rfl (Nat.le_of_ble_eq_true rfl) rfl dX1_takeNumber_5 (fun H locs hP hD hS => ?_)
    refine lv_aload_n hx hb dX1_takeNumber_8 rfl (lv_at hl 0 rfl) ?_
    refine lv_aload_n hx hb dX1_takeNumber_9 rfl (lv_at hl 0 rfl) ?_
    refine va_get (D := D) (ci := 1) (v := .int (-1)) (C := RX1) (T := TX1) (N := 8) hx hb hts hin1 hown hK hP 0 rfl rfl 6 (by decide) (hts (.fieldLink RX1 32 "ProofMarks$Pad" "number" "I") (List.mem_of_getElem? (i := 1) rfl)) (fun _ h9 => h9) rfl dX1_takeNumber_10 ?_
    refine va_calli (va_runV (As := [.int (-1)]) (rest := []) ⟨hx, hb, hml, hown, hts⟩ (k_X1_pass l D y q pP pln pa po ped pot (-1) psz (-1) (by omega)) (cwV 1 hts gX1_takeNumber_X1_pass rfl rfl rfl hd_X1_pass ⟨Nat.le_of_ble_eq_true rfl, Nat.le_of_ble_eq_true rfl⟩) ⟨pm_wr_blind, va_recv hK hP (ci := 1) (q0 := 0) rfl rfl, pm_wr_pre hP hK hD⟩ rfl rfl hl.1 rfl (lv_room (Nat.le_of_ble_eq_true rfl)) dX1_takeNumber_13 ⟨Nat.le_of_ble_eq_true rfl, Nat.le_of_ble_eq_true rfl⟩) hS (fun q _ h9 => (pm_ad_all hD) q h9) (pm_ad_all hD) (fun r36 u42 t38 H1 locs ht39 _ h37 hB40 _ hk41 hS => ?_)
    obtain ⟨hP, hD⟩ := pm_all (D := D) (cl := vwCl) (H1 := H1) hD (w' := pm_pad y q pP pln u42 po ped pot (-1) psz) (by rw [← ht39]; exact hB40) (pm_pad_ad _ _ _ _ _ _ _ _ _ _ _ _ _ _ _ _ _ _)
    generalize H1 = H at hP hS ⊢
    rcases h37 with ⟨ps43, rfl, rfl⟩ | ⟨ps43, rfl, rfl⟩
    · exact absurd (ps43 : (0 : Int32) ≤ -1) (by decide)
    · skip
      refine lv_if_ne (tgt := 21) hx hb dX1_takeNumber_16 (by decide) (fun c44 => (c44 (by decide)).elim) (fun _ => ?_)
      refine lv_iconst (v := nI 0) hx hb dX1_takeNumber_19 (by decide) ?_
      exact W.zret (ty := .boolean) hx hb hr rfl (fun t ht _ => ⟨⟨_, (pa, -1), rfl, (Or.inr ⟨pm_ne_0 (by assumption), rfl, rfl⟩), (by show va_P D vwCl (pm_pad y q pP pln pa po ped pot (-1) psz) t.heap; rw [ht]; exact hP)⟩, hS.F ht⟩) hS.2.2 dX1_takeNumber_20

set_option maxHeartbeats 4000000 in
set_option maxRecDepth 100000 in
theorem k_X1_rewind (l : Launch) (D : va_G) (y : Nat → ClassId) (q : Nat → Nat) (pP : Nat → Nat) (pln pa : Nat) (po ped pot pnm psz : Int32)  : Met l yX1_rewind wsX1_rewind ({ frames := 0, cells := 0, slots := 0, locals := 0 } : Room) (pm_wr D (pm_ty y) [.ref (q 0)] (pm_pad y q pP pln pa po ped pot pnm psz)) (pm_Qv D (fun (_ : Unit) => True) (fun (_ : Unit) => pm_pad y q pP pln 0 po ped pot pnm psz) (pm_pad y q pP pln pa po ped pot pnm psz)) 0 0 (pm_ad (pm_pad y q pP pln pa po ped pot pnm psz)) := by
  refine Met.ofW (cc := cX1_rewind) (maxL := 1) (ret := none) (by decide) rfl ?_
  intro p e s m args below meth c s₁ B hml hpre
  obtain ⟨rfl, hP, hK, hD0⟩ := hpre
  have hx := B.exec
  have hb := B.bytes
  have hr := B.returns
  have hts := atoms_spec (ws := wsX1_rewind) B.pre
  have hown : s.vm.findClass RX1 = some m.cls := findClass_of_methodNamed B.named
  have hlocks := B.notSynchronized
  have hin1 : ∀ w ∈ u_ws RX1 TX1 8, w ∈ wsX1_rewind := fun w h => List.mem_cons_of_mem _ (List.mem_append_right _ h)
  have hD := pm_ad_self hD0
  have hS : va_S (pm_ad (pm_pad y q pP pln pa po ped pot pnm psz)) s.heap s.heap [] := va_S.rf
  have hP : va_P D vwCl (pm_pad y q pP pln pa po ped pot pnm psz) s.heap := hP
  have hl := lv_entry ([.ref (q 0)]) (n := 1) (Nat.le_of_ble_eq_true rfl)
  rw [lg_entry_eq]
  generalize (lg_sl ([.ref (q 0)]) ++ List.replicate (1 - (lg_sl ([.ref (q 0)])).length) Slot.unset).toArray = ls at hl ⊢
  have hl : lv_has ls 1 [(0, .ref (q 0))] := hl
  refine lv_aload_n hx hb dX1_rewind_0 rfl (lv_at hl 0 rfl) ?_
  refine lv_iconst (v := nI 0) hx hb dX1_rewind_1 (by decide) ?_
  refine kx_put (D := D) (ci := 1) (v := .int (nI 0)) (ty := .int) (ws' := pm_pad y q pP pln 0 po ped pot pnm psz) (C := RX1) (T := TX1) (N := 8) hx hb hts hin1 tyX1 tyX1_ok nmX1 hown hK hP hD hS 0 rfl rfl 2 (by decide) (hts (.fieldLink RX1 19 "ProofMarks$Pad" "at" "I") (List.mem_of_getElem? (i := 1) rfl)) (fun _ h9 => h9) rfl (by decide +kernel) rfl rfl (Nat.le_of_ble_eq_true rfl) rfl dX1_rewind_2 (fun H locs hP hD hS => ?_)
  exact W.vret hx hb hr (fun t ht _ => ⟨⟨(), rfl, trivial, (by show va_P D vwCl (pm_pad y q pP pln 0 po ped pot pnm psz) t.heap; rw [ht]; exact hP)⟩, hS.F ht⟩) hS.2.2 dX1_rewind_5

set_option maxHeartbeats 4000000 in
set_option maxRecDepth 100000 in
theorem k_X1_empty (l : Launch) (D : va_G) (y : Nat → ClassId) (q : Nat → Nat) (pP : Nat → Nat) (pln pa : Nat) (po ped pot pnm psz : Int32)  : Met l yX1_empty wsX1_empty ({ frames := 0, cells := 0, slots := 0, locals := 0 } : Room) (pm_wr D (pm_ty y) [.ref (q 0)] (pm_pad y q pP pln pa po ped pot pnm psz)) (pm_Qi D (fun (r : Int32) (_ : Unit) => r = nI pln) (fun (_ : Unit) => pm_pad y q pP 0 pa po ped pot pnm psz) (pm_pad y q pP pln pa po ped pot pnm psz)) 0 0 (pm_ad (pm_pad y q pP pln pa po ped pot pnm psz)) := by
  refine Met.ofW (cc := cX1_empty) (maxL := 2) (ret := (some .int)) (by decide) rfl ?_
  intro p e s m args below meth c s₁ B hml hpre
  obtain ⟨rfl, hP, hK, hD0⟩ := hpre
  have hx := B.exec
  have hb := B.bytes
  have hr := B.returns
  have hts := atoms_spec (ws := wsX1_empty) B.pre
  have hown : s.vm.findClass RX1 = some m.cls := findClass_of_methodNamed B.named
  have hlocks := B.notSynchronized
  have hin1 : ∀ w ∈ u_ws RX1 TX1 8, w ∈ wsX1_empty := fun w h => List.mem_cons_of_mem _ (List.mem_append_right _ h)
  have hD := pm_ad_self hD0
  have hS : va_S (pm_ad (pm_pad y q pP pln pa po ped pot pnm psz)) s.heap s.heap [] := va_S.rf
  have hP : va_P D vwCl (pm_pad y q pP pln pa po ped pot pnm psz) s.heap := hP
  have hl := lv_entry ([.ref (q 0)]) (n := 2) (Nat.le_of_ble_eq_true rfl)
  rw [lg_entry_eq]
  generalize (lg_sl ([.ref (q 0)]) ++ List.replicate (2 - (lg_sl ([.ref (q 0)])).length) Slot.unset).toArray = ls at hl ⊢
  have hl : lv_has ls 2 [(0, .ref (q 0))] := hl
  refine lv_aload_n hx hb dX1_empty_0 rfl (lv_at hl 0 rfl) ?_
  refine va_get (D := D) (ci := 1) (v := .int (nI pln)) (C := RX1) (T := TX1) (N := 8) hx hb hts hin1 hown hK hP 0 rfl rfl 1 (by decide) (hts (.fieldLink RX1 15 "ProofMarks$Pad" "length" "I") (List.mem_of_getElem? (i := 1) rfl)) (fun _ h9 => h9) rfl dX1_empty_1 ?_
  refine lv_istore_n (lv' := [(1, .int (nI pln)), (0, .ref (q 0))]) hx hb dX1_empty_4 rfl hl (by decide) rfl (fun ls hl => ?_)
  refine lv_aload_n hx hb dX1_empty_5 rfl (lv_at hl 1 rfl) ?_
  refine lv_iconst (v := nI 0) hx hb dX1_empty_6 (by decide) ?_
  refine kx_put (D := D) (ci := 1) (v := .int (nI 0)) (ty := .int) (ws' := pm_pad y q pP 0 pa po ped pot pnm psz) (C := RX1) (T := TX1) (N := 8) hx hb hts hin1 tyX1 tyX1_ok nmX1 hown hK hP hD hS 0 rfl rfl 1 (by decide) (hts (.fieldLink RX1 15 "ProofMarks$Pad" "length" "I") (List.mem_of_getElem? (i := 1) rfl)) (fun _ h9 => h9) rfl (by decide +kernel) rfl rfl (Nat.le_of_ble_eq_true rfl) rfl dX1_empty_7 (fun H locs hP hD hS => ?_)
  refine lv_iload_n hx hb dX1_empty_10 rfl (lv_at hl 0 rfl) ?_
  exact W.iret hx hb hr (fun t ht _ => ⟨⟨_, (), rfl, rfl, (by show va_P D vwCl (pm_pad y q pP 0 pa po ped pot pnm psz) t.heap; rw [ht]; exact hP)⟩, hS.F ht⟩) hS.2.2 dX1_empty_11

theorem pm_bdl (e : Nat) (f : Nat → Nat ⊕ Nat) : pm_bd (.inl e) f = f e := rfl
theorem pm_bdr (e : Nat) (f : Nat → Nat ⊕ Nat) : pm_bd (.inr e) f = .inr e := rfl
theorem pm_nokind {P : Nat → Nat} {ln p : Nat} (h1 : ¬ (p < ln ∧ P p = 116)) (h2 : ¬ (p < ln ∧ P p = 120)) (h3 : ¬ (p < ln ∧ P p = 111)) (h4 : ¬ (p < ln ∧ P p = 97)) (h5 : ¬ (p < ln ∧ P p = 112)) (h6 : ¬ (p < ln ∧ P p = 98)) (h7 : ¬ (p < ln ∧ P p = 114)) : ¬ (pm_sg P ln p = 116 ∨ pm_sg P ln p = 120 ∨ pm_sg P ln p = 111) ∧ ¬ pm_sg P ln p = 97 ∧ ¬ pm_sg P ln p = 114 ∧ ¬ pm_sg P ln p = 112 ∧ ¬ pm_sg P ln p = 98 := by
  have g : ∀ c, 0 < c → ¬ (p < ln ∧ P p = c) → ¬ pm_sg P ln p = c := fun c hc h z => h (pm_sg_c hc z)
  exact ⟨fun z => z.elim (g 116 (by decide) h1) (fun z => z.elim (g 120 (by decide) h2) (g 111 (by decide) h3)), g 97 (by decide) h4, g 114 (by decide) h7, g 112 (by decide) h5, g 98 (by decide) h6⟩
set_option maxHeartbeats 4000000 in
set_option maxRecDepth 100000 in
theorem k_X1_takeOrder (l : Launch) (D : va_G) (y : Nat → ClassId) (q : Nat → Nat) (pP : Nat → Nat) (pln pa : Nat) (po ped pot pnm psz : Int32) (hPI : pm_PI pP pln) (hpa : pa ≤ 100) : Met l yX1_takeOrder wsX1_takeOrder ({ frames := 3, cells := 0, slots := 0, locals := 62 } : Room) (pm_wr D (pm_ty y) [.ref (q 0)] (pm_pad y q pP pln pa po ped pot pnm psz)) (pm_Qi D (fun (r : Int32) (u : Nat × Int32 × Int32 × Int32 × Int32 × Int32) => (pm_oe pP pln pa = .inl u.1 ∧ pm_FS pP pln pa u.2.1 u.2.2.1 u.2.2.2.1 u.2.2.2.2.1 u.2.2.2.2.2 ∧ r = nI 1) ∨ (pm_oe pP pln pa = .inr u.1 ∧ r = nI 0)) (fun (u : Nat × Int32 × Int32 × Int32 × Int32 × Int32) => pm_pad y q pP pln u.1 u.2.1 u.2.2.1 u.2.2.2.1 u.2.2.2.2.1 u.2.2.2.2.2) (pm_pad y q pP pln pa po ped pot pnm psz)) 0 0 (pm_ad (pm_pad y q pP pln pa po ped pot pnm psz)) := by
  refine Met.ofW (cc := cX1_takeOrder) (maxL := 1) (ret := (some .boolean)) (by decide) rfl ?_
  intro p e s m args below meth c s₁ B hml hpre
  obtain ⟨rfl, hP, hK, hD0⟩ := hpre
  have hx := B.exec
  have hb := B.bytes
  have hr := B.returns
  have hts := atoms_spec (ws := wsX1_takeOrder) B.pre
  have hown : s.vm.findClass RX1 = some m.cls := findClass_of_methodNamed B.named
  have hlocks := B.notSynchronized
  have hin1 : ∀ w ∈ u_ws RX1 TX1 8, w ∈ wsX1_takeOrder := fun w h => List.mem_cons_of_mem _ (List.mem_append_right _ h)
  have hD := pm_ad_self hD0
  have hS : va_S (pm_ad (pm_pad y q pP pln pa po ped pot pnm psz)) s.heap s.heap [] := va_S.rf
  have hP : va_P D vwCl (pm_pad y q pP pln pa po ped pot pnm psz) s.heap := hP
  have hl := lv_entry ([.ref (q 0)]) (n := 1) (Nat.le_of_ble_eq_true rfl)
  rw [lg_entry_eq]
  generalize (lg_sl ([.ref (q 0)]) ++ List.replicate (1 - (lg_sl ([.ref (q 0)])).length) Slot.unset).toArray = ls at hl ⊢
  have hl : lv_has ls 1 [(0, .ref (q 0))] := hl
  have hln := hPI.1
  refine lv_aload_n hx hb dX1_takeOrder_0 rfl (lv_at hl 0 rfl) ?_
  refine lv_aload_n hx hb dX1_takeOrder_1 rfl (lv_at hl 0 rfl) ?_
  refine vp_callSi (W.runV (As := []) (rest := [.ref (q 0)]) ⟨hx, hb, hml, hown, hts⟩ (k_X1_here l D y q pP pln pa po ped pot pnm psz hPI (by omega)) (cwV 0 hts gX1_takeOrder_X1_here rfl rfl rfl hd_X1_here ⟨Nat.le_of_ble_eq_true rfl, Nat.le_of_ble_eq_true rfl⟩) ⟨pm_ro_blind, va_recv hK hP (ci := 1) (q0 := 0) rfl rfl, pm_ro_pre hP hK⟩ rfl rfl hl.1 rfl (lv_room (Nat.le_of_ble_eq_true rfl)) dX1_takeOrder_2 ⟨Nat.le_of_ble_eq_true rfl, Nat.le_of_ble_eq_true rfl⟩) (fun r1 h2 => ?_)
  obtain rfl : r1 = nI (pm_sg pP pln pa) := h2
  have := pm_sg_le (P := pP) (ln := pln) (p := pa) hPI
  refine kx_put (D := D) (ci := 1) (v := .int (nI (pm_sg pP pln pa))) (ty := .char) (ws' := pm_pad y q pP pln pa (nI (pm_sg pP pln pa)) ped pot pnm psz) (C := RX1) (T := TX1) (N := 8) hx hb hts hin1 tyX1 tyX1_ok nmX1 hown hK hP hD hS 0 rfl rfl 3 (by decide) (hts (.fieldLink RX1 22 "ProofMarks$Pad" "order" "C") (List.mem_of_getElem? (i := 1) rfl)) (fun _ h9 => h9) rfl (by decide +kernel) (pk_charN (by omega)).1 (pk_charN (by omega)).2 (Nat.le_of_ble_eq_true rfl) rfl dX1_takeOrder_5 (fun H locs hP hD hS => ?_)
  refine lv_aload_n hx hb dX1_takeOrder_8 rfl (lv_at hl 0 rfl) ?_
  refine lv_bipush (v := nI 116) hx hb dX1_takeOrder_9 (by decide) ?_
  refine va_calli (va_runV (As := [.int (nI 116)]) (rest := []) ⟨hx, hb, hml, hown, hts⟩ (k_X1_take l D y q pP pln pa (nI (pm_sg pP pln pa)) ped pot pnm psz 116 hPI (by omega) (by decide) (by decide)) (cwV 1 hts gX1_takeOrder_X1_take rfl rfl rfl hd_X1_take ⟨Nat.le_of_ble_eq_true rfl, Nat.le_of_ble_eq_true rfl⟩) ⟨pm_wr_blind, va_recv hK hP (ci := 1) (q0 := 0) rfl rfl, pm_wr_pre hP hK hD⟩ rfl rfl hl.1 rfl (lv_room (Nat.le_of_ble_eq_true rfl)) dX1_takeOrder_11 ⟨Nat.le_of_ble_eq_true rfl, Nat.le_of_ble_eq_true rfl⟩) hS (fun q _ h9 => (pm_ad_all hD) q h9) (pm_ad_all hD) (fun r3 u9 t5 H1 locs ht6 _ h4 hB7 _ hk8 hS => ?_)
  obtain ⟨hP, hD⟩ := pm_all (D := D) (cl := vwCl) (H1 := H1) hD (w' := pm_pad y q pP pln u9 (nI (pm_sg pP pln pa)) ped pot pnm psz) (by rw [← ht6]; exact hB7) (pm_pad_ad _ _ _ _ _ _ _ _ _ _ _ _ _ _ _ _ _ _)
  generalize H1 = H at hP hS ⊢
  rcases h4 with ⟨tk10, etk10, rfl, rfl⟩ | ⟨tk10, rfl, rfl⟩
  · skip
    refine lv_if_ne (tgt := 35) hx hb dX1_takeOrder_14 (by decide) (fun _ => ?_) (fun c11 => absurd c11 (by decide))
    refine lv_aload_n hx hb dX1_takeOrder_35 rfl (lv_at hl 0 rfl) ?_
    refine va_calli (va_runV (As := []) (rest := []) ⟨hx, hb, hml, hown, hts⟩ (k_X1_takeEditor l D y q pP pln (pa + 1) (nI (pm_sg pP pln pa)) ped pot pnm psz hPI (by omega)) (cwV 0 hts gX1_takeOrder_X1_takeEditor rfl rfl rfl hd_X1_takeEditor ⟨Nat.le_of_ble_eq_true rfl, Nat.le_of_ble_eq_true rfl⟩) ⟨pm_wr_blind, va_recv hK hP (ci := 1) (q0 := 0) rfl rfl, pm_wr_pre hP hK hD⟩ rfl rfl hl.1 rfl (lv_room (Nat.le_of_ble_eq_true rfl)) dX1_takeOrder_36 ⟨Nat.le_of_ble_eq_true rfl, Nat.le_of_ble_eq_true rfl⟩) hS (fun q _ h9 => (pm_ad_all hD) q h9) (pm_ad_all hD) (fun r12 u18 t14 H1 locs ht15 _ h13 hB16 _ hk17 hS => ?_)
    obtain ⟨hP, hD⟩ := pm_all (D := D) (cl := vwCl) (H1 := H1) hD (w' := pm_pad y q pP pln u18.1 (nI (pm_sg pP pln pa)) u18.2 pot pnm psz) (by rw [← ht15]; exact hB16) (pm_pad_ad _ _ _ _ _ _ _ _ _ _ _ _ _ _ _ _ _ _)
    generalize H1 = H at hP hS ⊢
    rcases h13 with ⟨d19, hd19, ed19, rfl, rfl⟩ | ⟨ed19, rfl, rfl⟩
    · have := (pm_dg9 ed19).2
      refine lv_if_eq (tgt := 62) hx hb dX1_takeOrder_39 (by decide) (fun c20 => absurd c20 (by decide)) (fun _ => ?_)
      refine lv_aload_n hx hb dX1_takeOrder_42 rfl (lv_at hl 0 rfl) ?_
      refine lv_bipush (v := nI 46) hx hb dX1_takeOrder_43 (by decide) ?_
      refine va_calli (va_runV (As := [.int (nI 46)]) (rest := []) ⟨hx, hb, hml, hown, hts⟩ (k_X1_take l D y q pP pln ((pa + 1) + 1) (nI (pm_sg pP pln pa)) (nI d19) pot pnm psz 46 hPI (by omega) (by decide) (by decide)) (cwV 1 hts gX1_takeOrder_X1_take rfl rfl rfl hd_X1_take ⟨Nat.le_of_ble_eq_true rfl, Nat.le_of_ble_eq_true rfl⟩) ⟨pm_wr_blind, va_recv hK hP (ci := 1) (q0 := 0) rfl rfl, pm_wr_pre hP hK hD⟩ rfl rfl hl.1 rfl (lv_room (Nat.le_of_ble_eq_true rfl)) dX1_takeOrder_45 ⟨Nat.le_of_ble_eq_true rfl, Nat.le_of_ble_eq_true rfl⟩) hS (fun q _ h9 => (pm_ad_all hD) q h9) (pm_ad_all hD) (fun r21 u27 t23 H1 locs ht24 _ h22 hB25 _ hk26 hS => ?_)
      obtain ⟨hP, hD⟩ := pm_all (D := D) (cl := vwCl) (H1 := H1) hD (w' := pm_pad y q pP pln u27 (nI (pm_sg pP pln pa)) (nI d19) pot pnm psz) (by rw [← ht24]; exact hB25) (pm_pad_ad _ _ _ _ _ _ _ _ _ _ _ _ _ _ _ _ _ _)
      generalize H1 = H at hP hS ⊢
      rcases h22 with ⟨tk28, etk28, rfl, rfl⟩ | ⟨tk28, rfl, rfl⟩
      · skip
        refine lv_if_eq (tgt := 62) hx hb dX1_takeOrder_48 (by decide) (fun c29 => absurd c29 (by decide)) (fun _ => ?_)
        refine lv_aload_n hx hb dX1_takeOrder_51 rfl (lv_at hl 0 rfl) ?_
        refine va_calli (va_runV (As := []) (rest := []) ⟨hx, hb, hml, hown, hts⟩ (k_X1_takeNumber l D y q pP pln (((pa + 1) + 1) + 1) (nI (pm_sg pP pln pa)) (nI d19) pot pnm psz hPI (by omega)) (cwV 0 hts gX1_takeOrder_X1_takeNumber rfl rfl rfl hd_X1_takeNumber ⟨Nat.le_of_ble_eq_true rfl, Nat.le_of_ble_eq_true rfl⟩) ⟨pm_wr_blind, va_recv hK hP (ci := 1) (q0 := 0) rfl rfl, pm_wr_pre hP hK hD⟩ rfl rfl hl.1 rfl (lv_room (Nat.le_of_ble_eq_true rfl)) dX1_takeOrder_52 ⟨Nat.le_of_ble_eq_true rfl, Nat.le_of_ble_eq_true rfl⟩) hS (fun q _ h9 => (pm_ad_all hD) q h9) (pm_ad_all hD) (fun r30 u36 t32 H1 locs ht33 _ h31 hB34 _ hk35 hS => ?_)
        obtain ⟨hP, hD⟩ := pm_all (D := D) (cl := vwCl) (H1 := H1) hD (w' := pm_pad y q pP pln u36.1 (nI (pm_sg pP pln pa)) (nI d19) pot u36.2 psz) (by rw [← ht33]; exact hB34) (pm_pad_ad _ _ _ _ _ _ _ _ _ _ _ _ _ _ _ _ _ _)
        generalize H1 = H at hP hS ⊢
        rcases h31 with ⟨en37, hen37, rfl, rfl⟩ | ⟨hen37, rfl, rfl⟩
        · have := pm_ne_l hen37
          refine lv_if_eq (tgt := 62) hx hb dX1_takeOrder_55 (by decide) (fun c38 => absurd c38 (by decide)) (fun _ => ?_)
          refine lv_iconst (v := nI 1) hx hb dX1_takeOrder_58 (by decide) ?_
          refine lv_goto (tgt := 63) hx hb dX1_takeOrder_59 (by decide) ?_
          exact W.zret (ty := .boolean) hx hb hr rfl (fun t ht _ => ⟨⟨_, (en37, nI (pm_sg pP pln pa), nI d19, pot, nI (pm_na pP pln (((pa + 1) + 1) + 1)), psz), rfl, (Or.inl ⟨(by have hsg : pm_sg pP pln pa = 116 := (pm_sg_t tk10).trans etk10; unfold pm_oe; rw [hsg, if_pos (by decide)]; simp only [pm_bdl, pm_bdr, pm_de_1 ed19, pm_bh_1 tk28 etk28, hen37]), ⟨(congrArg nI (pm_sg_t tk10)), (fun _ => ⟨by rw [pm_d_s ed19], rfl⟩), (fun z => by exfalso; rw [etk10] at z; revert z; decide), (fun z => by exfalso; rw [etk10] at z; revert z; decide), (fun z => by exfalso; rw [etk10] at z; revert z; decide)⟩, rfl⟩), (by show va_P D vwCl (pm_pad y q pP pln en37 (nI (pm_sg pP pln pa)) (nI d19) pot (nI (pm_na pP pln (((pa + 1) + 1) + 1))) psz) t.heap; rw [ht]; exact hP)⟩, hS.F ht⟩) hS.2.2 dX1_takeOrder_63
        · skip
          refine lv_if_eq (tgt := 62) hx hb dX1_takeOrder_55 (by decide) (fun _ => ?_) (fun c39 => (c39 (by decide)).elim)
          refine lv_iconst (v := nI 0) hx hb dX1_takeOrder_62 (by decide) ?_
          exact W.zret (ty := .boolean) hx hb hr rfl (fun t ht _ => ⟨⟨_, (((pa + 1) + 1) + 1, nI (pm_sg pP pln pa), nI d19, pot, -1, psz), rfl, (Or.inr ⟨(by have hsg : pm_sg pP pln pa = 116 := (pm_sg_t tk10).trans etk10; unfold pm_oe; rw [hsg, if_pos (by decide)]; simp only [pm_bdl, pm_bdr, pm_de_1 ed19, pm_bh_1 tk28 etk28, hen37]), rfl⟩), (by show va_P D vwCl (pm_pad y q pP pln (((pa + 1) + 1) + 1) (nI (pm_sg pP pln pa)) (nI d19) pot (-1) psz) t.heap; rw [ht]; exact hP)⟩, hS.F ht⟩) hS.2.2 dX1_takeOrder_63
      · skip
        refine lv_if_eq (tgt := 62) hx hb dX1_takeOrder_48 (by decide) (fun _ => ?_) (fun c40 => (c40 (by decide)).elim)
        refine lv_iconst (v := nI 0) hx hb dX1_takeOrder_62 (by decide) ?_
        exact W.zret (ty := .boolean) hx hb hr rfl (fun t ht _ => ⟨⟨_, ((pa + 1) + 1, nI (pm_sg pP pln pa), nI d19, pot, pnm, psz), rfl, (Or.inr ⟨(by have hsg : pm_sg pP pln pa = 116 := (pm_sg_t tk10).trans etk10; unfold pm_oe; rw [hsg, if_pos (by decide)]; simp only [pm_bdl, pm_bdr, pm_de_1 ed19, pm_bh_0 tk28]), rfl⟩), (by show va_P D vwCl (pm_pad y q pP pln ((pa + 1) + 1) (nI (pm_sg pP pln pa)) (nI d19) pot pnm psz) t.heap; rw [ht]; exact hP)⟩, hS.F ht⟩) hS.2.2 dX1_takeOrder_63
    · skip
      refine lv_if_eq (tgt := 62) hx hb dX1_takeOrder_39 (by decide) (fun _ => ?_) (fun c41 => (c41 (by decide)).elim)
      refine lv_iconst (v := nI 0) hx hb dX1_takeOrder_62 (by decide) ?_
      exact W.zret (ty := .boolean) hx hb hr rfl (fun t ht _ => ⟨⟨_, (pa + 1, nI (pm_sg pP pln pa), -1, pot, pnm, psz), rfl, (Or.inr ⟨(by have hsg : pm_sg pP pln pa = 116 := (pm_sg_t tk10).trans etk10; unfold pm_oe; rw [hsg, if_pos (by decide)]; simp only [pm_bdl, pm_bdr, pm_de_0 ed19]), rfl⟩), (by show va_P D vwCl (pm_pad y q pP pln (pa + 1) (nI (pm_sg pP pln pa)) (-1) pot pnm psz) t.heap; rw [ht]; exact hP)⟩, hS.F ht⟩) hS.2.2 dX1_takeOrder_63
  · skip
    refine lv_if_ne (tgt := 35) hx hb dX1_takeOrder_14 (by decide) (fun c42 => (c42 (by decide)).elim) (fun _ => ?_)
    refine lv_aload_n hx hb dX1_takeOrder_17 rfl (lv_at hl 0 rfl) ?_
    refine lv_bipush (v := nI 120) hx hb dX1_takeOrder_18 (by decide) ?_
    refine va_calli (va_runV (As := [.int (nI 120)]) (rest := []) ⟨hx, hb, hml, hown, hts⟩ (k_X1_take l D y q pP pln pa (nI (pm_sg pP pln pa)) ped pot pnm psz 120 hPI (by omega) (by decide) (by decide)) (cwV 1 hts gX1_takeOrder_X1_take rfl rfl rfl hd_X1_take ⟨Nat.le_of_ble_eq_true rfl, Nat.le_of_ble_eq_true rfl⟩) ⟨pm_wr_blind, va_recv hK hP (ci := 1) (q0 := 0) rfl rfl, pm_wr_pre hP hK hD⟩ rfl rfl hl.1 rfl (lv_room (Nat.le_of_ble_eq_true rfl)) dX1_takeOrder_20 ⟨Nat.le_of_ble_eq_true rfl, Nat.le_of_ble_eq_true rfl⟩) hS (fun q _ h9 => (pm_ad_all hD) q h9) (pm_ad_all hD) (fun r43 u49 t45 H1 locs ht46 _ h44 hB47 _ hk48 hS => ?_)
    obtain ⟨hP, hD⟩ := pm_all (D := D) (cl := vwCl) (H1 := H1) hD (w' := pm_pad y q pP pln u49 (nI (pm_sg pP pln pa)) ped pot pnm psz) (by rw [← ht46]; exact hB47) (pm_pad_ad _ _ _ _ _ _ _ _ _ _ _ _ _ _ _ _ _ _)
    generalize H1 = H at hP hS ⊢
    rcases h44 with ⟨tk50, etk50, rfl, rfl⟩ | ⟨tk50, rfl, rfl⟩
    · skip
      refine lv_if_ne (tgt := 35) hx hb dX1_takeOrder_23 (by decide) (fun _ => ?_) (fun c51 => absurd c51 (by decide))
      refine lv_aload_n hx hb dX1_takeOrder_35 rfl (lv_at hl 0 rfl) ?_
      refine va_calli (va_runV (As := []) (rest := []) ⟨hx, hb, hml, hown, hts⟩ (k_X1_takeEditor l D y q pP pln (pa + 1) (nI (pm_sg pP pln pa)) ped pot pnm psz hPI (by omega)) (cwV 0 hts gX1_takeOrder_X1_takeEditor rfl rfl rfl hd_X1_takeEditor ⟨Nat.le_of_ble_eq_true rfl, Nat.le_of_ble_eq_true rfl⟩) ⟨pm_wr_blind, va_recv hK hP (ci := 1) (q0 := 0) rfl rfl, pm_wr_pre hP hK hD⟩ rfl rfl hl.1 rfl (lv_room (Nat.le_of_ble_eq_true rfl)) dX1_takeOrder_36 ⟨Nat.le_of_ble_eq_true rfl, Nat.le_of_ble_eq_true rfl⟩) hS (fun q _ h9 => (pm_ad_all hD) q h9) (pm_ad_all hD) (fun r52 u58 t54 H1 locs ht55 _ h53 hB56 _ hk57 hS => ?_)
      obtain ⟨hP, hD⟩ := pm_all (D := D) (cl := vwCl) (H1 := H1) hD (w' := pm_pad y q pP pln u58.1 (nI (pm_sg pP pln pa)) u58.2 pot pnm psz) (by rw [← ht55]; exact hB56) (pm_pad_ad _ _ _ _ _ _ _ _ _ _ _ _ _ _ _ _ _ _)
      generalize H1 = H at hP hS ⊢
      rcases h53 with ⟨d59, hd59, ed59, rfl, rfl⟩ | ⟨ed59, rfl, rfl⟩
      · have := (pm_dg9 ed59).2
        refine lv_if_eq (tgt := 62) hx hb dX1_takeOrder_39 (by decide) (fun c60 => absurd c60 (by decide)) (fun _ => ?_)
        refine lv_aload_n hx hb dX1_takeOrder_42 rfl (lv_at hl 0 rfl) ?_
        refine lv_bipush (v := nI 46) hx hb dX1_takeOrder_43 (by decide) ?_
        refine va_calli (va_runV (As := [.int (nI 46)]) (rest := []) ⟨hx, hb, hml, hown, hts⟩ (k_X1_take l D y q pP pln ((pa + 1) + 1) (nI (pm_sg pP pln pa)) (nI d59) pot pnm psz 46 hPI (by omega) (by decide) (by decide)) (cwV 1 hts gX1_takeOrder_X1_take rfl rfl rfl hd_X1_take ⟨Nat.le_of_ble_eq_true rfl, Nat.le_of_ble_eq_true rfl⟩) ⟨pm_wr_blind, va_recv hK hP (ci := 1) (q0 := 0) rfl rfl, pm_wr_pre hP hK hD⟩ rfl rfl hl.1 rfl (lv_room (Nat.le_of_ble_eq_true rfl)) dX1_takeOrder_45 ⟨Nat.le_of_ble_eq_true rfl, Nat.le_of_ble_eq_true rfl⟩) hS (fun q _ h9 => (pm_ad_all hD) q h9) (pm_ad_all hD) (fun r61 u67 t63 H1 locs ht64 _ h62 hB65 _ hk66 hS => ?_)
        obtain ⟨hP, hD⟩ := pm_all (D := D) (cl := vwCl) (H1 := H1) hD (w' := pm_pad y q pP pln u67 (nI (pm_sg pP pln pa)) (nI d59) pot pnm psz) (by rw [← ht64]; exact hB65) (pm_pad_ad _ _ _ _ _ _ _ _ _ _ _ _ _ _ _ _ _ _)
        generalize H1 = H at hP hS ⊢
        rcases h62 with ⟨tk68, etk68, rfl, rfl⟩ | ⟨tk68, rfl, rfl⟩
        · skip
          refine lv_if_eq (tgt := 62) hx hb dX1_takeOrder_48 (by decide) (fun c69 => absurd c69 (by decide)) (fun _ => ?_)
          refine lv_aload_n hx hb dX1_takeOrder_51 rfl (lv_at hl 0 rfl) ?_
          refine va_calli (va_runV (As := []) (rest := []) ⟨hx, hb, hml, hown, hts⟩ (k_X1_takeNumber l D y q pP pln (((pa + 1) + 1) + 1) (nI (pm_sg pP pln pa)) (nI d59) pot pnm psz hPI (by omega)) (cwV 0 hts gX1_takeOrder_X1_takeNumber rfl rfl rfl hd_X1_takeNumber ⟨Nat.le_of_ble_eq_true rfl, Nat.le_of_ble_eq_true rfl⟩) ⟨pm_wr_blind, va_recv hK hP (ci := 1) (q0 := 0) rfl rfl, pm_wr_pre hP hK hD⟩ rfl rfl hl.1 rfl (lv_room (Nat.le_of_ble_eq_true rfl)) dX1_takeOrder_52 ⟨Nat.le_of_ble_eq_true rfl, Nat.le_of_ble_eq_true rfl⟩) hS (fun q _ h9 => (pm_ad_all hD) q h9) (pm_ad_all hD) (fun r70 u76 t72 H1 locs ht73 _ h71 hB74 _ hk75 hS => ?_)
          obtain ⟨hP, hD⟩ := pm_all (D := D) (cl := vwCl) (H1 := H1) hD (w' := pm_pad y q pP pln u76.1 (nI (pm_sg pP pln pa)) (nI d59) pot u76.2 psz) (by rw [← ht73]; exact hB74) (pm_pad_ad _ _ _ _ _ _ _ _ _ _ _ _ _ _ _ _ _ _)
          generalize H1 = H at hP hS ⊢
          rcases h71 with ⟨en77, hen77, rfl, rfl⟩ | ⟨hen77, rfl, rfl⟩
          · have := pm_ne_l hen77
            refine lv_if_eq (tgt := 62) hx hb dX1_takeOrder_55 (by decide) (fun c78 => absurd c78 (by decide)) (fun _ => ?_)
            refine lv_iconst (v := nI 1) hx hb dX1_takeOrder_58 (by decide) ?_
            refine lv_goto (tgt := 63) hx hb dX1_takeOrder_59 (by decide) ?_
            exact W.zret (ty := .boolean) hx hb hr rfl (fun t ht _ => ⟨⟨_, (en77, nI (pm_sg pP pln pa), nI d59, pot, nI (pm_na pP pln (((pa + 1) + 1) + 1)), psz), rfl, (Or.inl ⟨(by have hsg : pm_sg pP pln pa = 120 := (pm_sg_t tk50).trans etk50; unfold pm_oe; rw [hsg, if_pos (by decide)]; simp only [pm_bdl, pm_bdr, pm_de_1 ed59, pm_bh_1 tk68 etk68, hen77]), ⟨(congrArg nI (pm_sg_t tk50)), (fun _ => ⟨by rw [pm_d_s ed59], rfl⟩), (fun z => by exfalso; rw [etk50] at z; revert z; decide), (fun z => by exfalso; rw [etk50] at z; revert z; decide), (fun z => by exfalso; rw [etk50] at z; revert z; decide)⟩, rfl⟩), (by show va_P D vwCl (pm_pad y q pP pln en77 (nI (pm_sg pP pln pa)) (nI d59) pot (nI (pm_na pP pln (((pa + 1) + 1) + 1))) psz) t.heap; rw [ht]; exact hP)⟩, hS.F ht⟩) hS.2.2 dX1_takeOrder_63
          · skip
            refine lv_if_eq (tgt := 62) hx hb dX1_takeOrder_55 (by decide) (fun _ => ?_) (fun c79 => (c79 (by decide)).elim)
            refine lv_iconst (v := nI 0) hx hb dX1_takeOrder_62 (by decide) ?_
            exact W.zret (ty := .boolean) hx hb hr rfl (fun t ht _ => ⟨⟨_, (((pa + 1) + 1) + 1, nI (pm_sg pP pln pa), nI d59, pot, -1, psz), rfl, (Or.inr ⟨(by have hsg : pm_sg pP pln pa = 120 := (pm_sg_t tk50).trans etk50; unfold pm_oe; rw [hsg, if_pos (by decide)]; simp only [pm_bdl, pm_bdr, pm_de_1 ed59, pm_bh_1 tk68 etk68, hen77]), rfl⟩), (by show va_P D vwCl (pm_pad y q pP pln (((pa + 1) + 1) + 1) (nI (pm_sg pP pln pa)) (nI d59) pot (-1) psz) t.heap; rw [ht]; exact hP)⟩, hS.F ht⟩) hS.2.2 dX1_takeOrder_63
        · skip
          refine lv_if_eq (tgt := 62) hx hb dX1_takeOrder_48 (by decide) (fun _ => ?_) (fun c80 => (c80 (by decide)).elim)
          refine lv_iconst (v := nI 0) hx hb dX1_takeOrder_62 (by decide) ?_
          exact W.zret (ty := .boolean) hx hb hr rfl (fun t ht _ => ⟨⟨_, ((pa + 1) + 1, nI (pm_sg pP pln pa), nI d59, pot, pnm, psz), rfl, (Or.inr ⟨(by have hsg : pm_sg pP pln pa = 120 := (pm_sg_t tk50).trans etk50; unfold pm_oe; rw [hsg, if_pos (by decide)]; simp only [pm_bdl, pm_bdr, pm_de_1 ed59, pm_bh_0 tk68]), rfl⟩), (by show va_P D vwCl (pm_pad y q pP pln ((pa + 1) + 1) (nI (pm_sg pP pln pa)) (nI d59) pot pnm psz) t.heap; rw [ht]; exact hP)⟩, hS.F ht⟩) hS.2.2 dX1_takeOrder_63
      · skip
        refine lv_if_eq (tgt := 62) hx hb dX1_takeOrder_39 (by decide) (fun _ => ?_) (fun c81 => (c81 (by decide)).elim)
        refine lv_iconst (v := nI 0) hx hb dX1_takeOrder_62 (by decide) ?_
        exact W.zret (ty := .boolean) hx hb hr rfl (fun t ht _ => ⟨⟨_, (pa + 1, nI (pm_sg pP pln pa), -1, pot, pnm, psz), rfl, (Or.inr ⟨(by have hsg : pm_sg pP pln pa = 120 := (pm_sg_t tk50).trans etk50; unfold pm_oe; rw [hsg, if_pos (by decide)]; simp only [pm_bdl, pm_bdr, pm_de_0 ed59]), rfl⟩), (by show va_P D vwCl (pm_pad y q pP pln (pa + 1) (nI (pm_sg pP pln pa)) (-1) pot pnm psz) t.heap; rw [ht]; exact hP)⟩, hS.F ht⟩) hS.2.2 dX1_takeOrder_63
    · skip
      refine lv_if_ne (tgt := 35) hx hb dX1_takeOrder_23 (by decide) (fun c82 => (c82 (by decide)).elim) (fun _ => ?_)
      refine lv_aload_n hx hb dX1_takeOrder_26 rfl (lv_at hl 0 rfl) ?_
      refine lv_bipush (v := nI 111) hx hb dX1_takeOrder_27 (by decide) ?_
      refine va_calli (va_runV (As := [.int (nI 111)]) (rest := []) ⟨hx, hb, hml, hown, hts⟩ (k_X1_take l D y q pP pln pa (nI (pm_sg pP pln pa)) ped pot pnm psz 111 hPI (by omega) (by decide) (by decide)) (cwV 1 hts gX1_takeOrder_X1_take rfl rfl rfl hd_X1_take ⟨Nat.le_of_ble_eq_true rfl, Nat.le_of_ble_eq_true rfl⟩) ⟨pm_wr_blind, va_recv hK hP (ci := 1) (q0 := 0) rfl rfl, pm_wr_pre hP hK hD⟩ rfl rfl hl.1 rfl (lv_room (Nat.le_of_ble_eq_true rfl)) dX1_takeOrder_29 ⟨Nat.le_of_ble_eq_true rfl, Nat.le_of_ble_eq_true rfl⟩) hS (fun q _ h9 => (pm_ad_all hD) q h9) (pm_ad_all hD) (fun r83 u89 t85 H1 locs ht86 _ h84 hB87 _ hk88 hS => ?_)
      obtain ⟨hP, hD⟩ := pm_all (D := D) (cl := vwCl) (H1 := H1) hD (w' := pm_pad y q pP pln u89 (nI (pm_sg pP pln pa)) ped pot pnm psz) (by rw [← ht86]; exact hB87) (pm_pad_ad _ _ _ _ _ _ _ _ _ _ _ _ _ _ _ _ _ _)
      generalize H1 = H at hP hS ⊢
      rcases h84 with ⟨tk90, etk90, rfl, rfl⟩ | ⟨tk90, rfl, rfl⟩
      · skip
        refine lv_if_eq (tgt := 64) hx hb dX1_takeOrder_32 (by decide) (fun c91 => absurd c91 (by decide)) (fun _ => ?_)
        refine lv_aload_n hx hb dX1_takeOrder_35 rfl (lv_at hl 0 rfl) ?_
        refine va_calli (va_runV (As := []) (rest := []) ⟨hx, hb, hml, hown, hts⟩ (k_X1_takeEditor l D y q pP pln (pa + 1) (nI (pm_sg pP pln pa)) ped pot pnm psz hPI (by omega)) (cwV 0 hts gX1_takeOrder_X1_takeEditor rfl rfl rfl hd_X1_takeEditor ⟨Nat.le_of_ble_eq_true rfl, Nat.le_of_ble_eq_true rfl⟩) ⟨pm_wr_blind, va_recv hK hP (ci := 1) (q0 := 0) rfl rfl, pm_wr_pre hP hK hD⟩ rfl rfl hl.1 rfl (lv_room (Nat.le_of_ble_eq_true rfl)) dX1_takeOrder_36 ⟨Nat.le_of_ble_eq_true rfl, Nat.le_of_ble_eq_true rfl⟩) hS (fun q _ h9 => (pm_ad_all hD) q h9) (pm_ad_all hD) (fun r92 u98 t94 H1 locs ht95 _ h93 hB96 _ hk97 hS => ?_)
        obtain ⟨hP, hD⟩ := pm_all (D := D) (cl := vwCl) (H1 := H1) hD (w' := pm_pad y q pP pln u98.1 (nI (pm_sg pP pln pa)) u98.2 pot pnm psz) (by rw [← ht95]; exact hB96) (pm_pad_ad _ _ _ _ _ _ _ _ _ _ _ _ _ _ _ _ _ _)
        generalize H1 = H at hP hS ⊢
        rcases h93 with ⟨d99, hd99, ed99, rfl, rfl⟩ | ⟨ed99, rfl, rfl⟩
        · have := (pm_dg9 ed99).2
          refine lv_if_eq (tgt := 62) hx hb dX1_takeOrder_39 (by decide) (fun c100 => absurd c100 (by decide)) (fun _ => ?_)
          refine lv_aload_n hx hb dX1_takeOrder_42 rfl (lv_at hl 0 rfl) ?_
          refine lv_bipush (v := nI 46) hx hb dX1_takeOrder_43 (by decide) ?_
          refine va_calli (va_runV (As := [.int (nI 46)]) (rest := []) ⟨hx, hb, hml, hown, hts⟩ (k_X1_take l D y q pP pln ((pa + 1) + 1) (nI (pm_sg pP pln pa)) (nI d99) pot pnm psz 46 hPI (by omega) (by decide) (by decide)) (cwV 1 hts gX1_takeOrder_X1_take rfl rfl rfl hd_X1_take ⟨Nat.le_of_ble_eq_true rfl, Nat.le_of_ble_eq_true rfl⟩) ⟨pm_wr_blind, va_recv hK hP (ci := 1) (q0 := 0) rfl rfl, pm_wr_pre hP hK hD⟩ rfl rfl hl.1 rfl (lv_room (Nat.le_of_ble_eq_true rfl)) dX1_takeOrder_45 ⟨Nat.le_of_ble_eq_true rfl, Nat.le_of_ble_eq_true rfl⟩) hS (fun q _ h9 => (pm_ad_all hD) q h9) (pm_ad_all hD) (fun r101 u107 t103 H1 locs ht104 _ h102 hB105 _ hk106 hS => ?_)
          obtain ⟨hP, hD⟩ := pm_all (D := D) (cl := vwCl) (H1 := H1) hD (w' := pm_pad y q pP pln u107 (nI (pm_sg pP pln pa)) (nI d99) pot pnm psz) (by rw [← ht104]; exact hB105) (pm_pad_ad _ _ _ _ _ _ _ _ _ _ _ _ _ _ _ _ _ _)
          generalize H1 = H at hP hS ⊢
          rcases h102 with ⟨tk108, etk108, rfl, rfl⟩ | ⟨tk108, rfl, rfl⟩
          · skip
            refine lv_if_eq (tgt := 62) hx hb dX1_takeOrder_48 (by decide) (fun c109 => absurd c109 (by decide)) (fun _ => ?_)
            refine lv_aload_n hx hb dX1_takeOrder_51 rfl (lv_at hl 0 rfl) ?_
            refine va_calli (va_runV (As := []) (rest := []) ⟨hx, hb, hml, hown, hts⟩ (k_X1_takeNumber l D y q pP pln (((pa + 1) + 1) + 1) (nI (pm_sg pP pln pa)) (nI d99) pot pnm psz hPI (by omega)) (cwV 0 hts gX1_takeOrder_X1_takeNumber rfl rfl rfl hd_X1_takeNumber ⟨Nat.le_of_ble_eq_true rfl, Nat.le_of_ble_eq_true rfl⟩) ⟨pm_wr_blind, va_recv hK hP (ci := 1) (q0 := 0) rfl rfl, pm_wr_pre hP hK hD⟩ rfl rfl hl.1 rfl (lv_room (Nat.le_of_ble_eq_true rfl)) dX1_takeOrder_52 ⟨Nat.le_of_ble_eq_true rfl, Nat.le_of_ble_eq_true rfl⟩) hS (fun q _ h9 => (pm_ad_all hD) q h9) (pm_ad_all hD) (fun r110 u116 t112 H1 locs ht113 _ h111 hB114 _ hk115 hS => ?_)
            obtain ⟨hP, hD⟩ := pm_all (D := D) (cl := vwCl) (H1 := H1) hD (w' := pm_pad y q pP pln u116.1 (nI (pm_sg pP pln pa)) (nI d99) pot u116.2 psz) (by rw [← ht113]; exact hB114) (pm_pad_ad _ _ _ _ _ _ _ _ _ _ _ _ _ _ _ _ _ _)
            generalize H1 = H at hP hS ⊢
            rcases h111 with ⟨en117, hen117, rfl, rfl⟩ | ⟨hen117, rfl, rfl⟩
            · have := pm_ne_l hen117
              refine lv_if_eq (tgt := 62) hx hb dX1_takeOrder_55 (by decide) (fun c118 => absurd c118 (by decide)) (fun _ => ?_)
              refine lv_iconst (v := nI 1) hx hb dX1_takeOrder_58 (by decide) ?_
              refine lv_goto (tgt := 63) hx hb dX1_takeOrder_59 (by decide) ?_
              exact W.zret (ty := .boolean) hx hb hr rfl (fun t ht _ => ⟨⟨_, (en117, nI (pm_sg pP pln pa), nI d99, pot, nI (pm_na pP pln (((pa + 1) + 1) + 1)), psz), rfl, (Or.inl ⟨(by have hsg : pm_sg pP pln pa = 111 := (pm_sg_t tk90).trans etk90; unfold pm_oe; rw [hsg, if_pos (by decide)]; simp only [pm_bdl, pm_bdr, pm_de_1 ed99, pm_bh_1 tk108 etk108, hen117]), ⟨(congrArg nI (pm_sg_t tk90)), (fun _ => ⟨by rw [pm_d_s ed99], rfl⟩), (fun z => by exfalso; rw [etk90] at z; revert z; decide), (fun z => by exfalso; rw [etk90] at z; revert z; decide), (fun z => by exfalso; rw [etk90] at z; revert z; decide)⟩, rfl⟩), (by show va_P D vwCl (pm_pad y q pP pln en117 (nI (pm_sg pP pln pa)) (nI d99) pot (nI (pm_na pP pln (((pa + 1) + 1) + 1))) psz) t.heap; rw [ht]; exact hP)⟩, hS.F ht⟩) hS.2.2 dX1_takeOrder_63
            · skip
              refine lv_if_eq (tgt := 62) hx hb dX1_takeOrder_55 (by decide) (fun _ => ?_) (fun c119 => (c119 (by decide)).elim)
              refine lv_iconst (v := nI 0) hx hb dX1_takeOrder_62 (by decide) ?_
              exact W.zret (ty := .boolean) hx hb hr rfl (fun t ht _ => ⟨⟨_, (((pa + 1) + 1) + 1, nI (pm_sg pP pln pa), nI d99, pot, -1, psz), rfl, (Or.inr ⟨(by have hsg : pm_sg pP pln pa = 111 := (pm_sg_t tk90).trans etk90; unfold pm_oe; rw [hsg, if_pos (by decide)]; simp only [pm_bdl, pm_bdr, pm_de_1 ed99, pm_bh_1 tk108 etk108, hen117]), rfl⟩), (by show va_P D vwCl (pm_pad y q pP pln (((pa + 1) + 1) + 1) (nI (pm_sg pP pln pa)) (nI d99) pot (-1) psz) t.heap; rw [ht]; exact hP)⟩, hS.F ht⟩) hS.2.2 dX1_takeOrder_63
          · skip
            refine lv_if_eq (tgt := 62) hx hb dX1_takeOrder_48 (by decide) (fun _ => ?_) (fun c120 => (c120 (by decide)).elim)
            refine lv_iconst (v := nI 0) hx hb dX1_takeOrder_62 (by decide) ?_
            exact W.zret (ty := .boolean) hx hb hr rfl (fun t ht _ => ⟨⟨_, ((pa + 1) + 1, nI (pm_sg pP pln pa), nI d99, pot, pnm, psz), rfl, (Or.inr ⟨(by have hsg : pm_sg pP pln pa = 111 := (pm_sg_t tk90).trans etk90; unfold pm_oe; rw [hsg, if_pos (by decide)]; simp only [pm_bdl, pm_bdr, pm_de_1 ed99, pm_bh_0 tk108]), rfl⟩), (by show va_P D vwCl (pm_pad y q pP pln ((pa + 1) + 1) (nI (pm_sg pP pln pa)) (nI d99) pot pnm psz) t.heap; rw [ht]; exact hP)⟩, hS.F ht⟩) hS.2.2 dX1_takeOrder_63
        · skip
          refine lv_if_eq (tgt := 62) hx hb dX1_takeOrder_39 (by decide) (fun _ => ?_) (fun c121 => (c121 (by decide)).elim)
          refine lv_iconst (v := nI 0) hx hb dX1_takeOrder_62 (by decide) ?_
          exact W.zret (ty := .boolean) hx hb hr rfl (fun t ht _ => ⟨⟨_, (pa + 1, nI (pm_sg pP pln pa), -1, pot, pnm, psz), rfl, (Or.inr ⟨(by have hsg : pm_sg pP pln pa = 111 := (pm_sg_t tk90).trans etk90; unfold pm_oe; rw [hsg, if_pos (by decide)]; simp only [pm_bdl, pm_bdr, pm_de_0 ed99]), rfl⟩), (by show va_P D vwCl (pm_pad y q pP pln (pa + 1) (nI (pm_sg pP pln pa)) (-1) pot pnm psz) t.heap; rw [ht]; exact hP)⟩, hS.F ht⟩) hS.2.2 dX1_takeOrder_63
      · skip
        refine lv_if_eq (tgt := 64) hx hb dX1_takeOrder_32 (by decide) (fun _ => ?_) (fun c122 => (c122 (by decide)).elim)
        refine lv_aload_n hx hb dX1_takeOrder_64 rfl (lv_at hl 0 rfl) ?_
        refine lv_bipush (v := nI 97) hx hb dX1_takeOrder_65 (by decide) ?_
        refine va_calli (va_runV (As := [.int (nI 97)]) (rest := []) ⟨hx, hb, hml, hown, hts⟩ (k_X1_take l D y q pP pln pa (nI (pm_sg pP pln pa)) ped pot pnm psz 97 hPI (by omega) (by decide) (by decide)) (cwV 1 hts gX1_takeOrder_X1_take rfl rfl rfl hd_X1_take ⟨Nat.le_of_ble_eq_true rfl, Nat.le_of_ble_eq_true rfl⟩) ⟨pm_wr_blind, va_recv hK hP (ci := 1) (q0 := 0) rfl rfl, pm_wr_pre hP hK hD⟩ rfl rfl hl.1 rfl (lv_room (Nat.le_of_ble_eq_true rfl)) dX1_takeOrder_67 ⟨Nat.le_of_ble_eq_true rfl, Nat.le_of_ble_eq_true rfl⟩) hS (fun q _ h9 => (pm_ad_all hD) q h9) (pm_ad_all hD) (fun r123 u129 t125 H1 locs ht126 _ h124 hB127 _ hk128 hS => ?_)
        obtain ⟨hP, hD⟩ := pm_all (D := D) (cl := vwCl) (H1 := H1) hD (w' := pm_pad y q pP pln u129 (nI (pm_sg pP pln pa)) ped pot pnm psz) (by rw [← ht126]; exact hB127) (pm_pad_ad _ _ _ _ _ _ _ _ _ _ _ _ _ _ _ _ _ _)
        generalize H1 = H at hP hS ⊢
        rcases h124 with ⟨tk130, etk130, rfl, rfl⟩ | ⟨tk130, rfl, rfl⟩
        · skip
          refine lv_if_eq (tgt := 109) hx hb dX1_takeOrder_70 (by decide) (fun c131 => absurd c131 (by decide)) (fun _ => ?_)
          refine lv_aload_n hx hb dX1_takeOrder_73 rfl (lv_at hl 0 rfl) ?_
          refine va_calli (va_runV (As := []) (rest := []) ⟨hx, hb, hml, hown, hts⟩ (k_X1_takeEditor l D y q pP pln (pa + 1) (nI (pm_sg pP pln pa)) ped pot pnm psz hPI (by omega)) (cwV 0 hts gX1_takeOrder_X1_takeEditor rfl rfl rfl hd_X1_takeEditor ⟨Nat.le_of_ble_eq_true rfl, Nat.le_of_ble_eq_true rfl⟩) ⟨pm_wr_blind, va_recv hK hP (ci := 1) (q0 := 0) rfl rfl, pm_wr_pre hP hK hD⟩ rfl rfl hl.1 rfl (lv_room (Nat.le_of_ble_eq_true rfl)) dX1_takeOrder_74 ⟨Nat.le_of_ble_eq_true rfl, Nat.le_of_ble_eq_true rfl⟩) hS (fun q _ h9 => (pm_ad_all hD) q h9) (pm_ad_all hD) (fun r132 u138 t134 H1 locs ht135 _ h133 hB136 _ hk137 hS => ?_)
          obtain ⟨hP, hD⟩ := pm_all (D := D) (cl := vwCl) (H1 := H1) hD (w' := pm_pad y q pP pln u138.1 (nI (pm_sg pP pln pa)) u138.2 pot pnm psz) (by rw [← ht135]; exact hB136) (pm_pad_ad _ _ _ _ _ _ _ _ _ _ _ _ _ _ _ _ _ _)
          generalize H1 = H at hP hS ⊢
          rcases h133 with ⟨d139, hd139, ed139, rfl, rfl⟩ | ⟨ed139, rfl, rfl⟩
          · have := (pm_dg9 ed139).2
            refine lv_if_eq (tgt := 107) hx hb dX1_takeOrder_77 (by decide) (fun c140 => absurd c140 (by decide)) (fun _ => ?_)
            refine lv_aload_n hx hb dX1_takeOrder_80 rfl (lv_at hl 0 rfl) ?_
            refine va_calli (va_runV (As := []) (rest := []) ⟨hx, hb, hml, hown, hts⟩ (k_X1_takeOther l D y q pP pln ((pa + 1) + 1) (nI (pm_sg pP pln pa)) (nI d139) pot pnm psz hPI (by omega)) (cwV 0 hts gX1_takeOrder_X1_takeOther rfl rfl rfl hd_X1_takeOther ⟨Nat.le_of_ble_eq_true rfl, Nat.le_of_ble_eq_true rfl⟩) ⟨pm_wr_blind, va_recv hK hP (ci := 1) (q0 := 0) rfl rfl, pm_wr_pre hP hK hD⟩ rfl rfl hl.1 rfl (lv_room (Nat.le_of_ble_eq_true rfl)) dX1_takeOrder_81 ⟨Nat.le_of_ble_eq_true rfl, Nat.le_of_ble_eq_true rfl⟩) hS (fun q _ h9 => (pm_ad_all hD) q h9) (pm_ad_all hD) (fun r141 u147 t143 H1 locs ht144 _ h142 hB145 _ hk146 hS => ?_)
            obtain ⟨hP, hD⟩ := pm_all (D := D) (cl := vwCl) (H1 := H1) hD (w' := pm_pad y q pP pln u147.1 (nI (pm_sg pP pln pa)) (nI d139) u147.2 pnm psz) (by rw [← ht144]; exact hB145) (pm_pad_ad _ _ _ _ _ _ _ _ _ _ _ _ _ _ _ _ _ _)
            generalize H1 = H at hP hS ⊢
            rcases h142 with ⟨d148, hd148, ed148, rfl, rfl⟩ | ⟨ed148, rfl, rfl⟩
            · have := (pm_dg9 ed148).2
              refine lv_if_eq (tgt := 107) hx hb dX1_takeOrder_84 (by decide) (fun c149 => absurd c149 (by decide)) (fun _ => ?_)
              refine lv_aload_n hx hb dX1_takeOrder_87 rfl (lv_at hl 0 rfl) ?_
              refine lv_bipush (v := nI 46) hx hb dX1_takeOrder_88 (by decide) ?_
              refine va_calli (va_runV (As := [.int (nI 46)]) (rest := []) ⟨hx, hb, hml, hown, hts⟩ (k_X1_take l D y q pP pln (((pa + 1) + 1) + 1) (nI (pm_sg pP pln pa)) (nI d139) (nI d148) pnm psz 46 hPI (by omega) (by decide) (by decide)) (cwV 1 hts gX1_takeOrder_X1_take rfl rfl rfl hd_X1_take ⟨Nat.le_of_ble_eq_true rfl, Nat.le_of_ble_eq_true rfl⟩) ⟨pm_wr_blind, va_recv hK hP (ci := 1) (q0 := 0) rfl rfl, pm_wr_pre hP hK hD⟩ rfl rfl hl.1 rfl (lv_room (Nat.le_of_ble_eq_true rfl)) dX1_takeOrder_90 ⟨Nat.le_of_ble_eq_true rfl, Nat.le_of_ble_eq_true rfl⟩) hS (fun q _ h9 => (pm_ad_all hD) q h9) (pm_ad_all hD) (fun r150 u156 t152 H1 locs ht153 _ h151 hB154 _ hk155 hS => ?_)
              obtain ⟨hP, hD⟩ := pm_all (D := D) (cl := vwCl) (H1 := H1) hD (w' := pm_pad y q pP pln u156 (nI (pm_sg pP pln pa)) (nI d139) (nI d148) pnm psz) (by rw [← ht153]; exact hB154) (pm_pad_ad _ _ _ _ _ _ _ _ _ _ _ _ _ _ _ _ _ _)
              generalize H1 = H at hP hS ⊢
              rcases h151 with ⟨tk157, etk157, rfl, rfl⟩ | ⟨tk157, rfl, rfl⟩
              · skip
                refine lv_if_eq (tgt := 107) hx hb dX1_takeOrder_93 (by decide) (fun c158 => absurd c158 (by decide)) (fun _ => ?_)
                refine lv_aload_n hx hb dX1_takeOrder_96 rfl (lv_at hl 0 rfl) ?_
                refine va_calli (va_runV (As := []) (rest := []) ⟨hx, hb, hml, hown, hts⟩ (k_X1_takeNumber l D y q pP pln ((((pa + 1) + 1) + 1) + 1) (nI (pm_sg pP pln pa)) (nI d139) (nI d148) pnm psz hPI (by omega)) (cwV 0 hts gX1_takeOrder_X1_takeNumber rfl rfl rfl hd_X1_takeNumber ⟨Nat.le_of_ble_eq_true rfl, Nat.le_of_ble_eq_true rfl⟩) ⟨pm_wr_blind, va_recv hK hP (ci := 1) (q0 := 0) rfl rfl, pm_wr_pre hP hK hD⟩ rfl rfl hl.1 rfl (lv_room (Nat.le_of_ble_eq_true rfl)) dX1_takeOrder_97 ⟨Nat.le_of_ble_eq_true rfl, Nat.le_of_ble_eq_true rfl⟩) hS (fun q _ h9 => (pm_ad_all hD) q h9) (pm_ad_all hD) (fun r159 u165 t161 H1 locs ht162 _ h160 hB163 _ hk164 hS => ?_)
                obtain ⟨hP, hD⟩ := pm_all (D := D) (cl := vwCl) (H1 := H1) hD (w' := pm_pad y q pP pln u165.1 (nI (pm_sg pP pln pa)) (nI d139) (nI d148) u165.2 psz) (by rw [← ht162]; exact hB163) (pm_pad_ad _ _ _ _ _ _ _ _ _ _ _ _ _ _ _ _ _ _)
                generalize H1 = H at hP hS ⊢
                rcases h160 with ⟨en166, hen166, rfl, rfl⟩ | ⟨hen166, rfl, rfl⟩
                · have := pm_ne_l hen166
                  refine lv_if_eq (tgt := 107) hx hb dX1_takeOrder_100 (by decide) (fun c167 => absurd c167 (by decide)) (fun _ => ?_)
                  refine lv_iconst (v := nI 1) hx hb dX1_takeOrder_103 (by decide) ?_
                  refine lv_goto (tgt := 108) hx hb dX1_takeOrder_104 (by decide) ?_
                  exact W.zret (ty := .boolean) hx hb hr rfl (fun t ht _ => ⟨⟨_, (en166, nI (pm_sg pP pln pa), nI d139, nI d148, nI (pm_na pP pln ((((pa + 1) + 1) + 1) + 1)), psz), rfl, (Or.inl ⟨(by have hsg : pm_sg pP pln pa = 97 := (pm_sg_t tk130).trans etk130; unfold pm_oe; rw [hsg, if_neg (by decide), if_pos rfl]; simp only [pm_bdl, pm_bdr, pm_de_1 ed139, pm_de_1 ed148, pm_bh_1 tk157 etk157, hen166]), ⟨(congrArg nI (pm_sg_t tk130)), (fun z => by exfalso; rw [etk130] at z; revert z; decide), (fun _ => ⟨by rw [pm_d_s ed139], by rw [pm_d_s ed148], rfl⟩), (fun z => by exfalso; rw [etk130] at z; revert z; decide), (fun z => by exfalso; rw [etk130] at z; revert z; decide)⟩, rfl⟩), (by show va_P D vwCl (pm_pad y q pP pln en166 (nI (pm_sg pP pln pa)) (nI d139) (nI d148) (nI (pm_na pP pln ((((pa + 1) + 1) + 1) + 1))) psz) t.heap; rw [ht]; exact hP)⟩, hS.F ht⟩) hS.2.2 dX1_takeOrder_108
                · skip
                  refine lv_if_eq (tgt := 107) hx hb dX1_takeOrder_100 (by decide) (fun _ => ?_) (fun c168 => (c168 (by decide)).elim)
                  refine lv_iconst (v := nI 0) hx hb dX1_takeOrder_107 (by decide) ?_
                  exact W.zret (ty := .boolean) hx hb hr rfl (fun t ht _ => ⟨⟨_, ((((pa + 1) + 1) + 1) + 1, nI (pm_sg pP pln pa), nI d139, nI d148, -1, psz), rfl, (Or.inr ⟨(by have hsg : pm_sg pP pln pa = 97 := (pm_sg_t tk130).trans etk130; unfold pm_oe; rw [hsg, if_neg (by decide), if_pos rfl]; simp only [pm_bdl, pm_bdr, pm_de_1 ed139, pm_de_1 ed148, pm_bh_1 tk157 etk157, hen166]), rfl⟩), (by show va_P D vwCl (pm_pad y q pP pln ((((pa + 1) + 1) + 1) + 1) (nI (pm_sg pP pln pa)) (nI d139) (nI d148) (-1) psz) t.heap; rw [ht]; exact hP)⟩, hS.F ht⟩) hS.2.2 dX1_takeOrder_108
              · skip
                refine lv_if_eq (tgt := 107) hx hb dX1_takeOrder_93 (by decide) (fun _ => ?_) (fun c169 => (c169 (by decide)).elim)
                refine lv_iconst (v := nI 0) hx hb dX1_takeOrder_107 (by decide) ?_
                exact W.zret (ty := .boolean) hx hb hr rfl (fun t ht _ => ⟨⟨_, (((pa + 1) + 1) + 1, nI (pm_sg pP pln pa), nI d139, nI d148, pnm, psz), rfl, (Or.inr ⟨(by have hsg : pm_sg pP pln pa = 97 := (pm_sg_t tk130).trans etk130; unfold pm_oe; rw [hsg, if_neg (by decide), if_pos rfl]; simp only [pm_bdl, pm_bdr, pm_de_1 ed139, pm_de_1 ed148, pm_bh_0 tk157]), rfl⟩), (by show va_P D vwCl (pm_pad y q pP pln (((pa + 1) + 1) + 1) (nI (pm_sg pP pln pa)) (nI d139) (nI d148) pnm psz) t.heap; rw [ht]; exact hP)⟩, hS.F ht⟩) hS.2.2 dX1_takeOrder_108
            · skip
              refine lv_if_eq (tgt := 107) hx hb dX1_takeOrder_84 (by decide) (fun _ => ?_) (fun c170 => (c170 (by decide)).elim)
              refine lv_iconst (v := nI 0) hx hb dX1_takeOrder_107 (by decide) ?_
              exact W.zret (ty := .boolean) hx hb hr rfl (fun t ht _ => ⟨⟨_, ((pa + 1) + 1, nI (pm_sg pP pln pa), nI d139, -1, pnm, psz), rfl, (Or.inr ⟨(by have hsg : pm_sg pP pln pa = 97 := (pm_sg_t tk130).trans etk130; unfold pm_oe; rw [hsg, if_neg (by decide), if_pos rfl]; simp only [pm_bdl, pm_bdr, pm_de_1 ed139, pm_de_0 ed148]), rfl⟩), (by show va_P D vwCl (pm_pad y q pP pln ((pa + 1) + 1) (nI (pm_sg pP pln pa)) (nI d139) (-1) pnm psz) t.heap; rw [ht]; exact hP)⟩, hS.F ht⟩) hS.2.2 dX1_takeOrder_108
          · skip
            refine lv_if_eq (tgt := 107) hx hb dX1_takeOrder_77 (by decide) (fun _ => ?_) (fun c171 => (c171 (by decide)).elim)
            refine lv_iconst (v := nI 0) hx hb dX1_takeOrder_107 (by decide) ?_
            exact W.zret (ty := .boolean) hx hb hr rfl (fun t ht _ => ⟨⟨_, (pa + 1, nI (pm_sg pP pln pa), -1, pot, pnm, psz), rfl, (Or.inr ⟨(by have hsg : pm_sg pP pln pa = 97 := (pm_sg_t tk130).trans etk130; unfold pm_oe; rw [hsg, if_neg (by decide), if_pos rfl]; simp only [pm_bdl, pm_bdr, pm_de_0 ed139]), rfl⟩), (by show va_P D vwCl (pm_pad y q pP pln (pa + 1) (nI (pm_sg pP pln pa)) (-1) pot pnm psz) t.heap; rw [ht]; exact hP)⟩, hS.F ht⟩) hS.2.2 dX1_takeOrder_108
        · skip
          refine lv_if_eq (tgt := 109) hx hb dX1_takeOrder_70 (by decide) (fun _ => ?_) (fun c172 => (c172 (by decide)).elim)
          refine lv_aload_n hx hb dX1_takeOrder_109 rfl (lv_at hl 0 rfl) ?_
          refine lv_bipush (v := nI 112) hx hb dX1_takeOrder_110 (by decide) ?_
          refine va_calli (va_runV (As := [.int (nI 112)]) (rest := []) ⟨hx, hb, hml, hown, hts⟩ (k_X1_take l D y q pP pln pa (nI (pm_sg pP pln pa)) ped pot pnm psz 112 hPI (by omega) (by decide) (by decide)) (cwV 1 hts gX1_takeOrder_X1_take rfl rfl rfl hd_X1_take ⟨Nat.le_of_ble_eq_true rfl, Nat.le_of_ble_eq_true rfl⟩) ⟨pm_wr_blind, va_recv hK hP (ci := 1) (q0 := 0) rfl rfl, pm_wr_pre hP hK hD⟩ rfl rfl hl.1 rfl (lv_room (Nat.le_of_ble_eq_true rfl)) dX1_takeOrder_112 ⟨Nat.le_of_ble_eq_true rfl, Nat.le_of_ble_eq_true rfl⟩) hS (fun q _ h9 => (pm_ad_all hD) q h9) (pm_ad_all hD) (fun r173 u179 t175 H1 locs ht176 _ h174 hB177 _ hk178 hS => ?_)
          obtain ⟨hP, hD⟩ := pm_all (D := D) (cl := vwCl) (H1 := H1) hD (w' := pm_pad y q pP pln u179 (nI (pm_sg pP pln pa)) ped pot pnm psz) (by rw [← ht176]; exact hB177) (pm_pad_ad _ _ _ _ _ _ _ _ _ _ _ _ _ _ _ _ _ _)
          generalize H1 = H at hP hS ⊢
          rcases h174 with ⟨tk180, etk180, rfl, rfl⟩ | ⟨tk180, rfl, rfl⟩
          · skip
            refine lv_if_eq (tgt := 147) hx hb dX1_takeOrder_115 (by decide) (fun c181 => absurd c181 (by decide)) (fun _ => ?_)
            refine lv_aload_n hx hb dX1_takeOrder_118 rfl (lv_at hl 0 rfl) ?_
            refine va_calli (va_runV (As := []) (rest := []) ⟨hx, hb, hml, hown, hts⟩ (k_X1_takeNumber l D y q pP pln (pa + 1) (nI (pm_sg pP pln pa)) ped pot pnm psz hPI (by omega)) (cwV 0 hts gX1_takeOrder_X1_takeNumber rfl rfl rfl hd_X1_takeNumber ⟨Nat.le_of_ble_eq_true rfl, Nat.le_of_ble_eq_true rfl⟩) ⟨pm_wr_blind, va_recv hK hP (ci := 1) (q0 := 0) rfl rfl, pm_wr_pre hP hK hD⟩ rfl rfl hl.1 rfl (lv_room (Nat.le_of_ble_eq_true rfl)) dX1_takeOrder_119 ⟨Nat.le_of_ble_eq_true rfl, Nat.le_of_ble_eq_true rfl⟩) hS (fun q _ h9 => (pm_ad_all hD) q h9) (pm_ad_all hD) (fun r182 u188 t184 H1 locs ht185 _ h183 hB186 _ hk187 hS => ?_)
            obtain ⟨hP, hD⟩ := pm_all (D := D) (cl := vwCl) (H1 := H1) hD (w' := pm_pad y q pP pln u188.1 (nI (pm_sg pP pln pa)) ped pot u188.2 psz) (by rw [← ht185]; exact hB186) (pm_pad_ad _ _ _ _ _ _ _ _ _ _ _ _ _ _ _ _ _ _)
            generalize H1 = H at hP hS ⊢
            rcases h183 with ⟨en189, hen189, rfl, rfl⟩ | ⟨hen189, rfl, rfl⟩
            · have := pm_ne_l hen189
              refine lv_if_eq (tgt := 145) hx hb dX1_takeOrder_122 (by decide) (fun c190 => absurd c190 (by decide)) (fun _ => ?_)
              refine lv_aload_n hx hb dX1_takeOrder_125 rfl (lv_at hl 0 rfl) ?_
              refine lv_bipush (v := nI 42) hx hb dX1_takeOrder_126 (by decide) ?_
              refine va_calli (va_runV (As := [.int (nI 42)]) (rest := []) ⟨hx, hb, hml, hown, hts⟩ (k_X1_take l D y q pP pln en189 (nI (pm_sg pP pln pa)) ped pot (nI (pm_na pP pln (pa + 1))) psz 42 hPI (by omega) (by decide) (by decide)) (cwV 1 hts gX1_takeOrder_X1_take rfl rfl rfl hd_X1_take ⟨Nat.le_of_ble_eq_true rfl, Nat.le_of_ble_eq_true rfl⟩) ⟨pm_wr_blind, va_recv hK hP (ci := 1) (q0 := 0) rfl rfl, pm_wr_pre hP hK hD⟩ rfl rfl hl.1 rfl (lv_room (Nat.le_of_ble_eq_true rfl)) dX1_takeOrder_128 ⟨Nat.le_of_ble_eq_true rfl, Nat.le_of_ble_eq_true rfl⟩) hS (fun q _ h9 => (pm_ad_all hD) q h9) (pm_ad_all hD) (fun r191 u197 t193 H1 locs ht194 _ h192 hB195 _ hk196 hS => ?_)
              obtain ⟨hP, hD⟩ := pm_all (D := D) (cl := vwCl) (H1 := H1) hD (w' := pm_pad y q pP pln u197 (nI (pm_sg pP pln pa)) ped pot (nI (pm_na pP pln (pa + 1))) psz) (by rw [← ht194]; exact hB195) (pm_pad_ad _ _ _ _ _ _ _ _ _ _ _ _ _ _ _ _ _ _)
              generalize H1 = H at hP hS ⊢
              rcases h192 with ⟨tk198, etk198, rfl, rfl⟩ | ⟨tk198, rfl, rfl⟩
              · skip
                refine lv_if_eq (tgt := 145) hx hb dX1_takeOrder_131 (by decide) (fun c199 => absurd c199 (by decide)) (fun _ => ?_)
                refine lv_aload_n hx hb dX1_takeOrder_134 rfl (lv_at hl 0 rfl) ?_
                refine va_calli (va_runV (As := []) (rest := []) ⟨hx, hb, hml, hown, hts⟩ (k_X1_takeSize l D y q pP pln (en189 + 1) (nI (pm_sg pP pln pa)) ped pot (nI (pm_na pP pln (pa + 1))) psz hPI (by omega)) (cwV 0 hts gX1_takeOrder_X1_takeSize rfl rfl rfl hd_X1_takeSize ⟨Nat.le_of_ble_eq_true rfl, Nat.le_of_ble_eq_true rfl⟩) ⟨pm_wr_blind, va_recv hK hP (ci := 1) (q0 := 0) rfl rfl, pm_wr_pre hP hK hD⟩ rfl rfl hl.1 rfl (lv_room (Nat.le_of_ble_eq_true rfl)) dX1_takeOrder_135 ⟨Nat.le_of_ble_eq_true rfl, Nat.le_of_ble_eq_true rfl⟩) hS (fun q _ h9 => (pm_ad_all hD) q h9) (pm_ad_all hD) (fun r200 u206 t202 H1 locs ht203 _ h201 hB204 _ hk205 hS => ?_)
                obtain ⟨hP, hD⟩ := pm_all (D := D) (cl := vwCl) (H1 := H1) hD (w' := pm_pad y q pP pln u206.1 (nI (pm_sg pP pln pa)) ped pot (nI (pm_na pP pln (pa + 1))) u206.2) (by rw [← ht203]; exact hB204) (pm_pad_ad _ _ _ _ _ _ _ _ _ _ _ _ _ _ _ _ _ _)
                generalize H1 = H at hP hS ⊢
                rcases h201 with ⟨d207, hd207, ed207, rfl, rfl⟩ | ⟨ed207, rfl, rfl⟩
                · have := (pm_dg9 ed207).2
                  refine lv_if_eq (tgt := 145) hx hb dX1_takeOrder_138 (by decide) (fun c208 => absurd c208 (by decide)) (fun _ => ?_)
                  refine lv_iconst (v := nI 1) hx hb dX1_takeOrder_141 (by decide) ?_
                  refine lv_goto (tgt := 146) hx hb dX1_takeOrder_142 (by decide) ?_
                  exact W.zret (ty := .boolean) hx hb hr rfl (fun t ht _ => ⟨⟨_, ((en189 + 1) + 1, nI (pm_sg pP pln pa), ped, pot, nI (pm_na pP pln (pa + 1)), nI d207), rfl, (Or.inl ⟨(by have hsg : pm_sg pP pln pa = 112 := (pm_sg_t tk180).trans etk180; unfold pm_oe; rw [hsg, if_neg (by decide), if_neg (by decide), if_neg (by decide), if_pos rfl]; simp only [pm_bdl, pm_bdr, pm_de_1 ed207, pm_bh_1 tk198 etk198, hen189]), ⟨(congrArg nI (pm_sg_t tk180)), (fun z => by exfalso; rw [etk180] at z; revert z; decide), (fun z => by exfalso; rw [etk180] at z; revert z; decide), (fun _ => ⟨rfl, by rw [hen189]; exact congrArg nI (pm_d_s ed207).symm⟩), (fun z => by exfalso; rw [etk180] at z; revert z; decide)⟩, rfl⟩), (by show va_P D vwCl (pm_pad y q pP pln ((en189 + 1) + 1) (nI (pm_sg pP pln pa)) ped pot (nI (pm_na pP pln (pa + 1))) (nI d207)) t.heap; rw [ht]; exact hP)⟩, hS.F ht⟩) hS.2.2 dX1_takeOrder_146
                · skip
                  refine lv_if_eq (tgt := 145) hx hb dX1_takeOrder_138 (by decide) (fun _ => ?_) (fun c209 => (c209 (by decide)).elim)
                  refine lv_iconst (v := nI 0) hx hb dX1_takeOrder_145 (by decide) ?_
                  exact W.zret (ty := .boolean) hx hb hr rfl (fun t ht _ => ⟨⟨_, (en189 + 1, nI (pm_sg pP pln pa), ped, pot, nI (pm_na pP pln (pa + 1)), -1), rfl, (Or.inr ⟨(by have hsg : pm_sg pP pln pa = 112 := (pm_sg_t tk180).trans etk180; unfold pm_oe; rw [hsg, if_neg (by decide), if_neg (by decide), if_neg (by decide), if_pos rfl]; simp only [pm_bdl, pm_bdr, pm_de_0 ed207, pm_bh_1 tk198 etk198, hen189]), rfl⟩), (by show va_P D vwCl (pm_pad y q pP pln (en189 + 1) (nI (pm_sg pP pln pa)) ped pot (nI (pm_na pP pln (pa + 1))) (-1)) t.heap; rw [ht]; exact hP)⟩, hS.F ht⟩) hS.2.2 dX1_takeOrder_146
              · skip
                refine lv_if_eq (tgt := 145) hx hb dX1_takeOrder_131 (by decide) (fun _ => ?_) (fun c210 => (c210 (by decide)).elim)
                refine lv_iconst (v := nI 0) hx hb dX1_takeOrder_145 (by decide) ?_
                exact W.zret (ty := .boolean) hx hb hr rfl (fun t ht _ => ⟨⟨_, (en189, nI (pm_sg pP pln pa), ped, pot, nI (pm_na pP pln (pa + 1)), psz), rfl, (Or.inr ⟨(by have hsg : pm_sg pP pln pa = 112 := (pm_sg_t tk180).trans etk180; unfold pm_oe; rw [hsg, if_neg (by decide), if_neg (by decide), if_neg (by decide), if_pos rfl]; simp only [pm_bdl, pm_bdr, pm_bh_0 tk198, hen189]), rfl⟩), (by show va_P D vwCl (pm_pad y q pP pln en189 (nI (pm_sg pP pln pa)) ped pot (nI (pm_na pP pln (pa + 1))) psz) t.heap; rw [ht]; exact hP)⟩, hS.F ht⟩) hS.2.2 dX1_takeOrder_146
            · skip
              refine lv_if_eq (tgt := 145) hx hb dX1_takeOrder_122 (by decide) (fun _ => ?_) (fun c211 => (c211 (by decide)).elim)
              refine lv_iconst (v := nI 0) hx hb dX1_takeOrder_145 (by decide) ?_
              exact W.zret (ty := .boolean) hx hb hr rfl (fun t ht _ => ⟨⟨_, (pa + 1, nI (pm_sg pP pln pa), ped, pot, -1, psz), rfl, (Or.inr ⟨(by have hsg : pm_sg pP pln pa = 112 := (pm_sg_t tk180).trans etk180; unfold pm_oe; rw [hsg, if_neg (by decide), if_neg (by decide), if_neg (by decide), if_pos rfl]; simp only [pm_bdl, pm_bdr, hen189]), rfl⟩), (by show va_P D vwCl (pm_pad y q pP pln (pa + 1) (nI (pm_sg pP pln pa)) ped pot (-1) psz) t.heap; rw [ht]; exact hP)⟩, hS.F ht⟩) hS.2.2 dX1_takeOrder_146
          · skip
            refine lv_if_eq (tgt := 147) hx hb dX1_takeOrder_115 (by decide) (fun _ => ?_) (fun c212 => (c212 (by decide)).elim)
            refine lv_aload_n hx hb dX1_takeOrder_147 rfl (lv_at hl 0 rfl) ?_
            refine lv_bipush (v := nI 98) hx hb dX1_takeOrder_148 (by decide) ?_
            refine va_calli (va_runV (As := [.int (nI 98)]) (rest := []) ⟨hx, hb, hml, hown, hts⟩ (k_X1_take l D y q pP pln pa (nI (pm_sg pP pln pa)) ped pot pnm psz 98 hPI (by omega) (by decide) (by decide)) (cwV 1 hts gX1_takeOrder_X1_take rfl rfl rfl hd_X1_take ⟨Nat.le_of_ble_eq_true rfl, Nat.le_of_ble_eq_true rfl⟩) ⟨pm_wr_blind, va_recv hK hP (ci := 1) (q0 := 0) rfl rfl, pm_wr_pre hP hK hD⟩ rfl rfl hl.1 rfl (lv_room (Nat.le_of_ble_eq_true rfl)) dX1_takeOrder_150 ⟨Nat.le_of_ble_eq_true rfl, Nat.le_of_ble_eq_true rfl⟩) hS (fun q _ h9 => (pm_ad_all hD) q h9) (pm_ad_all hD) (fun r213 u219 t215 H1 locs ht216 _ h214 hB217 _ hk218 hS => ?_)
            obtain ⟨hP, hD⟩ := pm_all (D := D) (cl := vwCl) (H1 := H1) hD (w' := pm_pad y q pP pln u219 (nI (pm_sg pP pln pa)) ped pot pnm psz) (by rw [← ht216]; exact hB217) (pm_pad_ad _ _ _ _ _ _ _ _ _ _ _ _ _ _ _ _ _ _)
            generalize H1 = H at hP hS ⊢
            rcases h214 with ⟨tk220, etk220, rfl, rfl⟩ | ⟨tk220, rfl, rfl⟩
            · skip
              refine lv_if_eq (tgt := 161) hx hb dX1_takeOrder_153 (by decide) (fun c221 => absurd c221 (by decide)) (fun _ => ?_)
              refine lv_aload_n hx hb dX1_takeOrder_156 rfl (lv_at hl 0 rfl) ?_
              refine va_calli (va_runV (As := []) (rest := []) ⟨hx, hb, hml, hown, hts⟩ (k_X1_takeNumber l D y q pP pln (pa + 1) (nI (pm_sg pP pln pa)) ped pot pnm psz hPI (by omega)) (cwV 0 hts gX1_takeOrder_X1_takeNumber rfl rfl rfl hd_X1_takeNumber ⟨Nat.le_of_ble_eq_true rfl, Nat.le_of_ble_eq_true rfl⟩) ⟨pm_wr_blind, va_recv hK hP (ci := 1) (q0 := 0) rfl rfl, pm_wr_pre hP hK hD⟩ rfl rfl hl.1 rfl (lv_room (Nat.le_of_ble_eq_true rfl)) dX1_takeOrder_157 ⟨Nat.le_of_ble_eq_true rfl, Nat.le_of_ble_eq_true rfl⟩) hS (fun q _ h9 => (pm_ad_all hD) q h9) (pm_ad_all hD) (fun r222 u228 t224 H1 locs ht225 _ h223 hB226 _ hk227 hS => ?_)
              obtain ⟨hP, hD⟩ := pm_all (D := D) (cl := vwCl) (H1 := H1) hD (w' := pm_pad y q pP pln u228.1 (nI (pm_sg pP pln pa)) ped pot u228.2 psz) (by rw [← ht225]; exact hB226) (pm_pad_ad _ _ _ _ _ _ _ _ _ _ _ _ _ _ _ _ _ _)
              generalize H1 = H at hP hS ⊢
              rcases h223 with ⟨en229, hen229, rfl, rfl⟩ | ⟨hen229, rfl, rfl⟩
              · have := pm_ne_l hen229
                exact W.zret (ty := .boolean) hx hb hr rfl (fun t ht _ => ⟨⟨_, (en229, nI (pm_sg pP pln pa), ped, pot, nI (pm_na pP pln (pa + 1)), psz), rfl, (Or.inl ⟨(by have hsg : pm_sg pP pln pa = 98 := (pm_sg_t tk220).trans etk220; unfold pm_oe; rw [hsg, if_neg (by decide), if_neg (by decide), if_neg (by decide), if_neg (by decide), if_pos rfl]; simp only [pm_bdl, pm_bdr, hen229]), ⟨(congrArg nI (pm_sg_t tk220)), (fun z => by exfalso; rw [etk220] at z; revert z; decide), (fun z => by exfalso; rw [etk220] at z; revert z; decide), (fun z => by exfalso; rw [etk220] at z; revert z; decide), (fun _ => rfl)⟩, rfl⟩), (by show va_P D vwCl (pm_pad y q pP pln en229 (nI (pm_sg pP pln pa)) ped pot (nI (pm_na pP pln (pa + 1))) psz) t.heap; rw [ht]; exact hP)⟩, hS.F ht⟩) hS.2.2 dX1_takeOrder_160
              · skip
                exact W.zret (ty := .boolean) hx hb hr rfl (fun t ht _ => ⟨⟨_, (pa + 1, nI (pm_sg pP pln pa), ped, pot, -1, psz), rfl, (Or.inr ⟨(by have hsg : pm_sg pP pln pa = 98 := (pm_sg_t tk220).trans etk220; unfold pm_oe; rw [hsg, if_neg (by decide), if_neg (by decide), if_neg (by decide), if_neg (by decide), if_pos rfl]; simp only [pm_bdl, pm_bdr, hen229]), rfl⟩), (by show va_P D vwCl (pm_pad y q pP pln (pa + 1) (nI (pm_sg pP pln pa)) ped pot (-1) psz) t.heap; rw [ht]; exact hP)⟩, hS.F ht⟩) hS.2.2 dX1_takeOrder_160
            · skip
              refine lv_if_eq (tgt := 161) hx hb dX1_takeOrder_153 (by decide) (fun _ => ?_) (fun c230 => (c230 (by decide)).elim)
              refine lv_aload_n hx hb dX1_takeOrder_161 rfl (lv_at hl 0 rfl) ?_
              refine lv_bipush (v := nI 114) hx hb dX1_takeOrder_162 (by decide) ?_
              refine va_calli (va_runV (As := [.int (nI 114)]) (rest := []) ⟨hx, hb, hml, hown, hts⟩ (k_X1_take l D y q pP pln pa (nI (pm_sg pP pln pa)) ped pot pnm psz 114 hPI (by omega) (by decide) (by decide)) (cwV 1 hts gX1_takeOrder_X1_take rfl rfl rfl hd_X1_take ⟨Nat.le_of_ble_eq_true rfl, Nat.le_of_ble_eq_true rfl⟩) ⟨pm_wr_blind, va_recv hK hP (ci := 1) (q0 := 0) rfl rfl, pm_wr_pre hP hK hD⟩ rfl rfl hl.1 rfl (lv_room (Nat.le_of_ble_eq_true rfl)) dX1_takeOrder_164 ⟨Nat.le_of_ble_eq_true rfl, Nat.le_of_ble_eq_true rfl⟩) hS (fun q _ h9 => (pm_ad_all hD) q h9) (pm_ad_all hD) (fun r231 u237 t233 H1 locs ht234 _ h232 hB235 _ hk236 hS => ?_)
              obtain ⟨hP, hD⟩ := pm_all (D := D) (cl := vwCl) (H1 := H1) hD (w' := pm_pad y q pP pln u237 (nI (pm_sg pP pln pa)) ped pot pnm psz) (by rw [← ht234]; exact hB235) (pm_pad_ad _ _ _ _ _ _ _ _ _ _ _ _ _ _ _ _ _ _)
              generalize H1 = H at hP hS ⊢
              rcases h232 with ⟨tk238, etk238, rfl, rfl⟩ | ⟨tk238, rfl, rfl⟩
              · skip
                exact W.zret (ty := .boolean) hx hb hr rfl (fun t ht _ => ⟨⟨_, (pa + 1, nI (pm_sg pP pln pa), ped, pot, pnm, psz), rfl, (Or.inl ⟨(by have hsg : pm_sg pP pln pa = 114 := (pm_sg_t tk238).trans etk238; unfold pm_oe; rw [hsg, if_neg (by decide), if_neg (by decide), if_pos rfl]), ⟨(congrArg nI (pm_sg_t tk238)), (fun z => by exfalso; rw [etk238] at z; revert z; decide), (fun z => by exfalso; rw [etk238] at z; revert z; decide), (fun z => by exfalso; rw [etk238] at z; revert z; decide), (fun z => by exfalso; rw [etk238] at z; revert z; decide)⟩, rfl⟩), (by show va_P D vwCl (pm_pad y q pP pln (pa + 1) (nI (pm_sg pP pln pa)) ped pot pnm psz) t.heap; rw [ht]; exact hP)⟩, hS.F ht⟩) hS.2.2 dX1_takeOrder_167
              · skip
                exact W.zret (ty := .boolean) hx hb hr rfl (fun t ht _ => ⟨⟨_, (pa, nI (pm_sg pP pln pa), ped, pot, pnm, psz), rfl, (Or.inr ⟨by have hno := pm_nokind tk10 tk50 tk90 tk130 tk180 tk220 tk238; unfold pm_oe; rw [if_neg hno.1, if_neg hno.2.1, if_neg hno.2.2.1, if_neg hno.2.2.2.1, if_neg hno.2.2.2.2], rfl⟩), (by show va_P D vwCl (pm_pad y q pP pln pa (nI (pm_sg pP pln pa)) ped pot pnm psz) t.heap; rw [ht]; exact hP)⟩, hS.F ht⟩) hS.2.2 dX1_takeOrder_167
