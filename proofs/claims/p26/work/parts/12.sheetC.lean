set_option maxHeartbeats 4000000 in
set_option maxRecDepth 100000 in
theorem k_X2_aboutFrame (l : Launch) (D : va_G) (y : Nat → ClassId) (q : Nat → Nat) (S : Nat → Nat → Nat) (xf xw : Int32) (hI : pm_Inv S) : Met l yX2_aboutFrame wsX2_aboutFrame ({ frames := 1, cells := 0, slots := 0, locals := 20 } : Room) (pm_ro D (pm_ty y) [.ref (q 0), .int xf, .int xw] (pm_shS y q S)) (vp_Si (fun r : Int32 => r = pm_of S xf xw)) 0 0 (fun _ => False) := by
  refine Met.ofW (cc := cX2_aboutFrame) (maxL := 3) (ret := (some .int)) (by decide) rfl ?_
  intro p e s m args below meth c s₁ B hml hpre
  obtain ⟨rfl, hP, hK⟩ := hpre
  have hx := B.exec
  have hb := B.bytes
  have hr := B.returns
  have hts := atoms_spec (ws := wsX2_aboutFrame) B.pre
  have hown : s.vm.findClass RX2 = some m.cls := findClass_of_methodNamed B.named
  have hlocks := B.notSynchronized
  have hin2 : ∀ w ∈ u_ws RX2 TX2 15, w ∈ wsX2_aboutFrame := fun w h => List.mem_cons_of_mem _ (List.mem_append_right _ h)
  have hP : va_P D vwCl (pm_shS y q S) s.heap := hP
  have hl := lv_entry ([.ref (q 0), .int xf, .int xw]) (n := 3) (Nat.le_of_ble_eq_true rfl)
  rw [lg_entry_eq]
  generalize (lg_sl ([.ref (q 0), .int xf, .int xw]) ++ List.replicate (3 - (lg_sl ([.ref (q 0), .int xf, .int xw])).length) Slot.unset).toArray = ls at hl ⊢
  have hl : lv_has ls 3 [(0, .ref (q 0)), (1, .int xf), (2, .int xw)] := hl
  refine lv_iload_n hx hb dX2_aboutFrame_0 rfl (lv_at hl 1 rfl) ?_
  refine vp_callSi (W.runS (As := [.int xf]) (rest := []) ⟨hx, hb, hml, hown, hts⟩ (k_X2_isFrame l xf) (va_cwS 1 hts gX2_aboutFrame_X2_isFrame rfl rfl rfl hd_X2_isFrame ⟨Nat.le_of_ble_eq_true rfl, Nat.le_of_ble_eq_true rfl⟩) ⟨pm_no_blind, pm_no_pre⟩ rfl rfl hl.1 rfl (lv_room (Nat.le_of_ble_eq_true rfl)) dX2_aboutFrame_1 ⟨Nat.le_of_ble_eq_true rfl, Nat.le_of_ble_eq_true rfl⟩) (fun r1 h2 => ?_)
  rcases h2 with ⟨j3, hj3, ej3, rfl⟩ | ⟨hnj3, rfl⟩
  · subst ej3
    refine lv_if_ne (tgt := 9) hx hb dX2_aboutFrame_4 (by decide) (fun _ => ?_) (fun c4 => absurd c4 (by decide))
    refine lv_iload_n hx hb dX2_aboutFrame_9 rfl (lv_at hl 2 rfl) ?_
    have hsw5 : (xw < 0 ∨ nI 6 ≤ xw) ∨ xw = nI 0 ∨ xw = nI 1 ∨ xw = nI 2 ∨ xw = nI 3 ∨ xw = nI 4 ∨ xw = nI 5 := by
      rcases pm_cases xw (n := 6) (by decide) with h | ⟨j, hj, rfl⟩
      · exact Or.inl h
      · rcases (show j = 0 ∨ j = 1 ∨ j = 2 ∨ j = 3 ∨ j = 4 ∨ j = 5 by omega) with rfl | rfl | rfl | rfl | rfl | rfl <;> simp
    rcases hsw5 with hw | rfl | rfl | rfl | rfl | rfl | rfl
    · skip
      refine lv_tableOut (tgt := 90) hx hb dX2_aboutFrame_10 (pm_swout (n := 5) (by decide) hw) (by decide) ?_
      refine lv_bipush (v := (-2)) hx hb dX2_aboutFrame_90 (by decide) ?_
      exact W.iret hx hb hr (fun t ht _ => ⟨_, rfl, (by simp only [pm_of, pm_ix_in hj3 (show (30 : Nat) < 2 ^ 31 by decide), pm_ix_out hw]), ht⟩) (fun _ h => absurd h List.not_mem_nil) dX2_aboutFrame_92
    · skip
      refine lv_tableIn (off := 38) (tgt := 48) hx hb dX2_aboutFrame_10 (by decide) (by decide) (by decide) (by decide) ?_
      refine lv_aload_n hx hb dX2_aboutFrame_48 rfl (lv_at hl 0 rfl) ?_
      refine va_get (D := D) (ci := 2) (v := .ref (q 2)) (C := RX2) (T := TX2) (N := 15) hx hb hts hin2 hown hK hP 0 rfl rfl 1 (by decide) (hts (.fieldLink RX2 15 "ProofMarks$Sheet" "how" "[I") (List.mem_of_getElem? (i := 1) rfl)) (fun _ h9 => h9) rfl dX2_aboutFrame_49 ?_
      refine lv_iload_n hx hb dX2_aboutFrame_52 rfl (lv_at hl 1 rfl) ?_
      refine kx_iald (v := nI ((S 0) j3)) hx hb hK hP 2 0 rfl rfl (by omega) (by decide) rfl dX2_aboutFrame_53 ?_
      have := hI.how j3 (by omega)
      exact W.iret hx hb hr (fun t ht _ => ⟨_, rfl, (by simp only [pm_of, pm_ix_in hj3 (show (30 : Nat) < 2 ^ 31 by decide), pm_ix_in (show (0 : Nat) < 6 by decide) (show (6 : Nat) < 2 ^ 31 by decide)]), ht⟩) (fun _ h => absurd h List.not_mem_nil) dX2_aboutFrame_54
    · skip
      refine lv_tableIn (off := 45) (tgt := 55) hx hb dX2_aboutFrame_10 (by decide) (by decide) (by decide) (by decide) ?_
      refine lv_aload_n hx hb dX2_aboutFrame_55 rfl (lv_at hl 0 rfl) ?_
      refine va_get (D := D) (ci := 2) (v := .ref (q 3)) (C := RX2) (T := TX2) (N := 15) hx hb hts hin2 hown hK hP 0 rfl rfl 2 (by decide) (hts (.fieldLink RX2 18 "ProofMarks$Sheet" "ticks" "[I") (List.mem_of_getElem? (i := 2) rfl)) (fun _ h9 => h9) rfl dX2_aboutFrame_56 ?_
      refine lv_iload_n hx hb dX2_aboutFrame_59 rfl (lv_at hl 1 rfl) ?_
      refine kx_iald (v := nI (pm_tk ((S 4) j3))) hx hb hK hP 3 0 rfl rfl (by omega) (by decide) rfl dX2_aboutFrame_60 ?_
      have := pm_tk8 ((S 4) j3)
      exact W.iret hx hb hr (fun t ht _ => ⟨_, rfl, (by simp only [pm_of, pm_ix_in hj3 (show (30 : Nat) < 2 ^ 31 by decide), pm_ix_in (show (1 : Nat) < 6 by decide) (show (6 : Nat) < 2 ^ 31 by decide)]), ht⟩) (fun _ h => absurd h List.not_mem_nil) dX2_aboutFrame_61
    · skip
      refine lv_tableIn (off := 52) (tgt := 62) hx hb dX2_aboutFrame_10 (by decide) (by decide) (by decide) (by decide) ?_
      refine lv_aload_n hx hb dX2_aboutFrame_62 rfl (lv_at hl 0 rfl) ?_
      refine va_get (D := D) (ci := 2) (v := .ref (q 4)) (C := RX2) (T := TX2) (N := 15) hx hb hts hin2 hown hK hP 0 rfl rfl 3 (by decide) (hts (.fieldLink RX2 21 "ProofMarks$Sheet" "crosses" "[I") (List.mem_of_getElem? (i := 3) rfl)) (fun _ h9 => h9) rfl dX2_aboutFrame_63 ?_
      refine lv_iload_n hx hb dX2_aboutFrame_66 rfl (lv_at hl 1 rfl) ?_
      refine kx_iald (v := nI (pm_ck ((S 4) j3))) hx hb hK hP 4 0 rfl rfl (by omega) (by decide) rfl dX2_aboutFrame_67 ?_
      have := pm_ck8 ((S 4) j3)
      exact W.iret hx hb hr (fun t ht _ => ⟨_, rfl, (by simp only [pm_of, pm_ix_in hj3 (show (30 : Nat) < 2 ^ 31 by decide), pm_ix_in (show (2 : Nat) < 6 by decide) (show (6 : Nat) < 2 ^ 31 by decide)]), ht⟩) (fun _ h => absurd h List.not_mem_nil) dX2_aboutFrame_68
    · skip
      refine lv_tableIn (off := 59) (tgt := 69) hx hb dX2_aboutFrame_10 (by decide) (by decide) (by decide) (by decide) ?_
      refine lv_aload_n hx hb dX2_aboutFrame_69 rfl (lv_at hl 0 rfl) ?_
      refine va_get (D := D) (ci := 2) (v := .ref (q 5)) (C := RX2) (T := TX2) (N := 15) hx hb hts hin2 hown hK hP 0 rfl rfl 4 (by decide) (hts (.fieldLink RX2 24 "ProofMarks$Sheet" "dull" "[I") (List.mem_of_getElem? (i := 4) rfl)) (fun _ h9 => h9) rfl dX2_aboutFrame_70 ?_
      refine lv_iload_n hx hb dX2_aboutFrame_73 rfl (lv_at hl 1 rfl) ?_
      refine kx_iald (v := nI ((S 1) j3)) hx hb hK hP 5 0 rfl rfl (by omega) (by decide) rfl dX2_aboutFrame_74 ?_
      have := hI.dull j3 (by omega)
      have := hI.rnd
      exact W.iret hx hb hr (fun t ht _ => ⟨_, rfl, (by simp only [pm_of, pm_ix_in hj3 (show (30 : Nat) < 2 ^ 31 by decide), pm_ix_in (show (3 : Nat) < 6 by decide) (show (6 : Nat) < 2 ^ 31 by decide)]), ht⟩) (fun _ h => absurd h List.not_mem_nil) dX2_aboutFrame_75
    · skip
      refine lv_tableIn (off := 66) (tgt := 76) hx hb dX2_aboutFrame_10 (by decide) (by decide) (by decide) (by decide) ?_
      refine lv_aload_n hx hb dX2_aboutFrame_76 rfl (lv_at hl 0 rfl) ?_
      refine va_get (D := D) (ci := 2) (v := .ref (q 6)) (C := RX2) (T := TX2) (N := 15) hx hb hts hin2 hown hK hP 0 rfl rfl 5 (by decide) (hts (.fieldLink RX2 27 "ProofMarks$Sheet" "sizes" "[I") (List.mem_of_getElem? (i := 5) rfl)) (fun _ h9 => h9) rfl dX2_aboutFrame_77 ?_
      refine lv_iload_n hx hb dX2_aboutFrame_80 rfl (lv_at hl 1 rfl) ?_
      refine kx_iald (v := nI ((S 2) j3)) hx hb hK hP 6 0 rfl rfl (by omega) (by decide) rfl dX2_aboutFrame_81 ?_
      have := hI.size j3 (by omega)
      exact W.iret hx hb hr (fun t ht _ => ⟨_, rfl, (by simp only [pm_of, pm_ix_in hj3 (show (30 : Nat) < 2 ^ 31 by decide), pm_ix_in (show (4 : Nat) < 6 by decide) (show (6 : Nat) < 2 ^ 31 by decide)]), ht⟩) (fun _ h => absurd h List.not_mem_nil) dX2_aboutFrame_82
    · skip
      refine lv_tableIn (off := 73) (tgt := 83) hx hb dX2_aboutFrame_10 (by decide) (by decide) (by decide) (by decide) ?_
      refine lv_aload_n hx hb dX2_aboutFrame_83 rfl (lv_at hl 0 rfl) ?_
      refine va_get (D := D) (ci := 2) (v := .ref (q 7)) (C := RX2) (T := TX2) (N := 15) hx hb hts hin2 hown hK hP 0 rfl rfl 6 (by decide) (hts (.fieldLink RX2 30 "ProofMarks$Sheet" "chosenIn" "[I") (List.mem_of_getElem? (i := 6) rfl)) (fun _ h9 => h9) rfl dX2_aboutFrame_84 ?_
      refine lv_iload_n hx hb dX2_aboutFrame_87 rfl (lv_at hl 1 rfl) ?_
      refine kx_iald (v := pm_ci ((S 3) j3)) hx hb hK hP 7 0 rfl rfl (by omega) (by decide) rfl dX2_aboutFrame_88 ?_
      exact W.iret hx hb hr (fun t ht _ => ⟨_, rfl, (by simp only [pm_of, pm_ix_in hj3 (show (30 : Nat) < 2 ^ 31 by decide), pm_ix_in (show (5 : Nat) < 6 by decide) (show (6 : Nat) < 2 ^ 31 by decide)]), ht⟩) (fun _ h => absurd h List.not_mem_nil) dX2_aboutFrame_89
  · skip
    refine lv_if_ne (tgt := 9) hx hb dX2_aboutFrame_4 (by decide) (fun c6 => (c6 (by decide)).elim) (fun _ => ?_)
    refine lv_iconst (v := -1) hx hb dX2_aboutFrame_7 (by decide) ?_
    exact W.iret hx hb hr (fun t ht _ => ⟨_, rfl, (by simp only [pm_of, pm_ix_out hnj3]), ht⟩) (fun _ h => absurd h List.not_mem_nil) dX2_aboutFrame_8

set_option maxHeartbeats 4000000 in
set_option maxRecDepth 100000 in
theorem k_X2_aboutEditor (l : Launch) (D : va_G) (y : Nat → ClassId) (q : Nat → Nat) (S : Nat → Nat → Nat) (xe xw : Int32) (hI : pm_Inv S) : Met l yX2_aboutEditor wsX2_aboutEditor ({ frames := 3, cells := 0, slots := 0, locals := 68 } : Room) (pm_ro D (pm_ty y) [.ref (q 0), .int xe, .int xw] (pm_shS y q S)) (vp_Si (fun r : Int32 => r = pm_ed S xe xw)) 0 0 (fun _ => False) := by
  refine Met.ofW (cc := cX2_aboutEditor) (maxL := 3) (ret := (some .int)) (by decide) rfl ?_
  intro p e s m args below meth c s₁ B hml hpre
  obtain ⟨rfl, hP, hK⟩ := hpre
  have hx := B.exec
  have hb := B.bytes
  have hr := B.returns
  have hts := atoms_spec (ws := wsX2_aboutEditor) B.pre
  have hown : s.vm.findClass RX2 = some m.cls := findClass_of_methodNamed B.named
  have hlocks := B.notSynchronized
  have hin2 : ∀ w ∈ u_ws RX2 TX2 15, w ∈ wsX2_aboutEditor := fun w h => List.mem_cons_of_mem _ (List.mem_append_right _ h)
  have hP : va_P D vwCl (pm_shS y q S) s.heap := hP
  have hl := lv_entry ([.ref (q 0), .int xe, .int xw]) (n := 3) (Nat.le_of_ble_eq_true rfl)
  rw [lg_entry_eq]
  generalize (lg_sl ([.ref (q 0), .int xe, .int xw]) ++ List.replicate (3 - (lg_sl ([.ref (q 0), .int xe, .int xw])).length) Slot.unset).toArray = ls at hl ⊢
  have hl : lv_has ls 3 [(0, .ref (q 0)), (1, .int xe), (2, .int xw)] := hl
  refine lv_iload_n hx hb dX2_aboutEditor_0 rfl (lv_at hl 1 rfl) ?_
  refine vp_callSi (W.runS (As := [.int xe]) (rest := []) ⟨hx, hb, hml, hown, hts⟩ (k_X2_isEditor l xe) (va_cwS 1 hts gX2_aboutEditor_X2_isEditor rfl rfl rfl hd_X2_isEditor ⟨Nat.le_of_ble_eq_true rfl, Nat.le_of_ble_eq_true rfl⟩) ⟨pm_no_blind, pm_no_pre⟩ rfl rfl hl.1 rfl (lv_room (Nat.le_of_ble_eq_true rfl)) dX2_aboutEditor_1 ⟨Nat.le_of_ble_eq_true rfl, Nat.le_of_ble_eq_true rfl⟩) (fun r1 h2 => ?_)
  rcases h2 with ⟨j3, hj3, ej3, rfl⟩ | ⟨hnj3, rfl⟩
  · subst ej3
    refine lv_if_ne (tgt := 9) hx hb dX2_aboutEditor_4 (by decide) (fun _ => ?_) (fun c4 => absurd c4 (by decide))
    refine lv_iload_n hx hb dX2_aboutEditor_9 rfl (lv_at hl 2 rfl) ?_
    have hsw5 : (xw < 0 ∨ nI 7 ≤ xw) ∨ xw = nI 0 ∨ xw = nI 1 ∨ xw = nI 2 ∨ xw = nI 3 ∨ xw = nI 4 ∨ xw = nI 5 ∨ xw = nI 6 := by
      rcases pm_cases xw (n := 7) (by decide) with h | ⟨j, hj, rfl⟩
      · exact Or.inl h
      · rcases (show j = 0 ∨ j = 1 ∨ j = 2 ∨ j = 3 ∨ j = 4 ∨ j = 5 ∨ j = 6 by omega) with rfl | rfl | rfl | rfl | rfl | rfl | rfl <;> simp
    rcases hsw5 with hw | rfl | rfl | rfl | rfl | rfl | rfl | rfl
    · skip
      refine lv_tableOut (tgt := 100) hx hb dX2_aboutEditor_10 (pm_swout (n := 6) (by decide) hw) (by decide) ?_
      refine lv_bipush (v := (-2)) hx hb dX2_aboutEditor_100 (by decide) ?_
      exact W.iret hx hb hr (fun t ht _ => ⟨_, rfl, (by simp only [pm_ed, pm_ix_in hj3 (show (3 : Nat) < 2 ^ 31 by decide), pm_ix_out hw]), ht⟩) (fun _ h => absurd h List.not_mem_nil) dX2_aboutEditor_102
    · skip
      refine lv_tableIn (off := 42) (tgt := 52) hx hb dX2_aboutEditor_10 (by decide) (by decide) (by decide) (by decide) ?_
      refine lv_aload_n hx hb dX2_aboutEditor_52 rfl (lv_at hl 0 rfl) ?_
      refine va_get (D := D) (ci := 2) (v := .ref (q 8)) (C := RX2) (T := TX2) (N := 15) hx hb hts hin2 hown hK hP 0 rfl rfl 7 (by decide) (hts (.fieldLink RX2 33 "ProofMarks$Sheet" "points" "[I") (List.mem_of_getElem? (i := 1) rfl)) (fun _ h9 => h9) rfl dX2_aboutEditor_53 ?_
      refine lv_iload_n hx hb dX2_aboutEditor_56 rfl (lv_at hl 1 rfl) ?_
      refine kx_iald (v := nI ((S 5) j3)) hx hb hK hP 8 0 rfl rfl (by omega) (by decide) rfl dX2_aboutEditor_57 ?_
      have := hI.pts j3 (by omega)
      exact W.iret hx hb hr (fun t ht _ => ⟨_, rfl, (by simp only [pm_ed, pm_ix_in hj3 (show (3 : Nat) < 2 ^ 31 by decide), pm_ix_in (show (0 : Nat) < 7 by decide) (show (7 : Nat) < 2 ^ 31 by decide)]), ht⟩) (fun _ h => absurd h List.not_mem_nil) dX2_aboutEditor_58
    · skip
      refine lv_tableIn (off := 49) (tgt := 59) hx hb dX2_aboutEditor_10 (by decide) (by decide) (by decide) (by decide) ?_
      refine lv_aload_n hx hb dX2_aboutEditor_59 rfl (lv_at hl 0 rfl) ?_
      refine lv_iload_n hx hb dX2_aboutEditor_60 rfl (lv_at hl 1 rfl) ?_
      refine lv_iconst (v := nI 1) hx hb dX2_aboutEditor_61 (by decide) ?_
      refine vp_callSi (W.runV (As := [.int (nI j3), .int (nI 1)]) (rest := []) ⟨hx, hb, hml, hown, hts⟩ (k_X2_marksOf l D y q S j3 1 hI (by omega) (by omega)) (cwV 2 hts gX2_aboutEditor_X2_marksOf rfl rfl rfl hd_X2_marksOf ⟨Nat.le_of_ble_eq_true rfl, Nat.le_of_ble_eq_true rfl⟩) ⟨pm_ro_blind, va_recv hK hP (ci := 2) (q0 := 0) rfl rfl, pm_ro_pre hP hK⟩ rfl rfl hl.1 rfl (lv_room (Nat.le_of_ble_eq_true rfl)) dX2_aboutEditor_62 ⟨Nat.le_of_ble_eq_true rfl, Nat.le_of_ble_eq_true rfl⟩) (fun r6 h7 => ?_)
      obtain rfl : r6 = nI (pm_cnt S j3 1 30) := h7
      have := pm_cnt_le S j3 1 30
      exact W.iret hx hb hr (fun t ht _ => ⟨_, rfl, (by simp only [pm_ed, pm_ix_in hj3 (show (3 : Nat) < 2 ^ 31 by decide), pm_ix_in (show (1 : Nat) < 7 by decide) (show (7 : Nat) < 2 ^ 31 by decide)]), ht⟩) (fun _ h => absurd h List.not_mem_nil) dX2_aboutEditor_65
    · skip
      refine lv_tableIn (off := 56) (tgt := 66) hx hb dX2_aboutEditor_10 (by decide) (by decide) (by decide) (by decide) ?_
      refine lv_aload_n hx hb dX2_aboutEditor_66 rfl (lv_at hl 0 rfl) ?_
      refine lv_iload_n hx hb dX2_aboutEditor_67 rfl (lv_at hl 1 rfl) ?_
      refine lv_iconst (v := nI 2) hx hb dX2_aboutEditor_68 (by decide) ?_
      refine vp_callSi (W.runV (As := [.int (nI j3), .int (nI 2)]) (rest := []) ⟨hx, hb, hml, hown, hts⟩ (k_X2_marksOf l D y q S j3 2 hI (by omega) (by omega)) (cwV 2 hts gX2_aboutEditor_X2_marksOf rfl rfl rfl hd_X2_marksOf ⟨Nat.le_of_ble_eq_true rfl, Nat.le_of_ble_eq_true rfl⟩) ⟨pm_ro_blind, va_recv hK hP (ci := 2) (q0 := 0) rfl rfl, pm_ro_pre hP hK⟩ rfl rfl hl.1 rfl (lv_room (Nat.le_of_ble_eq_true rfl)) dX2_aboutEditor_69 ⟨Nat.le_of_ble_eq_true rfl, Nat.le_of_ble_eq_true rfl⟩) (fun r8 h9 => ?_)
      obtain rfl : r8 = nI (pm_cnt S j3 2 30) := h9
      have := pm_cnt_le S j3 2 30
      exact W.iret hx hb hr (fun t ht _ => ⟨_, rfl, (by simp only [pm_ed, pm_ix_in hj3 (show (3 : Nat) < 2 ^ 31 by decide), pm_ix_in (show (2 : Nat) < 7 by decide) (show (7 : Nat) < 2 ^ 31 by decide)]), ht⟩) (fun _ h => absurd h List.not_mem_nil) dX2_aboutEditor_72
    · skip
      refine lv_tableIn (off := 63) (tgt := 73) hx hb dX2_aboutEditor_10 (by decide) (by decide) (by decide) (by decide) ?_
      refine lv_aload_n hx hb dX2_aboutEditor_73 rfl (lv_at hl 0 rfl) ?_
      refine lv_iload_n hx hb dX2_aboutEditor_74 rfl (lv_at hl 1 rfl) ?_
      refine vp_callSi (W.runV (As := [.int (nI j3)]) (rest := []) ⟨hx, hb, hml, hown, hts⟩ (k_X2_vetoesLeft l D y q S j3 hI (by omega)) (cwV 1 hts gX2_aboutEditor_X2_vetoesLeft rfl rfl rfl hd_X2_vetoesLeft ⟨Nat.le_of_ble_eq_true rfl, Nat.le_of_ble_eq_true rfl⟩) ⟨pm_ro_blind, va_recv hK hP (ci := 2) (q0 := 0) rfl rfl, pm_ro_pre hP hK⟩ rfl rfl hl.1 rfl (lv_room (Nat.le_of_ble_eq_true rfl)) dX2_aboutEditor_75 ⟨Nat.le_of_ble_eq_true rfl, Nat.le_of_ble_eq_true rfl⟩) (fun r10 h11 => ?_)
      obtain rfl : r10 = nI (S 9 1 - pm_cnt S j3 2 30) := h11
      have := hI.set9 1 (by decide)
      exact W.iret hx hb hr (fun t ht _ => ⟨_, rfl, (by simp only [pm_ed, pm_ix_in hj3 (show (3 : Nat) < 2 ^ 31 by decide), pm_ix_in (show (3 : Nat) < 7 by decide) (show (7 : Nat) < 2 ^ 31 by decide)]), ht⟩) (fun _ h => absurd h List.not_mem_nil) dX2_aboutEditor_78
    · skip
      refine lv_tableIn (off := 69) (tgt := 79) hx hb dX2_aboutEditor_10 (by decide) (by decide) (by decide) (by decide) ?_
      refine lv_aload_n hx hb dX2_aboutEditor_79 rfl (lv_at hl 0 rfl) ?_
      refine va_get (D := D) (ci := 2) (v := .ref (q 9)) (C := RX2) (T := TX2) (N := 15) hx hb hts hin2 hown hK hP 0 rfl rfl 8 (by decide) (hts (.fieldLink RX2 36 "ProofMarks$Sheet" "arguments" "[I") (List.mem_of_getElem? (i := 2) rfl)) (fun _ h9 => h9) rfl dX2_aboutEditor_80 ?_
      refine lv_iload_n hx hb dX2_aboutEditor_83 rfl (lv_at hl 1 rfl) ?_
      refine kx_iald (v := nI ((S 6) j3)) hx hb hK hP 9 0 rfl rfl (by omega) (by decide) rfl dX2_aboutEditor_84 ?_
      exact W.iret hx hb hr (fun t ht _ => ⟨_, rfl, (by simp only [pm_ed, pm_ix_in hj3 (show (3 : Nat) < 2 ^ 31 by decide), pm_ix_in (show (4 : Nat) < 7 by decide) (show (7 : Nat) < 2 ^ 31 by decide)]), ht⟩) (fun _ h => absurd h List.not_mem_nil) dX2_aboutEditor_85
    · skip
      refine lv_tableIn (off := 76) (tgt := 86) hx hb dX2_aboutEditor_10 (by decide) (by decide) (by decide) (by decide) ?_
      refine lv_aload_n hx hb dX2_aboutEditor_86 rfl (lv_at hl 0 rfl) ?_
      refine va_get (D := D) (ci := 2) (v := .ref (q 10)) (C := RX2) (T := TX2) (N := 15) hx hb hts hin2 hown hK hP 0 rfl rfl 9 (by decide) (hts (.fieldLink RX2 39 "ProofMarks$Sheet" "lifted" "[I") (List.mem_of_getElem? (i := 3) rfl)) (fun _ h9 => h9) rfl dX2_aboutEditor_87 ?_
      refine lv_iload_n hx hb dX2_aboutEditor_90 rfl (lv_at hl 1 rfl) ?_
      refine kx_iald (v := nI ((S 7) j3)) hx hb hK hP 10 0 rfl rfl (by omega) (by decide) rfl dX2_aboutEditor_91 ?_
      exact W.iret hx hb hr (fun t ht _ => ⟨_, rfl, (by simp only [pm_ed, pm_ix_in hj3 (show (3 : Nat) < 2 ^ 31 by decide), pm_ix_in (show (5 : Nat) < 7 by decide) (show (7 : Nat) < 2 ^ 31 by decide)]), ht⟩) (fun _ h => absurd h List.not_mem_nil) dX2_aboutEditor_92
    · skip
      refine lv_tableIn (off := 83) (tgt := 93) hx hb dX2_aboutEditor_10 (by decide) (by decide) (by decide) (by decide) ?_
      refine lv_aload_n hx hb dX2_aboutEditor_93 rfl (lv_at hl 0 rfl) ?_
      refine va_get (D := D) (ci := 2) (v := .ref (q 11)) (C := RX2) (T := TX2) (N := 15) hx hb hts hin2 hown hK hP 0 rfl rfl 10 (by decide) (hts (.fieldLink RX2 42 "ProofMarks$Sheet" "favourites" "[I") (List.mem_of_getElem? (i := 4) rfl)) (fun _ h9 => h9) rfl dX2_aboutEditor_94 ?_
      refine lv_iload_n hx hb dX2_aboutEditor_97 rfl (lv_at hl 1 rfl) ?_
      refine kx_iald (v := nI ((S 8) j3)) hx hb hK hP 11 0 rfl rfl (by omega) (by decide) rfl dX2_aboutEditor_98 ?_
      exact W.iret hx hb hr (fun t ht _ => ⟨_, rfl, (by simp only [pm_ed, pm_ix_in hj3 (show (3 : Nat) < 2 ^ 31 by decide), pm_ix_in (show (6 : Nat) < 7 by decide) (show (7 : Nat) < 2 ^ 31 by decide)]), ht⟩) (fun _ h => absurd h List.not_mem_nil) dX2_aboutEditor_99
  · skip
    refine lv_if_ne (tgt := 9) hx hb dX2_aboutEditor_4 (by decide) (fun c12 => (c12 (by decide)).elim) (fun _ => ?_)
    refine lv_iconst (v := -1) hx hb dX2_aboutEditor_7 (by decide) ?_
    exact W.iret hx hb hr (fun t ht _ => ⟨_, rfl, (by simp only [pm_ed, pm_ix_out hnj3]), ht⟩) (fun _ h => absurd h List.not_mem_nil) dX2_aboutEditor_8

set_option maxHeartbeats 4000000 in
set_option maxRecDepth 100000 in
theorem k_X2_numberOf (l : Launch) (D : va_G) (y : Nat → ClassId) (q : Nat → Nat) (S : Nat → Nat → Nat) (xw : Int32) (hI : pm_Inv S) : Met l yX2_numberOf wsX2_numberOf ({ frames := 2, cells := 0, slots := 0, locals := 44 } : Room) (pm_ro D (pm_ty y) [.ref (q 0), .int xw] (pm_shS y q S)) (vp_Si (fun r : Int32 => r = pm_co S xw)) 0 0 (fun _ => False) := by
  refine Met.ofW (cc := cX2_numberOf) (maxL := 2) (ret := (some .int)) (by decide) rfl ?_
  intro p e s m args below meth c s₁ B hml hpre
  obtain ⟨rfl, hP, hK⟩ := hpre
  have hx := B.exec
  have hb := B.bytes
  have hr := B.returns
  have hts := atoms_spec (ws := wsX2_numberOf) B.pre
  have hown : s.vm.findClass RX2 = some m.cls := findClass_of_methodNamed B.named
  have hlocks := B.notSynchronized
  have hin2 : ∀ w ∈ u_ws RX2 TX2 15, w ∈ wsX2_numberOf := fun w h => List.mem_cons_of_mem _ (List.mem_append_right _ h)
  have hP : va_P D vwCl (pm_shS y q S) s.heap := hP
  have hl := lv_entry ([.ref (q 0), .int xw]) (n := 2) (Nat.le_of_ble_eq_true rfl)
  rw [lg_entry_eq]
  generalize (lg_sl ([.ref (q 0), .int xw]) ++ List.replicate (2 - (lg_sl ([.ref (q 0), .int xw])).length) Slot.unset).toArray = ls at hl ⊢
  have hl : lv_has ls 2 [(0, .ref (q 0)), (1, .int xw)] := hl
  refine lv_iload_n hx hb dX2_numberOf_0 rfl (lv_at hl 1 rfl) ?_
  have hsw1 : (xw < 0 ∨ nI 15 ≤ xw) ∨ xw = nI 0 ∨ xw = nI 1 ∨ xw = nI 2 ∨ xw = nI 3 ∨ xw = nI 4 ∨ xw = nI 5 ∨ xw = nI 6 ∨ xw = nI 7 ∨ xw = nI 8 ∨ xw = nI 9 ∨ xw = nI 10 ∨ xw = nI 11 ∨ xw = nI 12 ∨ xw = nI 13 ∨ xw = nI 14 := by
    rcases pm_cases xw (n := 15) (by decide) with h | ⟨j, hj, rfl⟩
    · exact Or.inl h
    · rcases (show j = 0 ∨ j = 1 ∨ j = 2 ∨ j = 3 ∨ j = 4 ∨ j = 5 ∨ j = 6 ∨ j = 7 ∨ j = 8 ∨ j = 9 ∨ j = 10 ∨ j = 11 ∨ j = 12 ∨ j = 13 ∨ j = 14 by omega) with rfl | rfl | rfl | rfl | rfl | rfl | rfl | rfl | rfl | rfl | rfl | rfl | rfl | rfl | rfl <;> simp
  rcases hsw1 with hw | rfl | rfl | rfl | rfl | rfl | rfl | rfl | rfl | rfl | rfl | rfl | rfl | rfl | rfl | rfl
  · skip
    refine lv_tableOut (tgt := 140) hx hb dX2_numberOf_1 (pm_swout (n := 14) (by decide) hw) (by decide) ?_
    refine lv_bipush (v := (-2)) hx hb dX2_numberOf_140 (by decide) ?_
    exact W.iret hx hb hr (fun t ht _ => ⟨_, rfl, (by simp only [pm_co, pm_ix_out hw]), ht⟩) (fun _ h => absurd h List.not_mem_nil) dX2_numberOf_142
  · skip
    refine lv_tableIn (off := 75) (tgt := 76) hx hb dX2_numberOf_1 (by decide) (by decide) (by decide) (by decide) ?_
    refine lv_aload_n hx hb dX2_numberOf_76 rfl (lv_at hl 0 rfl) ?_
    refine va_get (D := D) (ci := 2) (v := .int (nI (S 10 0))) (C := RX2) (T := TX2) (N := 15) hx hb hts hin2 hown hK hP 0 rfl rfl 12 (by decide) (hts (.fieldLink RX2 48 "ProofMarks$Sheet" "rounds" "I") (List.mem_of_getElem? (i := 1) rfl)) (fun _ h9 => h9) rfl dX2_numberOf_77 ?_
    have := hI.rnd
    exact W.iret hx hb hr (fun t ht _ => ⟨_, rfl, (by simp only [pm_co, pm_ix_in (show (0 : Nat) < 15 by decide) (show (15 : Nat) < 2 ^ 31 by decide)]), ht⟩) (fun _ h => absurd h List.not_mem_nil) dX2_numberOf_80
  · skip
    refine lv_tableIn (off := 80) (tgt := 81) hx hb dX2_numberOf_1 (by decide) (by decide) (by decide) (by decide) ?_
    refine lv_aload_n hx hb dX2_numberOf_81 rfl (lv_at hl 0 rfl) ?_
    refine lv_iconst (v := nI 0) hx hb dX2_numberOf_82 (by decide) ?_
    refine vp_callSi (W.runV (As := [.int (nI 0)]) (rest := []) ⟨hx, hb, hml, hown, hts⟩ (k_X2_framesThatAre l D y q S 0 hI (by omega)) (cwV 1 hts gX2_numberOf_X2_framesThatAre rfl rfl rfl hd_X2_framesThatAre ⟨Nat.le_of_ble_eq_true rfl, Nat.le_of_ble_eq_true rfl⟩) ⟨pm_ro_blind, va_recv hK hP (ci := 2) (q0 := 0) rfl rfl, pm_ro_pre hP hK⟩ rfl rfl hl.1 rfl (lv_room (Nat.le_of_ble_eq_true rfl)) dX2_numberOf_83 ⟨Nat.le_of_ble_eq_true rfl, Nat.le_of_ble_eq_true rfl⟩) (fun r2 h3 => ?_)
    obtain rfl : r2 = nI (pm_hm S 0 30) := h3
    exact W.iret hx hb hr (fun t ht _ => ⟨_, rfl, (by simp only [pm_co, pm_ix_in (show (1 : Nat) < 15 by decide) (show (15 : Nat) < 2 ^ 31 by decide)]), ht⟩) (fun _ h => absurd h List.not_mem_nil) dX2_numberOf_86
  · skip
    refine lv_tableIn (off := 86) (tgt := 87) hx hb dX2_numberOf_1 (by decide) (by decide) (by decide) (by decide) ?_
    refine lv_aload_n hx hb dX2_numberOf_87 rfl (lv_at hl 0 rfl) ?_
    refine lv_iconst (v := nI 1) hx hb dX2_numberOf_88 (by decide) ?_
    refine vp_callSi (W.runV (As := [.int (nI 1)]) (rest := []) ⟨hx, hb, hml, hown, hts⟩ (k_X2_framesThatAre l D y q S 1 hI (by omega)) (cwV 1 hts gX2_numberOf_X2_framesThatAre rfl rfl rfl hd_X2_framesThatAre ⟨Nat.le_of_ble_eq_true rfl, Nat.le_of_ble_eq_true rfl⟩) ⟨pm_ro_blind, va_recv hK hP (ci := 2) (q0 := 0) rfl rfl, pm_ro_pre hP hK⟩ rfl rfl hl.1 rfl (lv_room (Nat.le_of_ble_eq_true rfl)) dX2_numberOf_89 ⟨Nat.le_of_ble_eq_true rfl, Nat.le_of_ble_eq_true rfl⟩) (fun r4 h5 => ?_)
    obtain rfl : r4 = nI (pm_hm S 1 30) := h5
    exact W.iret hx hb hr (fun t ht _ => ⟨_, rfl, (by simp only [pm_co, pm_ix_in (show (2 : Nat) < 15 by decide) (show (15 : Nat) < 2 ^ 31 by decide)]), ht⟩) (fun _ h => absurd h List.not_mem_nil) dX2_numberOf_92
  · skip
    refine lv_tableIn (off := 92) (tgt := 93) hx hb dX2_numberOf_1 (by decide) (by decide) (by decide) (by decide) ?_
    refine lv_aload_n hx hb dX2_numberOf_93 rfl (lv_at hl 0 rfl) ?_
    refine lv_iconst (v := nI 2) hx hb dX2_numberOf_94 (by decide) ?_
    refine vp_callSi (W.runV (As := [.int (nI 2)]) (rest := []) ⟨hx, hb, hml, hown, hts⟩ (k_X2_framesThatAre l D y q S 2 hI (by omega)) (cwV 1 hts gX2_numberOf_X2_framesThatAre rfl rfl rfl hd_X2_framesThatAre ⟨Nat.le_of_ble_eq_true rfl, Nat.le_of_ble_eq_true rfl⟩) ⟨pm_ro_blind, va_recv hK hP (ci := 2) (q0 := 0) rfl rfl, pm_ro_pre hP hK⟩ rfl rfl hl.1 rfl (lv_room (Nat.le_of_ble_eq_true rfl)) dX2_numberOf_95 ⟨Nat.le_of_ble_eq_true rfl, Nat.le_of_ble_eq_true rfl⟩) (fun r6 h7 => ?_)
    obtain rfl : r6 = nI (pm_hm S 2 30) := h7
    exact W.iret hx hb hr (fun t ht _ => ⟨_, rfl, (by simp only [pm_co, pm_ix_in (show (3 : Nat) < 15 by decide) (show (15 : Nat) < 2 ^ 31 by decide)]), ht⟩) (fun _ h => absurd h List.not_mem_nil) dX2_numberOf_98
  · skip
    refine lv_tableIn (off := 98) (tgt := 99) hx hb dX2_numberOf_1 (by decide) (by decide) (by decide) (by decide) ?_
    refine lv_aload_n hx hb dX2_numberOf_99 rfl (lv_at hl 0 rfl) ?_
    refine lv_iconst (v := nI 3) hx hb dX2_numberOf_100 (by decide) ?_
    refine vp_callSi (W.runV (As := [.int (nI 3)]) (rest := []) ⟨hx, hb, hml, hown, hts⟩ (k_X2_framesThatAre l D y q S 3 hI (by omega)) (cwV 1 hts gX2_numberOf_X2_framesThatAre rfl rfl rfl hd_X2_framesThatAre ⟨Nat.le_of_ble_eq_true rfl, Nat.le_of_ble_eq_true rfl⟩) ⟨pm_ro_blind, va_recv hK hP (ci := 2) (q0 := 0) rfl rfl, pm_ro_pre hP hK⟩ rfl rfl hl.1 rfl (lv_room (Nat.le_of_ble_eq_true rfl)) dX2_numberOf_101 ⟨Nat.le_of_ble_eq_true rfl, Nat.le_of_ble_eq_true rfl⟩) (fun r8 h9 => ?_)
    obtain rfl : r8 = nI (pm_hm S 3 30) := h9
    exact W.iret hx hb hr (fun t ht _ => ⟨_, rfl, (by simp only [pm_co, pm_ix_in (show (4 : Nat) < 15 by decide) (show (15 : Nat) < 2 ^ 31 by decide)]), ht⟩) (fun _ h => absurd h List.not_mem_nil) dX2_numberOf_104
  · skip
    refine lv_tableIn (off := 104) (tgt := 105) hx hb dX2_numberOf_1 (by decide) (by decide) (by decide) (by decide) ?_
    refine lv_aload_n hx hb dX2_numberOf_105 rfl (lv_at hl 0 rfl) ?_
    refine va_get (D := D) (ci := 2) (v := .int (nI (S 10 1))) (C := RX2) (T := TX2) (N := 15) hx hb hts hin2 hown hK hP 0 rfl rfl 13 (by decide) (hts (.fieldLink RX2 52 "ProofMarks$Sheet" "paper" "I") (List.mem_of_getElem? (i := 2) rfl)) (fun _ h9 => h9) rfl dX2_numberOf_106 ?_
    have := hI.pap
    exact W.iret hx hb hr (fun t ht _ => ⟨_, rfl, (by simp only [pm_co, pm_ix_in (show (5 : Nat) < 15 by decide) (show (15 : Nat) < 2 ^ 31 by decide)]), ht⟩) (fun _ h => absurd h List.not_mem_nil) dX2_numberOf_109
  · skip
    refine lv_tableIn (off := 109) (tgt := 110) hx hb dX2_numberOf_1 (by decide) (by decide) (by decide) (by decide) ?_
    refine lv_aload_n hx hb dX2_numberOf_110 rfl (lv_at hl 0 rfl) ?_
    refine va_get (D := D) (ci := 2) (v := .int (nI (S 10 2))) (C := RX2) (T := TX2) (N := 15) hx hb hts hin2 hown hK hP 0 rfl rfl 14 (by decide) (hts (.fieldLink RX2 55 "ProofMarks$Sheet" "paperTaken" "I") (List.mem_of_getElem? (i := 3) rfl)) (fun _ h9 => h9) rfl dX2_numberOf_111 ?_
    exact W.iret hx hb hr (fun t ht _ => ⟨_, rfl, (by simp only [pm_co, pm_ix_in (show (6 : Nat) < 15 by decide) (show (15 : Nat) < 2 ^ 31 by decide)]), ht⟩) (fun _ h => absurd h List.not_mem_nil) dX2_numberOf_114
  · skip
    refine lv_tableIn (off := 114) (tgt := 115) hx hb dX2_numberOf_1 (by decide) (by decide) (by decide) (by decide) ?_
    refine lv_aload_n hx hb dX2_numberOf_115 rfl (lv_at hl 0 rfl) ?_
    refine va_get (D := D) (ci := 2) (v := .ref (q 12)) (C := RX2) (T := TX2) (N := 15) hx hb hts hin2 hown hK hP 0 rfl rfl 11 (by decide) (hts (.fieldLink RX2 45 "ProofMarks$Sheet" "prints" "[I") (List.mem_of_getElem? (i := 4) rfl)) (fun _ h9 => h9) rfl dX2_numberOf_116 ?_
    refine lv_iload_n hx hb dX2_numberOf_119 rfl (lv_at hl 1 rfl) ?_
    refine lv_bipush (v := nI 6) hx hb dX2_numberOf_120 (by decide) ?_
    refine kx_isub hx hb (by omega) dX2_numberOf_122 ?_
    refine lv_topi (fun x10 e11 => ?_)
    obtain rfl : x10 = nI 1 := e11.trans (rfl)
    refine lv_topi (fun x12 e13 => ?_)
    obtain rfl : x12 = nI 1 := e13.trans (rfl)
    refine kx_iald (v := nI ((S 11) 1)) hx hb hK hP 12 0 rfl rfl (by omega) (by decide) rfl dX2_numberOf_123 ?_
    exact W.iret hx hb hr (fun t ht _ => ⟨_, rfl, (by simp only [pm_co, pm_ix_in (show (7 : Nat) < 15 by decide) (show (15 : Nat) < 2 ^ 31 by decide)]), ht⟩) (fun _ h => absurd h List.not_mem_nil) dX2_numberOf_124
  · skip
    refine lv_tableIn (off := 114) (tgt := 115) hx hb dX2_numberOf_1 (by decide) (by decide) (by decide) (by decide) ?_
    refine lv_aload_n hx hb dX2_numberOf_115 rfl (lv_at hl 0 rfl) ?_
    refine va_get (D := D) (ci := 2) (v := .ref (q 12)) (C := RX2) (T := TX2) (N := 15) hx hb hts hin2 hown hK hP 0 rfl rfl 11 (by decide) (hts (.fieldLink RX2 45 "ProofMarks$Sheet" "prints" "[I") (List.mem_of_getElem? (i := 4) rfl)) (fun _ h9 => h9) rfl dX2_numberOf_116 ?_
    refine lv_iload_n hx hb dX2_numberOf_119 rfl (lv_at hl 1 rfl) ?_
    refine lv_bipush (v := nI 6) hx hb dX2_numberOf_120 (by decide) ?_
    refine kx_isub hx hb (by omega) dX2_numberOf_122 ?_
    refine lv_topi (fun x14 e15 => ?_)
    obtain rfl : x14 = nI 2 := e15.trans (rfl)
    refine lv_topi (fun x16 e17 => ?_)
    obtain rfl : x16 = nI 2 := e17.trans (rfl)
    refine kx_iald (v := nI ((S 11) 2)) hx hb hK hP 12 0 rfl rfl (by omega) (by decide) rfl dX2_numberOf_123 ?_
    exact W.iret hx hb hr (fun t ht _ => ⟨_, rfl, (by simp only [pm_co, pm_ix_in (show (8 : Nat) < 15 by decide) (show (15 : Nat) < 2 ^ 31 by decide)]), ht⟩) (fun _ h => absurd h List.not_mem_nil) dX2_numberOf_124
  · skip
    refine lv_tableIn (off := 114) (tgt := 115) hx hb dX2_numberOf_1 (by decide) (by decide) (by decide) (by decide) ?_
    refine lv_aload_n hx hb dX2_numberOf_115 rfl (lv_at hl 0 rfl) ?_
    refine va_get (D := D) (ci := 2) (v := .ref (q 12)) (C := RX2) (T := TX2) (N := 15) hx hb hts hin2 hown hK hP 0 rfl rfl 11 (by decide) (hts (.fieldLink RX2 45 "ProofMarks$Sheet" "prints" "[I") (List.mem_of_getElem? (i := 4) rfl)) (fun _ h9 => h9) rfl dX2_numberOf_116 ?_
    refine lv_iload_n hx hb dX2_numberOf_119 rfl (lv_at hl 1 rfl) ?_
    refine lv_bipush (v := nI 6) hx hb dX2_numberOf_120 (by decide) ?_
    refine kx_isub hx hb (by omega) dX2_numberOf_122 ?_
    refine lv_topi (fun x18 e19 => ?_)
    obtain rfl : x18 = nI 3 := e19.trans (rfl)
    refine lv_topi (fun x20 e21 => ?_)
    obtain rfl : x20 = nI 3 := e21.trans (rfl)
    refine kx_iald (v := nI ((S 11) 3)) hx hb hK hP 12 0 rfl rfl (by omega) (by decide) rfl dX2_numberOf_123 ?_
    exact W.iret hx hb hr (fun t ht _ => ⟨_, rfl, (by simp only [pm_co, pm_ix_in (show (9 : Nat) < 15 by decide) (show (15 : Nat) < 2 ^ 31 by decide)]), ht⟩) (fun _ h => absurd h List.not_mem_nil) dX2_numberOf_124
  · skip
    refine lv_tableIn (off := 124) (tgt := 125) hx hb dX2_numberOf_1 (by decide) (by decide) (by decide) (by decide) ?_
    refine lv_aload_n hx hb dX2_numberOf_125 rfl (lv_at hl 0 rfl) ?_
    refine vp_callSi (W.runV (As := []) (rest := []) ⟨hx, hb, hml, hown, hts⟩ (k_X2_longestRow l D y q S hI) (cwV 0 hts gX2_numberOf_X2_longestRow rfl rfl rfl hd_X2_longestRow ⟨Nat.le_of_ble_eq_true rfl, Nat.le_of_ble_eq_true rfl⟩) ⟨pm_ro_blind, va_recv hK hP (ci := 2) (q0 := 0) rfl rfl, pm_ro_pre hP hK⟩ rfl rfl hl.1 rfl (lv_room (Nat.le_of_ble_eq_true rfl)) dX2_numberOf_126 ⟨Nat.le_of_ble_eq_true rfl, Nat.le_of_ble_eq_true rfl⟩) (fun r22 h23 => ?_)
    obtain rfl : r22 = nI (pm_lm S 30) := h23
    exact W.iret hx hb hr (fun t ht _ => ⟨_, rfl, (by simp only [pm_co, pm_ix_in (show (10 : Nat) < 15 by decide) (show (15 : Nat) < 2 ^ 31 by decide)]), ht⟩) (fun _ h => absurd h List.not_mem_nil) dX2_numberOf_129
  · skip
    refine lv_tableIn (off := 129) (tgt := 130) hx hb dX2_numberOf_1 (by decide) (by decide) (by decide) (by decide) ?_
    refine lv_aload_n hx hb dX2_numberOf_130 rfl (lv_at hl 0 rfl) ?_
    refine va_get (D := D) (ci := 2) (v := .ref (q 1)) (C := RX2) (T := TX2) (N := 15) hx hb hts hin2 hown hK hP 0 rfl rfl 0 (by decide) (hts (.fieldLink RX2 11 "ProofMarks$Sheet" "settings" "[I") (List.mem_of_getElem? (i := 5) rfl)) (fun _ h9 => h9) rfl dX2_numberOf_131 ?_
    refine lv_iload_n hx hb dX2_numberOf_134 rfl (lv_at hl 1 rfl) ?_
    refine lv_bipush (v := nI 11) hx hb dX2_numberOf_135 (by decide) ?_
    refine kx_isub hx hb (by omega) dX2_numberOf_137 ?_
    refine lv_topi (fun x24 e25 => ?_)
    obtain rfl : x24 = nI 0 := e25.trans (rfl)
    refine lv_topi (fun x26 e27 => ?_)
    obtain rfl : x26 = nI 0 := e27.trans (rfl)
    refine kx_iald (v := nI ((S 9) 0)) hx hb hK hP 1 0 rfl rfl (by omega) (by decide) rfl dX2_numberOf_138 ?_
    have := hI.set9 0 (by omega)
    exact W.iret hx hb hr (fun t ht _ => ⟨_, rfl, (by simp only [pm_co, pm_ix_in (show (11 : Nat) < 15 by decide) (show (15 : Nat) < 2 ^ 31 by decide)]), ht⟩) (fun _ h => absurd h List.not_mem_nil) dX2_numberOf_139
  · skip
    refine lv_tableIn (off := 129) (tgt := 130) hx hb dX2_numberOf_1 (by decide) (by decide) (by decide) (by decide) ?_
    refine lv_aload_n hx hb dX2_numberOf_130 rfl (lv_at hl 0 rfl) ?_
    refine va_get (D := D) (ci := 2) (v := .ref (q 1)) (C := RX2) (T := TX2) (N := 15) hx hb hts hin2 hown hK hP 0 rfl rfl 0 (by decide) (hts (.fieldLink RX2 11 "ProofMarks$Sheet" "settings" "[I") (List.mem_of_getElem? (i := 5) rfl)) (fun _ h9 => h9) rfl dX2_numberOf_131 ?_
    refine lv_iload_n hx hb dX2_numberOf_134 rfl (lv_at hl 1 rfl) ?_
    refine lv_bipush (v := nI 11) hx hb dX2_numberOf_135 (by decide) ?_
    refine kx_isub hx hb (by omega) dX2_numberOf_137 ?_
    refine lv_topi (fun x28 e29 => ?_)
    obtain rfl : x28 = nI 1 := e29.trans (rfl)
    refine lv_topi (fun x30 e31 => ?_)
    obtain rfl : x30 = nI 1 := e31.trans (rfl)
    refine kx_iald (v := nI ((S 9) 1)) hx hb hK hP 1 0 rfl rfl (by omega) (by decide) rfl dX2_numberOf_138 ?_
    have := hI.set9 1 (by omega)
    exact W.iret hx hb hr (fun t ht _ => ⟨_, rfl, (by simp only [pm_co, pm_ix_in (show (12 : Nat) < 15 by decide) (show (15 : Nat) < 2 ^ 31 by decide)]), ht⟩) (fun _ h => absurd h List.not_mem_nil) dX2_numberOf_139
  · skip
    refine lv_tableIn (off := 129) (tgt := 130) hx hb dX2_numberOf_1 (by decide) (by decide) (by decide) (by decide) ?_
    refine lv_aload_n hx hb dX2_numberOf_130 rfl (lv_at hl 0 rfl) ?_
    refine va_get (D := D) (ci := 2) (v := .ref (q 1)) (C := RX2) (T := TX2) (N := 15) hx hb hts hin2 hown hK hP 0 rfl rfl 0 (by decide) (hts (.fieldLink RX2 11 "ProofMarks$Sheet" "settings" "[I") (List.mem_of_getElem? (i := 5) rfl)) (fun _ h9 => h9) rfl dX2_numberOf_131 ?_
    refine lv_iload_n hx hb dX2_numberOf_134 rfl (lv_at hl 1 rfl) ?_
    refine lv_bipush (v := nI 11) hx hb dX2_numberOf_135 (by decide) ?_
    refine kx_isub hx hb (by omega) dX2_numberOf_137 ?_
    refine lv_topi (fun x32 e33 => ?_)
    obtain rfl : x32 = nI 2 := e33.trans (rfl)
    refine lv_topi (fun x34 e35 => ?_)
    obtain rfl : x34 = nI 2 := e35.trans (rfl)
    refine kx_iald (v := nI ((S 9) 2)) hx hb hK hP 1 0 rfl rfl (by omega) (by decide) rfl dX2_numberOf_138 ?_
    have := hI.set9 2 (by omega)
    exact W.iret hx hb hr (fun t ht _ => ⟨_, rfl, (by simp only [pm_co, pm_ix_in (show (13 : Nat) < 15 by decide) (show (15 : Nat) < 2 ^ 31 by decide)]), ht⟩) (fun _ h => absurd h List.not_mem_nil) dX2_numberOf_139
  · skip
    refine lv_tableIn (off := 129) (tgt := 130) hx hb dX2_numberOf_1 (by decide) (by decide) (by decide) (by decide) ?_
    refine lv_aload_n hx hb dX2_numberOf_130 rfl (lv_at hl 0 rfl) ?_
    refine va_get (D := D) (ci := 2) (v := .ref (q 1)) (C := RX2) (T := TX2) (N := 15) hx hb hts hin2 hown hK hP 0 rfl rfl 0 (by decide) (hts (.fieldLink RX2 11 "ProofMarks$Sheet" "settings" "[I") (List.mem_of_getElem? (i := 5) rfl)) (fun _ h9 => h9) rfl dX2_numberOf_131 ?_
    refine lv_iload_n hx hb dX2_numberOf_134 rfl (lv_at hl 1 rfl) ?_
    refine lv_bipush (v := nI 11) hx hb dX2_numberOf_135 (by decide) ?_
    refine kx_isub hx hb (by omega) dX2_numberOf_137 ?_
    refine lv_topi (fun x36 e37 => ?_)
    obtain rfl : x36 = nI 3 := e37.trans (rfl)
    refine lv_topi (fun x38 e39 => ?_)
    obtain rfl : x38 = nI 3 := e39.trans (rfl)
    refine kx_iald (v := nI ((S 9) 3)) hx hb hK hP 1 0 rfl rfl (by omega) (by decide) rfl dX2_numberOf_138 ?_
    have := hI.set9 3 (by omega)
    exact W.iret hx hb hr (fun t ht _ => ⟨_, rfl, (by simp only [pm_co, pm_ix_in (show (14 : Nat) < 15 by decide) (show (15 : Nat) < 2 ^ 31 by decide)]), ht⟩) (fun _ h => absurd h List.not_mem_nil) dX2_numberOf_139

set_option maxHeartbeats 4000000 in
set_option maxRecDepth 100000 in
theorem k_X2_whyNotChosen (l : Launch) (D : va_G) (y : Nat → ClassId) (q : Nat → Nat) (S : Nat → Nat → Nat) (xf : Int32) (hI : pm_Inv S) : Met l yX2_whyNotChosen wsX2_whyNotChosen ({ frames := 2, cells := 0, slots := 0, locals := 42 } : Room) (pm_ro D (pm_ty y) [.ref (q 0), .int xf] (pm_shS y q S)) (vp_Si (fun r : Int32 => r = pm_why S xf)) 0 0 (fun _ => False) := by
  refine Met.ofW (cc := cX2_whyNotChosen) (maxL := 2) (ret := (some .int)) (by decide) rfl ?_
  intro p e s m args below meth c s₁ B hml hpre
  obtain ⟨rfl, hP, hK⟩ := hpre
  have hx := B.exec
  have hb := B.bytes
  have hr := B.returns
  have hts := atoms_spec (ws := wsX2_whyNotChosen) B.pre
  have hown : s.vm.findClass RX2 = some m.cls := findClass_of_methodNamed B.named
  have hlocks := B.notSynchronized
  have hin2 : ∀ w ∈ u_ws RX2 TX2 15, w ∈ wsX2_whyNotChosen := fun w h => List.mem_cons_of_mem _ (List.mem_append_right _ h)
  have hP : va_P D vwCl (pm_shS y q S) s.heap := hP
  have hl := lv_entry ([.ref (q 0), .int xf]) (n := 2) (Nat.le_of_ble_eq_true rfl)
  rw [lg_entry_eq]
  generalize (lg_sl ([.ref (q 0), .int xf]) ++ List.replicate (2 - (lg_sl ([.ref (q 0), .int xf])).length) Slot.unset).toArray = ls at hl ⊢
  have hl : lv_has ls 2 [(0, .ref (q 0)), (1, .int xf)] := hl
  refine lv_iload_n hx hb dX2_whyNotChosen_0 rfl (lv_at hl 1 rfl) ?_
  refine vp_callSi (W.runS (As := [.int xf]) (rest := []) ⟨hx, hb, hml, hown, hts⟩ (k_X2_isFrame l xf) (va_cwS 1 hts gX2_whyNotChosen_X2_isFrame rfl rfl rfl hd_X2_isFrame ⟨Nat.le_of_ble_eq_true rfl, Nat.le_of_ble_eq_true rfl⟩) ⟨pm_no_blind, pm_no_pre⟩ rfl rfl hl.1 rfl (lv_room (Nat.le_of_ble_eq_true rfl)) dX2_whyNotChosen_1 ⟨Nat.le_of_ble_eq_true rfl, Nat.le_of_ble_eq_true rfl⟩) (fun r1 h2 => ?_)
  rcases h2 with ⟨j3, hj3, ej3, rfl⟩ | ⟨hnj3, rfl⟩
  · subst ej3
    refine lv_if_ne (tgt := 9) hx hb dX2_whyNotChosen_4 (by decide) (fun _ => ?_) (fun c4 => absurd c4 (by decide))
    refine lv_aload_n hx hb dX2_whyNotChosen_9 rfl (lv_at hl 0 rfl) ?_
    refine va_get (D := D) (ci := 2) (v := .ref (q 2)) (C := RX2) (T := TX2) (N := 15) hx hb hts hin2 hown hK hP 0 rfl rfl 1 (by decide) (hts (.fieldLink RX2 15 "ProofMarks$Sheet" "how" "[I") (List.mem_of_getElem? (i := 1) rfl)) (fun _ h9 => h9) rfl dX2_whyNotChosen_10 ?_
    refine lv_iload_n hx hb dX2_whyNotChosen_13 rfl (lv_at hl 1 rfl) ?_
    refine kx_iald (v := nI ((S 0) j3)) hx hb hK hP 2 0 rfl rfl (by omega) (by decide) rfl dX2_whyNotChosen_14 ?_
    have := hI.how j3 (by omega)
    refine kx_if_eq (tgt := 20) hx hb (by omega) dX2_whyNotChosen_15 (by decide) (fun c5 => ?_) (fun c5 => ?_)
    · skip
      refine lv_aload_n hx hb dX2_whyNotChosen_20 rfl (lv_at hl 0 rfl) ?_
      refine va_get (D := D) (ci := 2) (v := .ref (q 4)) (C := RX2) (T := TX2) (N := 15) hx hb hts hin2 hown hK hP 0 rfl rfl 3 (by decide) (hts (.fieldLink RX2 21 "ProofMarks$Sheet" "crosses" "[I") (List.mem_of_getElem? (i := 2) rfl)) (fun _ h9 => h9) rfl dX2_whyNotChosen_21 ?_
      refine lv_iload_n hx hb dX2_whyNotChosen_24 rfl (lv_at hl 1 rfl) ?_
      refine kx_iald (v := nI (pm_ck ((S 4) j3))) hx hb hK hP 4 0 rfl rfl (by omega) (by decide) rfl dX2_whyNotChosen_25 ?_
      have := pm_ck8 ((S 4) j3)
      refine kx_if_eq (tgt := 31) hx hb (by omega) dX2_whyNotChosen_26 (by decide) (fun c6 => ?_) (fun c6 => ?_)
      · skip
        refine lv_aload_n hx hb dX2_whyNotChosen_31 rfl (lv_at hl 0 rfl) ?_
        refine lv_aload_n hx hb dX2_whyNotChosen_32 rfl (lv_at hl 0 rfl) ?_
        refine va_get (D := D) (ci := 2) (v := .ref (q 3)) (C := RX2) (T := TX2) (N := 15) hx hb hts hin2 hown hK hP 0 rfl rfl 2 (by decide) (hts (.fieldLink RX2 18 "ProofMarks$Sheet" "ticks" "[I") (List.mem_of_getElem? (i := 3) rfl)) (fun _ h9 => h9) rfl dX2_whyNotChosen_33 ?_
        refine lv_iload_n hx hb dX2_whyNotChosen_36 rfl (lv_at hl 1 rfl) ?_
        refine kx_iald (v := nI (pm_tk ((S 4) j3))) hx hb hK hP 3 0 rfl rfl (by omega) (by decide) rfl dX2_whyNotChosen_37 ?_
        have := pm_tk8 ((S 4) j3)
        refine lv_aload_n hx hb dX2_whyNotChosen_38 rfl (lv_at hl 0 rfl) ?_
        refine va_get (D := D) (ci := 2) (v := .ref (q 4)) (C := RX2) (T := TX2) (N := 15) hx hb hts hin2 hown hK hP 0 rfl rfl 3 (by decide) (hts (.fieldLink RX2 21 "ProofMarks$Sheet" "crosses" "[I") (List.mem_of_getElem? (i := 2) rfl)) (fun _ h9 => h9) rfl dX2_whyNotChosen_39 ?_
        refine lv_iload_n hx hb dX2_whyNotChosen_42 rfl (lv_at hl 1 rfl) ?_
        refine kx_iald (v := nI (pm_ck ((S 4) j3))) hx hb hK hP 4 0 rfl rfl (by omega) (by decide) rfl dX2_whyNotChosen_43 ?_
        have := pm_ck8 ((S 4) j3)
        refine vp_callSi (W.runV (As := [.int (nI (pm_tk ((S 4) j3))), .int (nI (pm_ck ((S 4) j3)))]) (rest := []) ⟨hx, hb, hml, hown, hts⟩ (k_X2_isWanted l D y q S (pm_tk ((S 4) j3)) (pm_ck ((S 4) j3)) (hI.set9 0 (by decide)) (by omega) (by omega)) (cwV 2 hts gX2_whyNotChosen_X2_isWanted rfl rfl rfl hd_X2_isWanted ⟨Nat.le_of_ble_eq_true rfl, Nat.le_of_ble_eq_true rfl⟩) ⟨pm_ro_blind, va_recv hK hP (ci := 2) (q0 := 0) rfl rfl, pm_ro_pre hP hK⟩ rfl rfl hl.1 rfl (lv_room (Nat.le_of_ble_eq_true rfl)) dX2_whyNotChosen_44 ⟨Nat.le_of_ble_eq_true rfl, Nat.le_of_ble_eq_true rfl⟩) (fun r7 h8 => ?_)
        rcases (show (((pm_ck ((S 4) j3)) = 0 ∧ S 9 0 ≤ pm_pc (pm_tk ((S 4) j3))) ∧ r7 = nI 1) ∨ (¬ ((pm_ck ((S 4) j3)) = 0 ∧ S 9 0 ≤ pm_pc (pm_tk ((S 4) j3))) ∧ r7 = nI 0) from h8) with ⟨hp9, rfl⟩ | ⟨hp9, rfl⟩
        · skip
          refine lv_if_eq (tgt := 54) hx hb dX2_whyNotChosen_47 (by decide) (fun c10 => absurd c10 (by decide)) (fun _ => ?_)
          refine lv_iconst (v := nI 0) hx hb dX2_whyNotChosen_50 (by decide) ?_
          refine lv_goto (tgt := 55) hx hb dX2_whyNotChosen_51 (by decide) ?_
          exact W.iret hx hb hr (fun t ht _ => ⟨_, rfl, (by simp only [pm_why, pm_ix_in hj3 (show (30 : Nat) < 2 ^ 31 by decide)] <;> (unfold pm_tc; (repeat' split) <;> first | rfl | (exfalso; omega))), ht⟩) (fun _ h => absurd h List.not_mem_nil) dX2_whyNotChosen_55
        · skip
          refine lv_if_eq (tgt := 54) hx hb dX2_whyNotChosen_47 (by decide) (fun _ => ?_) (fun c11 => (c11 (by decide)).elim)
          refine lv_iconst (v := nI 3) hx hb dX2_whyNotChosen_54 (by decide) ?_
          exact W.iret hx hb hr (fun t ht _ => ⟨_, rfl, (by simp only [pm_why, pm_ix_in hj3 (show (30 : Nat) < 2 ^ 31 by decide)] <;> (unfold pm_tc; (repeat' split) <;> first | rfl | (exfalso; omega))), ht⟩) (fun _ h => absurd h List.not_mem_nil) dX2_whyNotChosen_55
      · skip
        refine lv_iconst (v := nI 2) hx hb dX2_whyNotChosen_29 (by decide) ?_
        exact W.iret hx hb hr (fun t ht _ => ⟨_, rfl, (by simp only [pm_why, pm_ix_in hj3 (show (30 : Nat) < 2 ^ 31 by decide)] <;> (unfold pm_tc; (repeat' split) <;> first | rfl | (exfalso; omega))), ht⟩) (fun _ h => absurd h List.not_mem_nil) dX2_whyNotChosen_30
    · skip
      refine lv_iconst (v := nI 1) hx hb dX2_whyNotChosen_18 (by decide) ?_
      exact W.iret hx hb hr (fun t ht _ => ⟨_, rfl, (by simp only [pm_why, pm_ix_in hj3 (show (30 : Nat) < 2 ^ 31 by decide)] <;> (unfold pm_tc; (repeat' split) <;> first | rfl | (exfalso; omega))), ht⟩) (fun _ h => absurd h List.not_mem_nil) dX2_whyNotChosen_19
  · skip
    refine lv_if_ne (tgt := 9) hx hb dX2_whyNotChosen_4 (by decide) (fun c12 => (c12 (by decide)).elim) (fun _ => ?_)
    refine lv_iconst (v := -1) hx hb dX2_whyNotChosen_7 (by decide) ?_
    exact W.iret hx hb hr (fun t ht _ => ⟨_, rfl, (by simp only [pm_why, pm_ix_out hnj3] <;> (unfold pm_tc; (repeat' split) <;> first | rfl | (exfalso; omega))), ht⟩) (fun _ h => absurd h List.not_mem_nil) dX2_whyNotChosen_8

set_option maxHeartbeats 4000000 in
set_option maxRecDepth 100000 in
theorem k_X2_roundWouldBring (l : Launch) (D : va_G) (y : Nat → ClassId) (q : Nat → Nat) (S : Nat → Nat → Nat) (xw : Int32) (hI : pm_Inv S) : Met l yX2_roundWouldBring wsX2_roundWouldBring ({ frames := 4, cells := 0, slots := 0, locals := 87 } : Room) (pm_ro D (pm_ty y) [.ref (q 0), .int xw] (pm_shS y q S)) (vp_Si (fun r : Int32 => r = pm_ifr S xw)) 0 0 (fun _ => False) := by
  refine Met.ofW (cc := cX2_roundWouldBring) (maxL := 2) (ret := (some .int)) (by decide) rfl ?_
  intro p e s m args below meth c s₁ B hml hpre
  obtain ⟨rfl, hP, hK⟩ := hpre
  have hx := B.exec
  have hb := B.bytes
  have hr := B.returns
  have hts := atoms_spec (ws := wsX2_roundWouldBring) B.pre
  have hown : s.vm.findClass RX2 = some m.cls := findClass_of_methodNamed B.named
  have hlocks := B.notSynchronized
  have hin2 : ∀ w ∈ u_ws RX2 TX2 15, w ∈ wsX2_roundWouldBring := fun w h => List.mem_cons_of_mem _ (List.mem_append_right _ h)
  have hP : va_P D vwCl (pm_shS y q S) s.heap := hP
  have hl := lv_entry ([.ref (q 0), .int xw]) (n := 2) (Nat.le_of_ble_eq_true rfl)
  rw [lg_entry_eq]
  generalize (lg_sl ([.ref (q 0), .int xw]) ++ List.replicate (2 - (lg_sl ([.ref (q 0), .int xw])).length) Slot.unset).toArray = ls at hl ⊢
  have hl : lv_has ls 2 [(0, .ref (q 0)), (1, .int xw)] := hl
  refine lv_iload_n hx hb dX2_roundWouldBring_0 rfl (lv_at hl 1 rfl) ?_
  have hsw1 : (xw < 0 ∨ nI 3 ≤ xw) ∨ xw = nI 0 ∨ xw = nI 1 ∨ xw = nI 2 := by
    rcases pm_cases xw (n := 3) (by decide) with h | ⟨j, hj, rfl⟩
    · exact Or.inl h
    · rcases (show j = 0 ∨ j = 1 ∨ j = 2 by omega) with rfl | rfl | rfl <;> simp
  rcases hsw1 with hw | rfl | rfl | rfl
  · skip
    refine lv_tableOut (tgt := 46) hx hb dX2_roundWouldBring_1 (pm_swout (n := 2) (by decide) hw) (by decide) ?_
    refine lv_bipush (v := (-2)) hx hb dX2_roundWouldBring_46 (by decide) ?_
    exact W.iret hx hb hr (fun t ht _ => ⟨_, rfl, (by simp only [pm_ifr, pm_ix_out hw]), ht⟩) (fun _ h => absurd h List.not_mem_nil) dX2_roundWouldBring_48
  · skip
    refine lv_tableIn (off := 27) (tgt := 28) hx hb dX2_roundWouldBring_1 (by decide) (by decide) (by decide) (by decide) ?_
    refine lv_aload_n hx hb dX2_roundWouldBring_28 rfl (lv_at hl 0 rfl) ?_
    refine lv_iconst (v := nI 1) hx hb dX2_roundWouldBring_29 (by decide) ?_
    refine vp_callSi (W.runV (As := [.int (nI 1)]) (rest := []) ⟨hx, hb, hml, hown, hts⟩ (k_X2_framesThatBecome l D y q S 1 hI (by omega)) (cwV 1 hts gX2_roundWouldBring_X2_framesThatBecome rfl rfl rfl hd_X2_framesThatBecome ⟨Nat.le_of_ble_eq_true rfl, Nat.le_of_ble_eq_true rfl⟩) ⟨pm_ro_blind, va_recv hK hP (ci := 2) (q0 := 0) rfl rfl, pm_ro_pre hP hK⟩ rfl rfl hl.1 rfl (lv_room (Nat.le_of_ble_eq_true rfl)) dX2_roundWouldBring_30 ⟨Nat.le_of_ble_eq_true rfl, Nat.le_of_ble_eq_true rfl⟩) (fun r2 h3 => ?_)
    obtain rfl : r2 = nI (pm_bc S 1 30) := h3
    exact W.iret hx hb hr (fun t ht _ => ⟨_, rfl, (by simp only [pm_ifr, pm_ix_in (show (0 : Nat) < 3 by decide) (show (3 : Nat) < 2 ^ 31 by decide)]), ht⟩) (fun _ h => absurd h List.not_mem_nil) dX2_roundWouldBring_33
  · skip
    refine lv_tableIn (off := 33) (tgt := 34) hx hb dX2_roundWouldBring_1 (by decide) (by decide) (by decide) (by decide) ?_
    refine lv_aload_n hx hb dX2_roundWouldBring_34 rfl (lv_at hl 0 rfl) ?_
    refine lv_iconst (v := nI 2) hx hb dX2_roundWouldBring_35 (by decide) ?_
    refine vp_callSi (W.runV (As := [.int (nI 2)]) (rest := []) ⟨hx, hb, hml, hown, hts⟩ (k_X2_framesThatBecome l D y q S 2 hI (by omega)) (cwV 1 hts gX2_roundWouldBring_X2_framesThatBecome rfl rfl rfl hd_X2_framesThatBecome ⟨Nat.le_of_ble_eq_true rfl, Nat.le_of_ble_eq_true rfl⟩) ⟨pm_ro_blind, va_recv hK hP (ci := 2) (q0 := 0) rfl rfl, pm_ro_pre hP hK⟩ rfl rfl hl.1 rfl (lv_room (Nat.le_of_ble_eq_true rfl)) dX2_roundWouldBring_36 ⟨Nat.le_of_ble_eq_true rfl, Nat.le_of_ble_eq_true rfl⟩) (fun r4 h5 => ?_)
    obtain rfl : r4 = nI (pm_bc S 2 30) := h5
    exact W.iret hx hb hr (fun t ht _ => ⟨_, rfl, (by simp only [pm_ifr, pm_ix_in (show (1 : Nat) < 3 by decide) (show (3 : Nat) < 2 ^ 31 by decide)]), ht⟩) (fun _ h => absurd h List.not_mem_nil) dX2_roundWouldBring_39
  · skip
    refine lv_tableIn (off := 39) (tgt := 40) hx hb dX2_roundWouldBring_1 (by decide) (by decide) (by decide) (by decide) ?_
    refine lv_aload_n hx hb dX2_roundWouldBring_40 rfl (lv_at hl 0 rfl) ?_
    refine lv_iconst (v := nI 0) hx hb dX2_roundWouldBring_41 (by decide) ?_
    refine vp_callSi (W.runV (As := [.int (nI 0)]) (rest := []) ⟨hx, hb, hml, hown, hts⟩ (k_X2_framesThatBecome l D y q S 0 hI (by omega)) (cwV 1 hts gX2_roundWouldBring_X2_framesThatBecome rfl rfl rfl hd_X2_framesThatBecome ⟨Nat.le_of_ble_eq_true rfl, Nat.le_of_ble_eq_true rfl⟩) ⟨pm_ro_blind, va_recv hK hP (ci := 2) (q0 := 0) rfl rfl, pm_ro_pre hP hK⟩ rfl rfl hl.1 rfl (lv_room (Nat.le_of_ble_eq_true rfl)) dX2_roundWouldBring_42 ⟨Nat.le_of_ble_eq_true rfl, Nat.le_of_ble_eq_true rfl⟩) (fun r6 h7 => ?_)
    obtain rfl : r6 = nI (pm_bc S 0 30) := h7
    exact W.iret hx hb hr (fun t ht _ => ⟨_, rfl, (by simp only [pm_ifr, pm_ix_in (show (2 : Nat) < 3 by decide) (show (3 : Nat) < 2 ^ 31 by decide)]), ht⟩) (fun _ h => absurd h List.not_mem_nil) dX2_roundWouldBring_45

theorem pm_wd_t {n m : Nat} (h : pm_ck m = 0 ∧ n ≤ pm_pc (pm_tk m)) : pm_wd n m = true := decide_eq_true h
theorem pm_wd_f {n m : Nat} (h : ¬ (pm_ck m = 0 ∧ n ≤ pm_pc (pm_tk m))) : pm_wd n m = false := decide_eq_false h
theorem pm_ds_lt (S : Nat → Nat → Nat) (f : Nat) : ∀ n, pm_ds S f n < 2 ^ n
  | 0 => Nat.lt_succ_self 0
  | n + 1 => by
    have := pm_ds_lt S f n
    rw [pm_ds, Nat.pow_succ]
    split <;> omega
def pm_T4b (n x : Nat) : Bool := !(decide (x < 2 ^ n)) || (decide (pm_we (nI x) (nI n) (nI 1) = nI (x + 2 ^ n)) && decide (pm_we (nI x) (nI n) (nI 0) = nI x))
theorem pm_T4 : ∀ n, n < 3 → ∀ x, x < 8 → pm_T4b n x = true := by decide +kernel
theorem pm_wes {n x : Nat} (hn : n < 3) (hx : x < 2 ^ n) : pm_we (nI x) (nI n) (nI 1) = nI (x + 2 ^ n) ∧ pm_we (nI x) (nI n) (nI 0) = nI x := by
  have h8 : x < 8 := Nat.lt_of_lt_of_le hx (Nat.pow_le_pow_right (by decide) (by omega : n ≤ 3))
  have a := pm_T4 n hn x h8
  simp only [pm_T4b, hx, decide_true, Bool.not_true, Bool.false_or, Bool.and_eq_true, decide_eq_true_eq] at a
  exact a
theorem pm_ds_p {S : Nat → Nat → Nat} {f n : Nat} (hn : n < 3) (h1 : S 0 f = 0) (h2 : pm_mc (S 9 0) (S 4 f) n 3 = true) : pm_we (nI (pm_ds S f n)) (nI n) (nI 1) = nI (pm_ds S f (n + 1)) := by
  rw [pm_ds, if_pos ⟨h1, h2⟩]
  exact (pm_wes hn (pm_ds_lt S f n)).1
theorem pm_ds_n {S : Nat → Nat → Nat} {f n : Nat} (hn : n < 3) (h : ¬ (S 0 f = 0 ∧ pm_mc (S 9 0) (S 4 f) n 3 = true)) : pm_we (nI (pm_ds S f n)) (nI n) (nI 0) = nI (pm_ds S f (n + 1)) := by
  rw [pm_ds, if_neg h]
  exact (pm_wes hn (pm_ds_lt S f n)).2
set_option maxHeartbeats 4000000 in
set_option maxRecDepth 100000 in
theorem k_X2_markDecides (l : Launch) (D : va_G) (y : Nat → ClassId) (q : Nat → Nat) (S : Nat → Nat → Nat) (i f : Nat) (hI : pm_Inv S) (hi : i < 3) (hf : f < 30) : Met l yX2_markDecides wsX2_markDecides ({ frames := 2, cells := 0, slots := 0, locals := 42 } : Room) (pm_ro D (pm_ty y) [.ref (q 0), .int (nI i), .int (nI f)] (pm_shS y q S)) (vp_Si (fun r : Int32 => ((pm_mc (S 9 0) (S 4 f) i 3 = true) ∧ r = nI 1) ∨ (¬ (pm_mc (S 9 0) (S 4 f) i 3 = true) ∧ r = nI 0))) 0 0 (fun _ => False) := by
  refine Met.ofW (cc := cX2_markDecides) (maxL := 7) (ret := (some .boolean)) (by decide) rfl ?_
  intro p e s m args below meth c s₁ B hml hpre
  obtain ⟨rfl, hP, hK⟩ := hpre
  have hx := B.exec
  have hb := B.bytes
  have hr := B.returns
  have hts := atoms_spec (ws := wsX2_markDecides) B.pre
  have hown : s.vm.findClass RX2 = some m.cls := findClass_of_methodNamed B.named
  have hlocks := B.notSynchronized
  have hin2 : ∀ w ∈ u_ws RX2 TX2 15, w ∈ wsX2_markDecides := fun w h => List.mem_cons_of_mem _ (List.mem_append_right _ h)
  have hP : va_P D vwCl (pm_shS y q S) s.heap := hP
  have hl := lv_entry ([.ref (q 0), .int (nI i), .int (nI f)]) (n := 7) (Nat.le_of_ble_eq_true rfl)
  rw [lg_entry_eq]
  generalize (lg_sl ([.ref (q 0), .int (nI i), .int (nI f)]) ++ List.replicate (7 - (lg_sl ([.ref (q 0), .int (nI i), .int (nI f)])).length) Slot.unset).toArray = ls at hl ⊢
  have hl : lv_has ls 7 [(0, .ref (q 0)), (1, .int (nI i)), (2, .int (nI f))] := hl
  refine lv_aload_n hx hb dX2_markDecides_0 rfl (lv_at hl 0 rfl) ?_
  refine lv_aload_n hx hb dX2_markDecides_1 rfl (lv_at hl 0 rfl) ?_
  refine va_get (D := D) (ci := 2) (v := .ref (q 3)) (C := RX2) (T := TX2) (N := 15) hx hb hts hin2 hown hK hP 0 rfl rfl 2 (by decide) (hts (.fieldLink RX2 18 "ProofMarks$Sheet" "ticks" "[I") (List.mem_of_getElem? (i := 1) rfl)) (fun _ h9 => h9) rfl dX2_markDecides_2 ?_
  refine lv_iload_n hx hb dX2_markDecides_5 rfl (lv_at hl 2 rfl) ?_
  refine kx_iald (v := nI (pm_tk ((S 4) f))) hx hb hK hP 3 0 rfl rfl (by omega) (by decide) rfl dX2_markDecides_6 ?_
  have := pm_tk8 ((S 4) f)
  refine lv_aload_n hx hb dX2_markDecides_7 rfl (lv_at hl 0 rfl) ?_
  refine va_get (D := D) (ci := 2) (v := .ref (q 4)) (C := RX2) (T := TX2) (N := 15) hx hb hts hin2 hown hK hP 0 rfl rfl 3 (by decide) (hts (.fieldLink RX2 21 "ProofMarks$Sheet" "crosses" "[I") (List.mem_of_getElem? (i := 2) rfl)) (fun _ h9 => h9) rfl dX2_markDecides_8 ?_
  refine lv_iload_n hx hb dX2_markDecides_11 rfl (lv_at hl 2 rfl) ?_
  refine kx_iald (v := nI (pm_ck ((S 4) f))) hx hb hK hP 4 0 rfl rfl (by omega) (by decide) rfl dX2_markDecides_12 ?_
  have := pm_ck8 ((S 4) f)
  refine vp_callSi (W.runV (As := [.int (nI (pm_tk ((S 4) f))), .int (nI (pm_ck ((S 4) f)))]) (rest := []) ⟨hx, hb, hml, hown, hts⟩ (k_X2_isWanted l D y q S (pm_tk ((S 4) f)) (pm_ck ((S 4) f)) (hI.set9 0 (by decide)) (by omega) (by omega)) (cwV 2 hts gX2_markDecides_X2_isWanted rfl rfl rfl hd_X2_isWanted ⟨Nat.le_of_ble_eq_true rfl, Nat.le_of_ble_eq_true rfl⟩) ⟨pm_ro_blind, va_recv hK hP (ci := 2) (q0 := 0) rfl rfl, pm_ro_pre hP hK⟩ rfl rfl hl.1 rfl (lv_room (Nat.le_of_ble_eq_true rfl)) dX2_markDecides_13 ⟨Nat.le_of_ble_eq_true rfl, Nat.le_of_ble_eq_true rfl⟩) (fun r1 h2 => ?_)
  rcases (show (((pm_ck ((S 4) f)) = 0 ∧ S 9 0 ≤ pm_pc (pm_tk ((S 4) f))) ∧ r1 = nI 1) ∨ (¬ ((pm_ck ((S 4) f)) = 0 ∧ S 9 0 ≤ pm_pc (pm_tk ((S 4) f))) ∧ r1 = nI 0) from h2) with ⟨hp3, rfl⟩ | ⟨hp3, rfl⟩
  · have whp3 := pm_wd_t hp3
    refine lv_istore_n (lv' := [(3, .int (nI 1)), (0, .ref (q 0)), (1, .int (nI i)), (2, .int (nI f))]) hx hb dX2_markDecides_16 rfl hl (by decide) rfl (fun ls hl => ?_)
    refine lv_iconst (v := nI 0) hx hb dX2_markDecides_17 (by decide) ?_
    refine lv_istore (lv' := [(4, .int (nI 0)), (3, .int (nI 1)), (0, .ref (q 0)), (1, .int (nI i)), (2, .int (nI f))]) hx hb dX2_markDecides_18 hl (by decide) rfl (fun ls hl => ?_)
    refine lv_iload hx hb dX2_markDecides_20 (lv_at hl 0 rfl) ?_
    refine lv_iconst (v := nI 2) hx hb dX2_markDecides_22 (by decide) ?_
    refine lv_icmp_gt (tgt := 92) hx hb dX2_markDecides_23 (by decide) (fun c4 => absurd c4 (by decide)) (fun _ => ?_)
    refine lv_aload_n hx hb dX2_markDecides_26 rfl (lv_at hl 2 rfl) ?_
    refine va_get (D := D) (ci := 2) (v := .ref (q 3)) (C := RX2) (T := TX2) (N := 15) hx hb hts hin2 hown hK hP 0 rfl rfl 2 (by decide) (hts (.fieldLink RX2 18 "ProofMarks$Sheet" "ticks" "[I") (List.mem_of_getElem? (i := 1) rfl)) (fun _ h9 => h9) rfl dX2_markDecides_27 ?_
    refine lv_iload_n hx hb dX2_markDecides_30 rfl (lv_at hl 4 rfl) ?_
    refine kx_iald (v := nI (pm_tk ((S 4) f))) hx hb hK hP 3 0 rfl rfl (by omega) (by decide) rfl dX2_markDecides_31 ?_
    have := pm_tk8 ((S 4) f)
    refine lv_iload_n hx hb dX2_markDecides_32 rfl (lv_at hl 3 rfl) ?_
    refine lv_iload hx hb dX2_markDecides_33 (lv_at hl 0 rfl) ?_
    refine lv_iconst (v := nI 1) hx hb dX2_markDecides_35 (by decide) ?_
    refine lv_icmp_ne (tgt := 43) hx hb dX2_markDecides_36 (by decide) (fun _ => ?_) (fun c5 => absurd c5 (by decide))
    refine lv_iconst (v := nI 0) hx hb dX2_markDecides_43 (by decide) ?_
    refine vp_callSi (W.runS (As := [.int (nI (pm_tk ((S 4) f))), .int (nI i), .int (nI 0)]) (rest := []) ⟨hx, hb, hml, hown, hts⟩ (k_X2_withEditor l (nI (pm_tk ((S 4) f))) (nI i) (nI 0)) (va_cwS 3 hts gX2_markDecides_X2_withEditor rfl rfl rfl hd_X2_withEditor ⟨Nat.le_of_ble_eq_true rfl, Nat.le_of_ble_eq_true rfl⟩) ⟨pm_no_blind, pm_no_pre⟩ rfl rfl hl.1 rfl (lv_room (Nat.le_of_ble_eq_true rfl)) dX2_markDecides_44 ⟨Nat.le_of_ble_eq_true rfl, Nat.le_of_ble_eq_true rfl⟩) (fun r6 h7 => ?_)
    obtain rfl : r6 = pm_we (nI (pm_tk ((S 4) f))) (nI i) (nI 0) := h7
    refine lv_topi (fun x8 e9 => ?_)
    obtain rfl : x8 = nI (pm_tk (pm_sm (S 4 f) i 0)) := e9.trans (pm_wet (hI.okm f hf) hi (v := 0) (by decide))
    have := pm_tk8 (pm_sm (S 4 f) i 0)
    refine lv_istore (lv' := [(5, .int (nI (pm_tk (pm_sm (S 4 f) i 0)))), (4, .int (nI 0)), (3, .int (nI 1)), (0, .ref (q 0)), (1, .int (nI i)), (2, .int (nI f))]) hx hb dX2_markDecides_47 hl (by decide) rfl (fun ls hl => ?_)
    refine lv_aload_n hx hb dX2_markDecides_49 rfl (lv_at hl 3 rfl) ?_
    refine va_get (D := D) (ci := 2) (v := .ref (q 4)) (C := RX2) (T := TX2) (N := 15) hx hb hts hin2 hown hK hP 0 rfl rfl 3 (by decide) (hts (.fieldLink RX2 21 "ProofMarks$Sheet" "crosses" "[I") (List.mem_of_getElem? (i := 2) rfl)) (fun _ h9 => h9) rfl dX2_markDecides_50 ?_
    refine lv_iload_n hx hb dX2_markDecides_53 rfl (lv_at hl 5 rfl) ?_
    refine kx_iald (v := nI (pm_ck ((S 4) f))) hx hb hK hP 4 0 rfl rfl (by omega) (by decide) rfl dX2_markDecides_54 ?_
    have := pm_ck8 ((S 4) f)
    refine lv_iload_n hx hb dX2_markDecides_55 rfl (lv_at hl 4 rfl) ?_
    refine lv_iload hx hb dX2_markDecides_56 (lv_at hl 1 rfl) ?_
    refine lv_iconst (v := nI 2) hx hb dX2_markDecides_58 (by decide) ?_
    refine lv_icmp_ne (tgt := 66) hx hb dX2_markDecides_59 (by decide) (fun _ => ?_) (fun c10 => absurd c10 (by decide))
    refine lv_iconst (v := nI 0) hx hb dX2_markDecides_66 (by decide) ?_
    refine vp_callSi (W.runS (As := [.int (nI (pm_ck ((S 4) f))), .int (nI i), .int (nI 0)]) (rest := []) ⟨hx, hb, hml, hown, hts⟩ (k_X2_withEditor l (nI (pm_ck ((S 4) f))) (nI i) (nI 0)) (va_cwS 3 hts gX2_markDecides_X2_withEditor rfl rfl rfl hd_X2_withEditor ⟨Nat.le_of_ble_eq_true rfl, Nat.le_of_ble_eq_true rfl⟩) ⟨pm_no_blind, pm_no_pre⟩ rfl rfl hl.1 rfl (lv_room (Nat.le_of_ble_eq_true rfl)) dX2_markDecides_67 ⟨Nat.le_of_ble_eq_true rfl, Nat.le_of_ble_eq_true rfl⟩) (fun r11 h12 => ?_)
    obtain rfl : r11 = pm_we (nI (pm_ck ((S 4) f))) (nI i) (nI 0) := h12
    refine lv_topi (fun x13 e14 => ?_)
    obtain rfl : x13 = nI (pm_ck (pm_sm (S 4 f) i 0)) := e14.trans (pm_wec (hI.okm f hf) hi (v := 0) (by decide))
    have := pm_ck8 (pm_sm (S 4 f) i 0)
    refine lv_istore (lv' := [(6, .int (nI (pm_ck (pm_sm (S 4 f) i 0)))), (5, .int (nI (pm_tk (pm_sm (S 4 f) i 0)))), (4, .int (nI 0)), (3, .int (nI 1)), (0, .ref (q 0)), (1, .int (nI i)), (2, .int (nI f))]) hx hb dX2_markDecides_70 hl (by decide) rfl (fun ls hl => ?_)
    refine lv_aload_n hx hb dX2_markDecides_72 rfl (lv_at hl 4 rfl) ?_
    refine lv_iload hx hb dX2_markDecides_73 (lv_at hl 1 rfl) ?_
    refine lv_iload hx hb dX2_markDecides_75 (lv_at hl 0 rfl) ?_
    refine vp_callSi (W.runV (As := [.int (nI (pm_tk (pm_sm (S 4 f) i 0))), .int (nI (pm_ck (pm_sm (S 4 f) i 0)))]) (rest := []) ⟨hx, hb, hml, hown, hts⟩ (k_X2_isWanted l D y q S (pm_tk (pm_sm (S 4 f) i 0)) (pm_ck (pm_sm (S 4 f) i 0)) (hI.set9 0 (by decide)) (by omega) (by omega)) (cwV 2 hts gX2_markDecides_X2_isWanted rfl rfl rfl hd_X2_isWanted ⟨Nat.le_of_ble_eq_true rfl, Nat.le_of_ble_eq_true rfl⟩) ⟨pm_ro_blind, va_recv hK hP (ci := 2) (q0 := 0) rfl rfl, pm_ro_pre hP hK⟩ rfl rfl hl.1 rfl (lv_room (Nat.le_of_ble_eq_true rfl)) dX2_markDecides_77 ⟨Nat.le_of_ble_eq_true rfl, Nat.le_of_ble_eq_true rfl⟩) (fun r15 h16 => ?_)
    rcases (show (((pm_ck (pm_sm (S 4 f) i 0)) = 0 ∧ S 9 0 ≤ pm_pc (pm_tk (pm_sm (S 4 f) i 0))) ∧ r15 = nI 1) ∨ (¬ ((pm_ck (pm_sm (S 4 f) i 0)) = 0 ∧ S 9 0 ≤ pm_pc (pm_tk (pm_sm (S 4 f) i 0))) ∧ r15 = nI 0) from h16) with ⟨hp17, rfl⟩ | ⟨hp17, rfl⟩
    · have whp17 := pm_wd_t hp17
      refine lv_iload_n hx hb dX2_markDecides_80 rfl (lv_at hl 3 rfl) ?_
      refine lv_icmp_eq (tgt := 86) hx hb dX2_markDecides_81 (by decide) (fun _ => ?_) (fun c18 => (c18 (by decide)).elim)
      refine lv_iinc (v := nI 1) (lv' := [(4, .int (nI 1)), (6, .int (nI (pm_ck (pm_sm (S 4 f) i 0)))), (5, .int (nI (pm_tk (pm_sm (S 4 f) i 0)))), (3, .int (nI 1)), (0, .ref (q 0)), (1, .int (nI i)), (2, .int (nI f))]) hx hb dX2_markDecides_86 hl (k := 2) rfl (by decide) (by decide) rfl (fun ls hl => ?_)
      refine lv_goto (tgt := 20) hx hb dX2_markDecides_89 (by decide) ?_
      refine lv_iload hx hb dX2_markDecides_20 (lv_at hl 0 rfl) ?_
      refine lv_iconst (v := nI 2) hx hb dX2_markDecides_22 (by decide) ?_
      refine lv_icmp_gt (tgt := 92) hx hb dX2_markDecides_23 (by decide) (fun c19 => absurd c19 (by decide)) (fun _ => ?_)
      refine lv_aload_n hx hb dX2_markDecides_26 rfl (lv_at hl 4 rfl) ?_
      refine va_get (D := D) (ci := 2) (v := .ref (q 3)) (C := RX2) (T := TX2) (N := 15) hx hb hts hin2 hown hK hP 0 rfl rfl 2 (by decide) (hts (.fieldLink RX2 18 "ProofMarks$Sheet" "ticks" "[I") (List.mem_of_getElem? (i := 1) rfl)) (fun _ h9 => h9) rfl dX2_markDecides_27 ?_
      refine lv_iload_n hx hb dX2_markDecides_30 rfl (lv_at hl 6 rfl) ?_
      refine kx_iald (v := nI (pm_tk ((S 4) f))) hx hb hK hP 3 0 rfl rfl (by omega) (by decide) rfl dX2_markDecides_31 ?_
      have := pm_tk8 ((S 4) f)
      refine lv_iload_n hx hb dX2_markDecides_32 rfl (lv_at hl 5 rfl) ?_
      refine lv_iload hx hb dX2_markDecides_33 (lv_at hl 0 rfl) ?_
      refine lv_iconst (v := nI 1) hx hb dX2_markDecides_35 (by decide) ?_
      refine lv_icmp_ne (tgt := 43) hx hb dX2_markDecides_36 (by decide) (fun c20 => (c20 (by decide)).elim) (fun _ => ?_)
      refine lv_iconst (v := nI 1) hx hb dX2_markDecides_39 (by decide) ?_
      refine lv_goto (tgt := 44) hx hb dX2_markDecides_40 (by decide) ?_
      refine vp_callSi (W.runS (As := [.int (nI (pm_tk ((S 4) f))), .int (nI i), .int (nI 1)]) (rest := []) ⟨hx, hb, hml, hown, hts⟩ (k_X2_withEditor l (nI (pm_tk ((S 4) f))) (nI i) (nI 1)) (va_cwS 3 hts gX2_markDecides_X2_withEditor rfl rfl rfl hd_X2_withEditor ⟨Nat.le_of_ble_eq_true rfl, Nat.le_of_ble_eq_true rfl⟩) ⟨pm_no_blind, pm_no_pre⟩ rfl rfl hl.1 rfl (lv_room (Nat.le_of_ble_eq_true rfl)) dX2_markDecides_44 ⟨Nat.le_of_ble_eq_true rfl, Nat.le_of_ble_eq_true rfl⟩) (fun r21 h22 => ?_)
      obtain rfl : r21 = pm_we (nI (pm_tk ((S 4) f))) (nI i) (nI 1) := h22
      refine lv_topi (fun x23 e24 => ?_)
      obtain rfl : x23 = nI (pm_tk (pm_sm (S 4 f) i 1)) := e24.trans (pm_wet (hI.okm f hf) hi (v := 1) (by decide))
      have := pm_tk8 (pm_sm (S 4 f) i 1)
      refine lv_istore (lv' := [(5, .int (nI (pm_tk (pm_sm (S 4 f) i 1)))), (4, .int (nI 1)), (6, .int (nI (pm_ck (pm_sm (S 4 f) i 0)))), (3, .int (nI 1)), (0, .ref (q 0)), (1, .int (nI i)), (2, .int (nI f))]) hx hb dX2_markDecides_47 hl (by decide) rfl (fun ls hl => ?_)
      refine lv_aload_n hx hb dX2_markDecides_49 rfl (lv_at hl 4 rfl) ?_
      refine va_get (D := D) (ci := 2) (v := .ref (q 4)) (C := RX2) (T := TX2) (N := 15) hx hb hts hin2 hown hK hP 0 rfl rfl 3 (by decide) (hts (.fieldLink RX2 21 "ProofMarks$Sheet" "crosses" "[I") (List.mem_of_getElem? (i := 2) rfl)) (fun _ h9 => h9) rfl dX2_markDecides_50 ?_
      refine lv_iload_n hx hb dX2_markDecides_53 rfl (lv_at hl 6 rfl) ?_
      refine kx_iald (v := nI (pm_ck ((S 4) f))) hx hb hK hP 4 0 rfl rfl (by omega) (by decide) rfl dX2_markDecides_54 ?_
      have := pm_ck8 ((S 4) f)
      refine lv_iload_n hx hb dX2_markDecides_55 rfl (lv_at hl 5 rfl) ?_
      refine lv_iload hx hb dX2_markDecides_56 (lv_at hl 1 rfl) ?_
      refine lv_iconst (v := nI 2) hx hb dX2_markDecides_58 (by decide) ?_
      refine lv_icmp_ne (tgt := 66) hx hb dX2_markDecides_59 (by decide) (fun _ => ?_) (fun c25 => absurd c25 (by decide))
      refine lv_iconst (v := nI 0) hx hb dX2_markDecides_66 (by decide) ?_
      refine vp_callSi (W.runS (As := [.int (nI (pm_ck ((S 4) f))), .int (nI i), .int (nI 0)]) (rest := []) ⟨hx, hb, hml, hown, hts⟩ (k_X2_withEditor l (nI (pm_ck ((S 4) f))) (nI i) (nI 0)) (va_cwS 3 hts gX2_markDecides_X2_withEditor rfl rfl rfl hd_X2_withEditor ⟨Nat.le_of_ble_eq_true rfl, Nat.le_of_ble_eq_true rfl⟩) ⟨pm_no_blind, pm_no_pre⟩ rfl rfl hl.1 rfl (lv_room (Nat.le_of_ble_eq_true rfl)) dX2_markDecides_67 ⟨Nat.le_of_ble_eq_true rfl, Nat.le_of_ble_eq_true rfl⟩) (fun r26 h27 => ?_)
      obtain rfl : r26 = pm_we (nI (pm_ck ((S 4) f))) (nI i) (nI 0) := h27
      refine lv_topi (fun x28 e29 => ?_)
      obtain rfl : x28 = nI (pm_ck (pm_sm (S 4 f) i 1)) := e29.trans (pm_wec (hI.okm f hf) hi (v := 1) (by decide))
      have := pm_ck8 (pm_sm (S 4 f) i 1)
      refine lv_istore (lv' := [(6, .int (nI (pm_ck (pm_sm (S 4 f) i 1)))), (5, .int (nI (pm_tk (pm_sm (S 4 f) i 1)))), (4, .int (nI 1)), (3, .int (nI 1)), (0, .ref (q 0)), (1, .int (nI i)), (2, .int (nI f))]) hx hb dX2_markDecides_70 hl (by decide) rfl (fun ls hl => ?_)
      refine lv_aload_n hx hb dX2_markDecides_72 rfl (lv_at hl 4 rfl) ?_
      refine lv_iload hx hb dX2_markDecides_73 (lv_at hl 1 rfl) ?_
      refine lv_iload hx hb dX2_markDecides_75 (lv_at hl 0 rfl) ?_
      refine vp_callSi (W.runV (As := [.int (nI (pm_tk (pm_sm (S 4 f) i 1))), .int (nI (pm_ck (pm_sm (S 4 f) i 1)))]) (rest := []) ⟨hx, hb, hml, hown, hts⟩ (k_X2_isWanted l D y q S (pm_tk (pm_sm (S 4 f) i 1)) (pm_ck (pm_sm (S 4 f) i 1)) (hI.set9 0 (by decide)) (by omega) (by omega)) (cwV 2 hts gX2_markDecides_X2_isWanted rfl rfl rfl hd_X2_isWanted ⟨Nat.le_of_ble_eq_true rfl, Nat.le_of_ble_eq_true rfl⟩) ⟨pm_ro_blind, va_recv hK hP (ci := 2) (q0 := 0) rfl rfl, pm_ro_pre hP hK⟩ rfl rfl hl.1 rfl (lv_room (Nat.le_of_ble_eq_true rfl)) dX2_markDecides_77 ⟨Nat.le_of_ble_eq_true rfl, Nat.le_of_ble_eq_true rfl⟩) (fun r30 h31 => ?_)
      rcases (show (((pm_ck (pm_sm (S 4 f) i 1)) = 0 ∧ S 9 0 ≤ pm_pc (pm_tk (pm_sm (S 4 f) i 1))) ∧ r30 = nI 1) ∨ (¬ ((pm_ck (pm_sm (S 4 f) i 1)) = 0 ∧ S 9 0 ≤ pm_pc (pm_tk (pm_sm (S 4 f) i 1))) ∧ r30 = nI 0) from h31) with ⟨hp32, rfl⟩ | ⟨hp32, rfl⟩
      · have whp32 := pm_wd_t hp32
        refine lv_iload_n hx hb dX2_markDecides_80 rfl (lv_at hl 3 rfl) ?_
        refine lv_icmp_eq (tgt := 86) hx hb dX2_markDecides_81 (by decide) (fun _ => ?_) (fun c33 => (c33 (by decide)).elim)
        refine lv_iinc (v := nI 2) (lv' := [(4, .int (nI 2)), (6, .int (nI (pm_ck (pm_sm (S 4 f) i 1)))), (5, .int (nI (pm_tk (pm_sm (S 4 f) i 1)))), (3, .int (nI 1)), (0, .ref (q 0)), (1, .int (nI i)), (2, .int (nI f))]) hx hb dX2_markDecides_86 hl (k := 2) rfl (by decide) (by decide) rfl (fun ls hl => ?_)
        refine lv_goto (tgt := 20) hx hb dX2_markDecides_89 (by decide) ?_
        refine lv_iload hx hb dX2_markDecides_20 (lv_at hl 0 rfl) ?_
        refine lv_iconst (v := nI 2) hx hb dX2_markDecides_22 (by decide) ?_
        refine lv_icmp_gt (tgt := 92) hx hb dX2_markDecides_23 (by decide) (fun c34 => absurd c34 (by decide)) (fun _ => ?_)
        refine lv_aload_n hx hb dX2_markDecides_26 rfl (lv_at hl 4 rfl) ?_
        refine va_get (D := D) (ci := 2) (v := .ref (q 3)) (C := RX2) (T := TX2) (N := 15) hx hb hts hin2 hown hK hP 0 rfl rfl 2 (by decide) (hts (.fieldLink RX2 18 "ProofMarks$Sheet" "ticks" "[I") (List.mem_of_getElem? (i := 1) rfl)) (fun _ h9 => h9) rfl dX2_markDecides_27 ?_
        refine lv_iload_n hx hb dX2_markDecides_30 rfl (lv_at hl 6 rfl) ?_
        refine kx_iald (v := nI (pm_tk ((S 4) f))) hx hb hK hP 3 0 rfl rfl (by omega) (by decide) rfl dX2_markDecides_31 ?_
        have := pm_tk8 ((S 4) f)
        refine lv_iload_n hx hb dX2_markDecides_32 rfl (lv_at hl 5 rfl) ?_
        refine lv_iload hx hb dX2_markDecides_33 (lv_at hl 0 rfl) ?_
        refine lv_iconst (v := nI 1) hx hb dX2_markDecides_35 (by decide) ?_
        refine lv_icmp_ne (tgt := 43) hx hb dX2_markDecides_36 (by decide) (fun _ => ?_) (fun c35 => absurd c35 (by decide))
        refine lv_iconst (v := nI 0) hx hb dX2_markDecides_43 (by decide) ?_
        refine vp_callSi (W.runS (As := [.int (nI (pm_tk ((S 4) f))), .int (nI i), .int (nI 0)]) (rest := []) ⟨hx, hb, hml, hown, hts⟩ (k_X2_withEditor l (nI (pm_tk ((S 4) f))) (nI i) (nI 0)) (va_cwS 3 hts gX2_markDecides_X2_withEditor rfl rfl rfl hd_X2_withEditor ⟨Nat.le_of_ble_eq_true rfl, Nat.le_of_ble_eq_true rfl⟩) ⟨pm_no_blind, pm_no_pre⟩ rfl rfl hl.1 rfl (lv_room (Nat.le_of_ble_eq_true rfl)) dX2_markDecides_44 ⟨Nat.le_of_ble_eq_true rfl, Nat.le_of_ble_eq_true rfl⟩) (fun r36 h37 => ?_)
        obtain rfl : r36 = pm_we (nI (pm_tk ((S 4) f))) (nI i) (nI 0) := h37
        refine lv_topi (fun x38 e39 => ?_)
        obtain rfl : x38 = nI (pm_tk (pm_sm (S 4 f) i 2)) := e39.trans (pm_wet (hI.okm f hf) hi (v := 2) (by decide))
        have := pm_tk8 (pm_sm (S 4 f) i 2)
        refine lv_istore (lv' := [(5, .int (nI (pm_tk (pm_sm (S 4 f) i 2)))), (4, .int (nI 2)), (6, .int (nI (pm_ck (pm_sm (S 4 f) i 1)))), (3, .int (nI 1)), (0, .ref (q 0)), (1, .int (nI i)), (2, .int (nI f))]) hx hb dX2_markDecides_47 hl (by decide) rfl (fun ls hl => ?_)
        refine lv_aload_n hx hb dX2_markDecides_49 rfl (lv_at hl 4 rfl) ?_
        refine va_get (D := D) (ci := 2) (v := .ref (q 4)) (C := RX2) (T := TX2) (N := 15) hx hb hts hin2 hown hK hP 0 rfl rfl 3 (by decide) (hts (.fieldLink RX2 21 "ProofMarks$Sheet" "crosses" "[I") (List.mem_of_getElem? (i := 2) rfl)) (fun _ h9 => h9) rfl dX2_markDecides_50 ?_
        refine lv_iload_n hx hb dX2_markDecides_53 rfl (lv_at hl 6 rfl) ?_
        refine kx_iald (v := nI (pm_ck ((S 4) f))) hx hb hK hP 4 0 rfl rfl (by omega) (by decide) rfl dX2_markDecides_54 ?_
        have := pm_ck8 ((S 4) f)
        refine lv_iload_n hx hb dX2_markDecides_55 rfl (lv_at hl 5 rfl) ?_
        refine lv_iload hx hb dX2_markDecides_56 (lv_at hl 1 rfl) ?_
        refine lv_iconst (v := nI 2) hx hb dX2_markDecides_58 (by decide) ?_
        refine lv_icmp_ne (tgt := 66) hx hb dX2_markDecides_59 (by decide) (fun c40 => (c40 (by decide)).elim) (fun _ => ?_)
        refine lv_iconst (v := nI 1) hx hb dX2_markDecides_62 (by decide) ?_
        refine lv_goto (tgt := 67) hx hb dX2_markDecides_63 (by decide) ?_
        refine vp_callSi (W.runS (As := [.int (nI (pm_ck ((S 4) f))), .int (nI i), .int (nI 1)]) (rest := []) ⟨hx, hb, hml, hown, hts⟩ (k_X2_withEditor l (nI (pm_ck ((S 4) f))) (nI i) (nI 1)) (va_cwS 3 hts gX2_markDecides_X2_withEditor rfl rfl rfl hd_X2_withEditor ⟨Nat.le_of_ble_eq_true rfl, Nat.le_of_ble_eq_true rfl⟩) ⟨pm_no_blind, pm_no_pre⟩ rfl rfl hl.1 rfl (lv_room (Nat.le_of_ble_eq_true rfl)) dX2_markDecides_67 ⟨Nat.le_of_ble_eq_true rfl, Nat.le_of_ble_eq_true rfl⟩) (fun r41 h42 => ?_)
        obtain rfl : r41 = pm_we (nI (pm_ck ((S 4) f))) (nI i) (nI 1) := h42
        refine lv_topi (fun x43 e44 => ?_)
        obtain rfl : x43 = nI (pm_ck (pm_sm (S 4 f) i 2)) := e44.trans (pm_wec (hI.okm f hf) hi (v := 2) (by decide))
        have := pm_ck8 (pm_sm (S 4 f) i 2)
        refine lv_istore (lv' := [(6, .int (nI (pm_ck (pm_sm (S 4 f) i 2)))), (5, .int (nI (pm_tk (pm_sm (S 4 f) i 2)))), (4, .int (nI 2)), (3, .int (nI 1)), (0, .ref (q 0)), (1, .int (nI i)), (2, .int (nI f))]) hx hb dX2_markDecides_70 hl (by decide) rfl (fun ls hl => ?_)
        refine lv_aload_n hx hb dX2_markDecides_72 rfl (lv_at hl 4 rfl) ?_
        refine lv_iload hx hb dX2_markDecides_73 (lv_at hl 1 rfl) ?_
        refine lv_iload hx hb dX2_markDecides_75 (lv_at hl 0 rfl) ?_
        refine vp_callSi (W.runV (As := [.int (nI (pm_tk (pm_sm (S 4 f) i 2))), .int (nI (pm_ck (pm_sm (S 4 f) i 2)))]) (rest := []) ⟨hx, hb, hml, hown, hts⟩ (k_X2_isWanted l D y q S (pm_tk (pm_sm (S 4 f) i 2)) (pm_ck (pm_sm (S 4 f) i 2)) (hI.set9 0 (by decide)) (by omega) (by omega)) (cwV 2 hts gX2_markDecides_X2_isWanted rfl rfl rfl hd_X2_isWanted ⟨Nat.le_of_ble_eq_true rfl, Nat.le_of_ble_eq_true rfl⟩) ⟨pm_ro_blind, va_recv hK hP (ci := 2) (q0 := 0) rfl rfl, pm_ro_pre hP hK⟩ rfl rfl hl.1 rfl (lv_room (Nat.le_of_ble_eq_true rfl)) dX2_markDecides_77 ⟨Nat.le_of_ble_eq_true rfl, Nat.le_of_ble_eq_true rfl⟩) (fun r45 h46 => ?_)
        rcases (show (((pm_ck (pm_sm (S 4 f) i 2)) = 0 ∧ S 9 0 ≤ pm_pc (pm_tk (pm_sm (S 4 f) i 2))) ∧ r45 = nI 1) ∨ (¬ ((pm_ck (pm_sm (S 4 f) i 2)) = 0 ∧ S 9 0 ≤ pm_pc (pm_tk (pm_sm (S 4 f) i 2))) ∧ r45 = nI 0) from h46) with ⟨hp47, rfl⟩ | ⟨hp47, rfl⟩
        · have whp47 := pm_wd_t hp47
          refine lv_iload_n hx hb dX2_markDecides_80 rfl (lv_at hl 3 rfl) ?_
          refine lv_icmp_eq (tgt := 86) hx hb dX2_markDecides_81 (by decide) (fun _ => ?_) (fun c48 => (c48 (by decide)).elim)
          refine lv_iinc (v := nI 3) (lv' := [(4, .int (nI 3)), (6, .int (nI (pm_ck (pm_sm (S 4 f) i 2)))), (5, .int (nI (pm_tk (pm_sm (S 4 f) i 2)))), (3, .int (nI 1)), (0, .ref (q 0)), (1, .int (nI i)), (2, .int (nI f))]) hx hb dX2_markDecides_86 hl (k := 2) rfl (by decide) (by decide) rfl (fun ls hl => ?_)
          refine lv_goto (tgt := 20) hx hb dX2_markDecides_89 (by decide) ?_
          refine lv_iload hx hb dX2_markDecides_20 (lv_at hl 0 rfl) ?_
          refine lv_iconst (v := nI 2) hx hb dX2_markDecides_22 (by decide) ?_
          refine lv_icmp_gt (tgt := 92) hx hb dX2_markDecides_23 (by decide) (fun _ => ?_) (fun c49 => (c49 (by decide)).elim)
          refine lv_iconst (v := nI 0) hx hb dX2_markDecides_92 (by decide) ?_
          exact W.zret (ty := .boolean) hx hb hr rfl (fun t ht _ => ⟨_, rfl, (Or.inr ⟨by simp [pm_mc, whp3, whp17, whp32, whp47], rfl⟩), ht⟩) (fun _ h => absurd h List.not_mem_nil) dX2_markDecides_93
        · have whp47 := pm_wd_f hp47
          refine lv_iload_n hx hb dX2_markDecides_80 rfl (lv_at hl 3 rfl) ?_
          refine lv_icmp_eq (tgt := 86) hx hb dX2_markDecides_81 (by decide) (fun c50 => absurd c50 (by decide)) (fun _ => ?_)
          refine lv_iconst (v := nI 1) hx hb dX2_markDecides_84 (by decide) ?_
          exact W.zret (ty := .boolean) hx hb hr rfl (fun t ht _ => ⟨_, rfl, (Or.inl ⟨by simp [pm_mc, whp3, whp17, whp32, whp47], rfl⟩), ht⟩) (fun _ h => absurd h List.not_mem_nil) dX2_markDecides_85
      · have whp32 := pm_wd_f hp32
        refine lv_iload_n hx hb dX2_markDecides_80 rfl (lv_at hl 3 rfl) ?_
        refine lv_icmp_eq (tgt := 86) hx hb dX2_markDecides_81 (by decide) (fun c51 => absurd c51 (by decide)) (fun _ => ?_)
        refine lv_iconst (v := nI 1) hx hb dX2_markDecides_84 (by decide) ?_
        exact W.zret (ty := .boolean) hx hb hr rfl (fun t ht _ => ⟨_, rfl, (Or.inl ⟨by simp [pm_mc, whp3, whp17, whp32], rfl⟩), ht⟩) (fun _ h => absurd h List.not_mem_nil) dX2_markDecides_85
    · have whp17 := pm_wd_f hp17
      refine lv_iload_n hx hb dX2_markDecides_80 rfl (lv_at hl 3 rfl) ?_
      refine lv_icmp_eq (tgt := 86) hx hb dX2_markDecides_81 (by decide) (fun c52 => absurd c52 (by decide)) (fun _ => ?_)
      refine lv_iconst (v := nI 1) hx hb dX2_markDecides_84 (by decide) ?_
      exact W.zret (ty := .boolean) hx hb hr rfl (fun t ht _ => ⟨_, rfl, (Or.inl ⟨by simp [pm_mc, whp3, whp17], rfl⟩), ht⟩) (fun _ h => absurd h List.not_mem_nil) dX2_markDecides_85
  · have whp3 := pm_wd_f hp3
    refine lv_istore_n (lv' := [(3, .int (nI 0)), (0, .ref (q 0)), (1, .int (nI i)), (2, .int (nI f))]) hx hb dX2_markDecides_16 rfl hl (by decide) rfl (fun ls hl => ?_)
    refine lv_iconst (v := nI 0) hx hb dX2_markDecides_17 (by decide) ?_
    refine lv_istore (lv' := [(4, .int (nI 0)), (3, .int (nI 0)), (0, .ref (q 0)), (1, .int (nI i)), (2, .int (nI f))]) hx hb dX2_markDecides_18 hl (by decide) rfl (fun ls hl => ?_)
    refine lv_iload hx hb dX2_markDecides_20 (lv_at hl 0 rfl) ?_
    refine lv_iconst (v := nI 2) hx hb dX2_markDecides_22 (by decide) ?_
    refine lv_icmp_gt (tgt := 92) hx hb dX2_markDecides_23 (by decide) (fun c53 => absurd c53 (by decide)) (fun _ => ?_)
    refine lv_aload_n hx hb dX2_markDecides_26 rfl (lv_at hl 2 rfl) ?_
    refine va_get (D := D) (ci := 2) (v := .ref (q 3)) (C := RX2) (T := TX2) (N := 15) hx hb hts hin2 hown hK hP 0 rfl rfl 2 (by decide) (hts (.fieldLink RX2 18 "ProofMarks$Sheet" "ticks" "[I") (List.mem_of_getElem? (i := 1) rfl)) (fun _ h9 => h9) rfl dX2_markDecides_27 ?_
    refine lv_iload_n hx hb dX2_markDecides_30 rfl (lv_at hl 4 rfl) ?_
    refine kx_iald (v := nI (pm_tk ((S 4) f))) hx hb hK hP 3 0 rfl rfl (by omega) (by decide) rfl dX2_markDecides_31 ?_
    have := pm_tk8 ((S 4) f)
    refine lv_iload_n hx hb dX2_markDecides_32 rfl (lv_at hl 3 rfl) ?_
    refine lv_iload hx hb dX2_markDecides_33 (lv_at hl 0 rfl) ?_
    refine lv_iconst (v := nI 1) hx hb dX2_markDecides_35 (by decide) ?_
    refine lv_icmp_ne (tgt := 43) hx hb dX2_markDecides_36 (by decide) (fun _ => ?_) (fun c54 => absurd c54 (by decide))
    refine lv_iconst (v := nI 0) hx hb dX2_markDecides_43 (by decide) ?_
    refine vp_callSi (W.runS (As := [.int (nI (pm_tk ((S 4) f))), .int (nI i), .int (nI 0)]) (rest := []) ⟨hx, hb, hml, hown, hts⟩ (k_X2_withEditor l (nI (pm_tk ((S 4) f))) (nI i) (nI 0)) (va_cwS 3 hts gX2_markDecides_X2_withEditor rfl rfl rfl hd_X2_withEditor ⟨Nat.le_of_ble_eq_true rfl, Nat.le_of_ble_eq_true rfl⟩) ⟨pm_no_blind, pm_no_pre⟩ rfl rfl hl.1 rfl (lv_room (Nat.le_of_ble_eq_true rfl)) dX2_markDecides_44 ⟨Nat.le_of_ble_eq_true rfl, Nat.le_of_ble_eq_true rfl⟩) (fun r55 h56 => ?_)
    obtain rfl : r55 = pm_we (nI (pm_tk ((S 4) f))) (nI i) (nI 0) := h56
    refine lv_topi (fun x57 e58 => ?_)
    obtain rfl : x57 = nI (pm_tk (pm_sm (S 4 f) i 0)) := e58.trans (pm_wet (hI.okm f hf) hi (v := 0) (by decide))
    have := pm_tk8 (pm_sm (S 4 f) i 0)
    refine lv_istore (lv' := [(5, .int (nI (pm_tk (pm_sm (S 4 f) i 0)))), (4, .int (nI 0)), (3, .int (nI 0)), (0, .ref (q 0)), (1, .int (nI i)), (2, .int (nI f))]) hx hb dX2_markDecides_47 hl (by decide) rfl (fun ls hl => ?_)
    refine lv_aload_n hx hb dX2_markDecides_49 rfl (lv_at hl 3 rfl) ?_
    refine va_get (D := D) (ci := 2) (v := .ref (q 4)) (C := RX2) (T := TX2) (N := 15) hx hb hts hin2 hown hK hP 0 rfl rfl 3 (by decide) (hts (.fieldLink RX2 21 "ProofMarks$Sheet" "crosses" "[I") (List.mem_of_getElem? (i := 2) rfl)) (fun _ h9 => h9) rfl dX2_markDecides_50 ?_
    refine lv_iload_n hx hb dX2_markDecides_53 rfl (lv_at hl 5 rfl) ?_
    refine kx_iald (v := nI (pm_ck ((S 4) f))) hx hb hK hP 4 0 rfl rfl (by omega) (by decide) rfl dX2_markDecides_54 ?_
    have := pm_ck8 ((S 4) f)
    refine lv_iload_n hx hb dX2_markDecides_55 rfl (lv_at hl 4 rfl) ?_
    refine lv_iload hx hb dX2_markDecides_56 (lv_at hl 1 rfl) ?_
    refine lv_iconst (v := nI 2) hx hb dX2_markDecides_58 (by decide) ?_
    refine lv_icmp_ne (tgt := 66) hx hb dX2_markDecides_59 (by decide) (fun _ => ?_) (fun c59 => absurd c59 (by decide))
    refine lv_iconst (v := nI 0) hx hb dX2_markDecides_66 (by decide) ?_
    refine vp_callSi (W.runS (As := [.int (nI (pm_ck ((S 4) f))), .int (nI i), .int (nI 0)]) (rest := []) ⟨hx, hb, hml, hown, hts⟩ (k_X2_withEditor l (nI (pm_ck ((S 4) f))) (nI i) (nI 0)) (va_cwS 3 hts gX2_markDecides_X2_withEditor rfl rfl rfl hd_X2_withEditor ⟨Nat.le_of_ble_eq_true rfl, Nat.le_of_ble_eq_true rfl⟩) ⟨pm_no_blind, pm_no_pre⟩ rfl rfl hl.1 rfl (lv_room (Nat.le_of_ble_eq_true rfl)) dX2_markDecides_67 ⟨Nat.le_of_ble_eq_true rfl, Nat.le_of_ble_eq_true rfl⟩) (fun r60 h61 => ?_)
    obtain rfl : r60 = pm_we (nI (pm_ck ((S 4) f))) (nI i) (nI 0) := h61
    refine lv_topi (fun x62 e63 => ?_)
    obtain rfl : x62 = nI (pm_ck (pm_sm (S 4 f) i 0)) := e63.trans (pm_wec (hI.okm f hf) hi (v := 0) (by decide))
    have := pm_ck8 (pm_sm (S 4 f) i 0)
    refine lv_istore (lv' := [(6, .int (nI (pm_ck (pm_sm (S 4 f) i 0)))), (5, .int (nI (pm_tk (pm_sm (S 4 f) i 0)))), (4, .int (nI 0)), (3, .int (nI 0)), (0, .ref (q 0)), (1, .int (nI i)), (2, .int (nI f))]) hx hb dX2_markDecides_70 hl (by decide) rfl (fun ls hl => ?_)
    refine lv_aload_n hx hb dX2_markDecides_72 rfl (lv_at hl 4 rfl) ?_
    refine lv_iload hx hb dX2_markDecides_73 (lv_at hl 1 rfl) ?_
    refine lv_iload hx hb dX2_markDecides_75 (lv_at hl 0 rfl) ?_
    refine vp_callSi (W.runV (As := [.int (nI (pm_tk (pm_sm (S 4 f) i 0))), .int (nI (pm_ck (pm_sm (S 4 f) i 0)))]) (rest := []) ⟨hx, hb, hml, hown, hts⟩ (k_X2_isWanted l D y q S (pm_tk (pm_sm (S 4 f) i 0)) (pm_ck (pm_sm (S 4 f) i 0)) (hI.set9 0 (by decide)) (by omega) (by omega)) (cwV 2 hts gX2_markDecides_X2_isWanted rfl rfl rfl hd_X2_isWanted ⟨Nat.le_of_ble_eq_true rfl, Nat.le_of_ble_eq_true rfl⟩) ⟨pm_ro_blind, va_recv hK hP (ci := 2) (q0 := 0) rfl rfl, pm_ro_pre hP hK⟩ rfl rfl hl.1 rfl (lv_room (Nat.le_of_ble_eq_true rfl)) dX2_markDecides_77 ⟨Nat.le_of_ble_eq_true rfl, Nat.le_of_ble_eq_true rfl⟩) (fun r64 h65 => ?_)
    rcases (show (((pm_ck (pm_sm (S 4 f) i 0)) = 0 ∧ S 9 0 ≤ pm_pc (pm_tk (pm_sm (S 4 f) i 0))) ∧ r64 = nI 1) ∨ (¬ ((pm_ck (pm_sm (S 4 f) i 0)) = 0 ∧ S 9 0 ≤ pm_pc (pm_tk (pm_sm (S 4 f) i 0))) ∧ r64 = nI 0) from h65) with ⟨hp66, rfl⟩ | ⟨hp66, rfl⟩
    · have whp66 := pm_wd_t hp66
      refine lv_iload_n hx hb dX2_markDecides_80 rfl (lv_at hl 3 rfl) ?_
      refine lv_icmp_eq (tgt := 86) hx hb dX2_markDecides_81 (by decide) (fun c67 => absurd c67 (by decide)) (fun _ => ?_)
      refine lv_iconst (v := nI 1) hx hb dX2_markDecides_84 (by decide) ?_
      exact W.zret (ty := .boolean) hx hb hr rfl (fun t ht _ => ⟨_, rfl, (Or.inl ⟨by simp [pm_mc, whp3, whp66], rfl⟩), ht⟩) (fun _ h => absurd h List.not_mem_nil) dX2_markDecides_85
    · have whp66 := pm_wd_f hp66
      refine lv_iload_n hx hb dX2_markDecides_80 rfl (lv_at hl 3 rfl) ?_
      refine lv_icmp_eq (tgt := 86) hx hb dX2_markDecides_81 (by decide) (fun _ => ?_) (fun c68 => (c68 (by decide)).elim)
      refine lv_iinc (v := nI 1) (lv' := [(4, .int (nI 1)), (6, .int (nI (pm_ck (pm_sm (S 4 f) i 0)))), (5, .int (nI (pm_tk (pm_sm (S 4 f) i 0)))), (3, .int (nI 0)), (0, .ref (q 0)), (1, .int (nI i)), (2, .int (nI f))]) hx hb dX2_markDecides_86 hl (k := 2) rfl (by decide) (by decide) rfl (fun ls hl => ?_)
      refine lv_goto (tgt := 20) hx hb dX2_markDecides_89 (by decide) ?_
      refine lv_iload hx hb dX2_markDecides_20 (lv_at hl 0 rfl) ?_
      refine lv_iconst (v := nI 2) hx hb dX2_markDecides_22 (by decide) ?_
      refine lv_icmp_gt (tgt := 92) hx hb dX2_markDecides_23 (by decide) (fun c69 => absurd c69 (by decide)) (fun _ => ?_)
      refine lv_aload_n hx hb dX2_markDecides_26 rfl (lv_at hl 4 rfl) ?_
      refine va_get (D := D) (ci := 2) (v := .ref (q 3)) (C := RX2) (T := TX2) (N := 15) hx hb hts hin2 hown hK hP 0 rfl rfl 2 (by decide) (hts (.fieldLink RX2 18 "ProofMarks$Sheet" "ticks" "[I") (List.mem_of_getElem? (i := 1) rfl)) (fun _ h9 => h9) rfl dX2_markDecides_27 ?_
      refine lv_iload_n hx hb dX2_markDecides_30 rfl (lv_at hl 6 rfl) ?_
      refine kx_iald (v := nI (pm_tk ((S 4) f))) hx hb hK hP 3 0 rfl rfl (by omega) (by decide) rfl dX2_markDecides_31 ?_
      have := pm_tk8 ((S 4) f)
      refine lv_iload_n hx hb dX2_markDecides_32 rfl (lv_at hl 5 rfl) ?_
      refine lv_iload hx hb dX2_markDecides_33 (lv_at hl 0 rfl) ?_
      refine lv_iconst (v := nI 1) hx hb dX2_markDecides_35 (by decide) ?_
      refine lv_icmp_ne (tgt := 43) hx hb dX2_markDecides_36 (by decide) (fun c70 => (c70 (by decide)).elim) (fun _ => ?_)
      refine lv_iconst (v := nI 1) hx hb dX2_markDecides_39 (by decide) ?_
      refine lv_goto (tgt := 44) hx hb dX2_markDecides_40 (by decide) ?_
      refine vp_callSi (W.runS (As := [.int (nI (pm_tk ((S 4) f))), .int (nI i), .int (nI 1)]) (rest := []) ⟨hx, hb, hml, hown, hts⟩ (k_X2_withEditor l (nI (pm_tk ((S 4) f))) (nI i) (nI 1)) (va_cwS 3 hts gX2_markDecides_X2_withEditor rfl rfl rfl hd_X2_withEditor ⟨Nat.le_of_ble_eq_true rfl, Nat.le_of_ble_eq_true rfl⟩) ⟨pm_no_blind, pm_no_pre⟩ rfl rfl hl.1 rfl (lv_room (Nat.le_of_ble_eq_true rfl)) dX2_markDecides_44 ⟨Nat.le_of_ble_eq_true rfl, Nat.le_of_ble_eq_true rfl⟩) (fun r71 h72 => ?_)
      obtain rfl : r71 = pm_we (nI (pm_tk ((S 4) f))) (nI i) (nI 1) := h72
      refine lv_topi (fun x73 e74 => ?_)
      obtain rfl : x73 = nI (pm_tk (pm_sm (S 4 f) i 1)) := e74.trans (pm_wet (hI.okm f hf) hi (v := 1) (by decide))
      have := pm_tk8 (pm_sm (S 4 f) i 1)
      refine lv_istore (lv' := [(5, .int (nI (pm_tk (pm_sm (S 4 f) i 1)))), (4, .int (nI 1)), (6, .int (nI (pm_ck (pm_sm (S 4 f) i 0)))), (3, .int (nI 0)), (0, .ref (q 0)), (1, .int (nI i)), (2, .int (nI f))]) hx hb dX2_markDecides_47 hl (by decide) rfl (fun ls hl => ?_)
      refine lv_aload_n hx hb dX2_markDecides_49 rfl (lv_at hl 4 rfl) ?_
      refine va_get (D := D) (ci := 2) (v := .ref (q 4)) (C := RX2) (T := TX2) (N := 15) hx hb hts hin2 hown hK hP 0 rfl rfl 3 (by decide) (hts (.fieldLink RX2 21 "ProofMarks$Sheet" "crosses" "[I") (List.mem_of_getElem? (i := 2) rfl)) (fun _ h9 => h9) rfl dX2_markDecides_50 ?_
      refine lv_iload_n hx hb dX2_markDecides_53 rfl (lv_at hl 6 rfl) ?_
      refine kx_iald (v := nI (pm_ck ((S 4) f))) hx hb hK hP 4 0 rfl rfl (by omega) (by decide) rfl dX2_markDecides_54 ?_
      have := pm_ck8 ((S 4) f)
      refine lv_iload_n hx hb dX2_markDecides_55 rfl (lv_at hl 5 rfl) ?_
      refine lv_iload hx hb dX2_markDecides_56 (lv_at hl 1 rfl) ?_
      refine lv_iconst (v := nI 2) hx hb dX2_markDecides_58 (by decide) ?_
      refine lv_icmp_ne (tgt := 66) hx hb dX2_markDecides_59 (by decide) (fun _ => ?_) (fun c75 => absurd c75 (by decide))
      refine lv_iconst (v := nI 0) hx hb dX2_markDecides_66 (by decide) ?_
      refine vp_callSi (W.runS (As := [.int (nI (pm_ck ((S 4) f))), .int (nI i), .int (nI 0)]) (rest := []) ⟨hx, hb, hml, hown, hts⟩ (k_X2_withEditor l (nI (pm_ck ((S 4) f))) (nI i) (nI 0)) (va_cwS 3 hts gX2_markDecides_X2_withEditor rfl rfl rfl hd_X2_withEditor ⟨Nat.le_of_ble_eq_true rfl, Nat.le_of_ble_eq_true rfl⟩) ⟨pm_no_blind, pm_no_pre⟩ rfl rfl hl.1 rfl (lv_room (Nat.le_of_ble_eq_true rfl)) dX2_markDecides_67 ⟨Nat.le_of_ble_eq_true rfl, Nat.le_of_ble_eq_true rfl⟩) (fun r76 h77 => ?_)
      obtain rfl : r76 = pm_we (nI (pm_ck ((S 4) f))) (nI i) (nI 0) := h77
      refine lv_topi (fun x78 e79 => ?_)
      obtain rfl : x78 = nI (pm_ck (pm_sm (S 4 f) i 1)) := e79.trans (pm_wec (hI.okm f hf) hi (v := 1) (by decide))
      have := pm_ck8 (pm_sm (S 4 f) i 1)
      refine lv_istore (lv' := [(6, .int (nI (pm_ck (pm_sm (S 4 f) i 1)))), (5, .int (nI (pm_tk (pm_sm (S 4 f) i 1)))), (4, .int (nI 1)), (3, .int (nI 0)), (0, .ref (q 0)), (1, .int (nI i)), (2, .int (nI f))]) hx hb dX2_markDecides_70 hl (by decide) rfl (fun ls hl => ?_)
      refine lv_aload_n hx hb dX2_markDecides_72 rfl (lv_at hl 4 rfl) ?_
      refine lv_iload hx hb dX2_markDecides_73 (lv_at hl 1 rfl) ?_
      refine lv_iload hx hb dX2_markDecides_75 (lv_at hl 0 rfl) ?_
      refine vp_callSi (W.runV (As := [.int (nI (pm_tk (pm_sm (S 4 f) i 1))), .int (nI (pm_ck (pm_sm (S 4 f) i 1)))]) (rest := []) ⟨hx, hb, hml, hown, hts⟩ (k_X2_isWanted l D y q S (pm_tk (pm_sm (S 4 f) i 1)) (pm_ck (pm_sm (S 4 f) i 1)) (hI.set9 0 (by decide)) (by omega) (by omega)) (cwV 2 hts gX2_markDecides_X2_isWanted rfl rfl rfl hd_X2_isWanted ⟨Nat.le_of_ble_eq_true rfl, Nat.le_of_ble_eq_true rfl⟩) ⟨pm_ro_blind, va_recv hK hP (ci := 2) (q0 := 0) rfl rfl, pm_ro_pre hP hK⟩ rfl rfl hl.1 rfl (lv_room (Nat.le_of_ble_eq_true rfl)) dX2_markDecides_77 ⟨Nat.le_of_ble_eq_true rfl, Nat.le_of_ble_eq_true rfl⟩) (fun r80 h81 => ?_)
      rcases (show (((pm_ck (pm_sm (S 4 f) i 1)) = 0 ∧ S 9 0 ≤ pm_pc (pm_tk (pm_sm (S 4 f) i 1))) ∧ r80 = nI 1) ∨ (¬ ((pm_ck (pm_sm (S 4 f) i 1)) = 0 ∧ S 9 0 ≤ pm_pc (pm_tk (pm_sm (S 4 f) i 1))) ∧ r80 = nI 0) from h81) with ⟨hp82, rfl⟩ | ⟨hp82, rfl⟩
      · have whp82 := pm_wd_t hp82
        refine lv_iload_n hx hb dX2_markDecides_80 rfl (lv_at hl 3 rfl) ?_
        refine lv_icmp_eq (tgt := 86) hx hb dX2_markDecides_81 (by decide) (fun c83 => absurd c83 (by decide)) (fun _ => ?_)
        refine lv_iconst (v := nI 1) hx hb dX2_markDecides_84 (by decide) ?_
        exact W.zret (ty := .boolean) hx hb hr rfl (fun t ht _ => ⟨_, rfl, (Or.inl ⟨by simp [pm_mc, whp3, whp66, whp82], rfl⟩), ht⟩) (fun _ h => absurd h List.not_mem_nil) dX2_markDecides_85
      · have whp82 := pm_wd_f hp82
        refine lv_iload_n hx hb dX2_markDecides_80 rfl (lv_at hl 3 rfl) ?_
        refine lv_icmp_eq (tgt := 86) hx hb dX2_markDecides_81 (by decide) (fun _ => ?_) (fun c84 => (c84 (by decide)).elim)
        refine lv_iinc (v := nI 2) (lv' := [(4, .int (nI 2)), (6, .int (nI (pm_ck (pm_sm (S 4 f) i 1)))), (5, .int (nI (pm_tk (pm_sm (S 4 f) i 1)))), (3, .int (nI 0)), (0, .ref (q 0)), (1, .int (nI i)), (2, .int (nI f))]) hx hb dX2_markDecides_86 hl (k := 2) rfl (by decide) (by decide) rfl (fun ls hl => ?_)
        refine lv_goto (tgt := 20) hx hb dX2_markDecides_89 (by decide) ?_
        refine lv_iload hx hb dX2_markDecides_20 (lv_at hl 0 rfl) ?_
        refine lv_iconst (v := nI 2) hx hb dX2_markDecides_22 (by decide) ?_
        refine lv_icmp_gt (tgt := 92) hx hb dX2_markDecides_23 (by decide) (fun c85 => absurd c85 (by decide)) (fun _ => ?_)
        refine lv_aload_n hx hb dX2_markDecides_26 rfl (lv_at hl 4 rfl) ?_
        refine va_get (D := D) (ci := 2) (v := .ref (q 3)) (C := RX2) (T := TX2) (N := 15) hx hb hts hin2 hown hK hP 0 rfl rfl 2 (by decide) (hts (.fieldLink RX2 18 "ProofMarks$Sheet" "ticks" "[I") (List.mem_of_getElem? (i := 1) rfl)) (fun _ h9 => h9) rfl dX2_markDecides_27 ?_
        refine lv_iload_n hx hb dX2_markDecides_30 rfl (lv_at hl 6 rfl) ?_
        refine kx_iald (v := nI (pm_tk ((S 4) f))) hx hb hK hP 3 0 rfl rfl (by omega) (by decide) rfl dX2_markDecides_31 ?_
        have := pm_tk8 ((S 4) f)
        refine lv_iload_n hx hb dX2_markDecides_32 rfl (lv_at hl 5 rfl) ?_
        refine lv_iload hx hb dX2_markDecides_33 (lv_at hl 0 rfl) ?_
        refine lv_iconst (v := nI 1) hx hb dX2_markDecides_35 (by decide) ?_
        refine lv_icmp_ne (tgt := 43) hx hb dX2_markDecides_36 (by decide) (fun _ => ?_) (fun c86 => absurd c86 (by decide))
        refine lv_iconst (v := nI 0) hx hb dX2_markDecides_43 (by decide) ?_
        refine vp_callSi (W.runS (As := [.int (nI (pm_tk ((S 4) f))), .int (nI i), .int (nI 0)]) (rest := []) ⟨hx, hb, hml, hown, hts⟩ (k_X2_withEditor l (nI (pm_tk ((S 4) f))) (nI i) (nI 0)) (va_cwS 3 hts gX2_markDecides_X2_withEditor rfl rfl rfl hd_X2_withEditor ⟨Nat.le_of_ble_eq_true rfl, Nat.le_of_ble_eq_true rfl⟩) ⟨pm_no_blind, pm_no_pre⟩ rfl rfl hl.1 rfl (lv_room (Nat.le_of_ble_eq_true rfl)) dX2_markDecides_44 ⟨Nat.le_of_ble_eq_true rfl, Nat.le_of_ble_eq_true rfl⟩) (fun r87 h88 => ?_)
        obtain rfl : r87 = pm_we (nI (pm_tk ((S 4) f))) (nI i) (nI 0) := h88
        refine lv_topi (fun x89 e90 => ?_)
        obtain rfl : x89 = nI (pm_tk (pm_sm (S 4 f) i 2)) := e90.trans (pm_wet (hI.okm f hf) hi (v := 2) (by decide))
        have := pm_tk8 (pm_sm (S 4 f) i 2)
        refine lv_istore (lv' := [(5, .int (nI (pm_tk (pm_sm (S 4 f) i 2)))), (4, .int (nI 2)), (6, .int (nI (pm_ck (pm_sm (S 4 f) i 1)))), (3, .int (nI 0)), (0, .ref (q 0)), (1, .int (nI i)), (2, .int (nI f))]) hx hb dX2_markDecides_47 hl (by decide) rfl (fun ls hl => ?_)
        refine lv_aload_n hx hb dX2_markDecides_49 rfl (lv_at hl 4 rfl) ?_
        refine va_get (D := D) (ci := 2) (v := .ref (q 4)) (C := RX2) (T := TX2) (N := 15) hx hb hts hin2 hown hK hP 0 rfl rfl 3 (by decide) (hts (.fieldLink RX2 21 "ProofMarks$Sheet" "crosses" "[I") (List.mem_of_getElem? (i := 2) rfl)) (fun _ h9 => h9) rfl dX2_markDecides_50 ?_
        refine lv_iload_n hx hb dX2_markDecides_53 rfl (lv_at hl 6 rfl) ?_
        refine kx_iald (v := nI (pm_ck ((S 4) f))) hx hb hK hP 4 0 rfl rfl (by omega) (by decide) rfl dX2_markDecides_54 ?_
        have := pm_ck8 ((S 4) f)
        refine lv_iload_n hx hb dX2_markDecides_55 rfl (lv_at hl 5 rfl) ?_
        refine lv_iload hx hb dX2_markDecides_56 (lv_at hl 1 rfl) ?_
        refine lv_iconst (v := nI 2) hx hb dX2_markDecides_58 (by decide) ?_
        refine lv_icmp_ne (tgt := 66) hx hb dX2_markDecides_59 (by decide) (fun c91 => (c91 (by decide)).elim) (fun _ => ?_)
        refine lv_iconst (v := nI 1) hx hb dX2_markDecides_62 (by decide) ?_
        refine lv_goto (tgt := 67) hx hb dX2_markDecides_63 (by decide) ?_
        refine vp_callSi (W.runS (As := [.int (nI (pm_ck ((S 4) f))), .int (nI i), .int (nI 1)]) (rest := []) ⟨hx, hb, hml, hown, hts⟩ (k_X2_withEditor l (nI (pm_ck ((S 4) f))) (nI i) (nI 1)) (va_cwS 3 hts gX2_markDecides_X2_withEditor rfl rfl rfl hd_X2_withEditor ⟨Nat.le_of_ble_eq_true rfl, Nat.le_of_ble_eq_true rfl⟩) ⟨pm_no_blind, pm_no_pre⟩ rfl rfl hl.1 rfl (lv_room (Nat.le_of_ble_eq_true rfl)) dX2_markDecides_67 ⟨Nat.le_of_ble_eq_true rfl, Nat.le_of_ble_eq_true rfl⟩) (fun r92 h93 => ?_)
        obtain rfl : r92 = pm_we (nI (pm_ck ((S 4) f))) (nI i) (nI 1) := h93
        refine lv_topi (fun x94 e95 => ?_)
        obtain rfl : x94 = nI (pm_ck (pm_sm (S 4 f) i 2)) := e95.trans (pm_wec (hI.okm f hf) hi (v := 2) (by decide))
        have := pm_ck8 (pm_sm (S 4 f) i 2)
        refine lv_istore (lv' := [(6, .int (nI (pm_ck (pm_sm (S 4 f) i 2)))), (5, .int (nI (pm_tk (pm_sm (S 4 f) i 2)))), (4, .int (nI 2)), (3, .int (nI 0)), (0, .ref (q 0)), (1, .int (nI i)), (2, .int (nI f))]) hx hb dX2_markDecides_70 hl (by decide) rfl (fun ls hl => ?_)
        refine lv_aload_n hx hb dX2_markDecides_72 rfl (lv_at hl 4 rfl) ?_
        refine lv_iload hx hb dX2_markDecides_73 (lv_at hl 1 rfl) ?_
        refine lv_iload hx hb dX2_markDecides_75 (lv_at hl 0 rfl) ?_
        refine vp_callSi (W.runV (As := [.int (nI (pm_tk (pm_sm (S 4 f) i 2))), .int (nI (pm_ck (pm_sm (S 4 f) i 2)))]) (rest := []) ⟨hx, hb, hml, hown, hts⟩ (k_X2_isWanted l D y q S (pm_tk (pm_sm (S 4 f) i 2)) (pm_ck (pm_sm (S 4 f) i 2)) (hI.set9 0 (by decide)) (by omega) (by omega)) (cwV 2 hts gX2_markDecides_X2_isWanted rfl rfl rfl hd_X2_isWanted ⟨Nat.le_of_ble_eq_true rfl, Nat.le_of_ble_eq_true rfl⟩) ⟨pm_ro_blind, va_recv hK hP (ci := 2) (q0 := 0) rfl rfl, pm_ro_pre hP hK⟩ rfl rfl hl.1 rfl (lv_room (Nat.le_of_ble_eq_true rfl)) dX2_markDecides_77 ⟨Nat.le_of_ble_eq_true rfl, Nat.le_of_ble_eq_true rfl⟩) (fun r96 h97 => ?_)
        rcases (show (((pm_ck (pm_sm (S 4 f) i 2)) = 0 ∧ S 9 0 ≤ pm_pc (pm_tk (pm_sm (S 4 f) i 2))) ∧ r96 = nI 1) ∨ (¬ ((pm_ck (pm_sm (S 4 f) i 2)) = 0 ∧ S 9 0 ≤ pm_pc (pm_tk (pm_sm (S 4 f) i 2))) ∧ r96 = nI 0) from h97) with ⟨hp98, rfl⟩ | ⟨hp98, rfl⟩
        · have whp98 := pm_wd_t hp98
          refine lv_iload_n hx hb dX2_markDecides_80 rfl (lv_at hl 3 rfl) ?_
          refine lv_icmp_eq (tgt := 86) hx hb dX2_markDecides_81 (by decide) (fun c99 => absurd c99 (by decide)) (fun _ => ?_)
          refine lv_iconst (v := nI 1) hx hb dX2_markDecides_84 (by decide) ?_
          exact W.zret (ty := .boolean) hx hb hr rfl (fun t ht _ => ⟨_, rfl, (Or.inl ⟨by simp [pm_mc, whp3, whp66, whp82, whp98], rfl⟩), ht⟩) (fun _ h => absurd h List.not_mem_nil) dX2_markDecides_85
        · have whp98 := pm_wd_f hp98
          refine lv_iload_n hx hb dX2_markDecides_80 rfl (lv_at hl 3 rfl) ?_
          refine lv_icmp_eq (tgt := 86) hx hb dX2_markDecides_81 (by decide) (fun _ => ?_) (fun c100 => (c100 (by decide)).elim)
          refine lv_iinc (v := nI 3) (lv' := [(4, .int (nI 3)), (6, .int (nI (pm_ck (pm_sm (S 4 f) i 2)))), (5, .int (nI (pm_tk (pm_sm (S 4 f) i 2)))), (3, .int (nI 0)), (0, .ref (q 0)), (1, .int (nI i)), (2, .int (nI f))]) hx hb dX2_markDecides_86 hl (k := 2) rfl (by decide) (by decide) rfl (fun ls hl => ?_)
          refine lv_goto (tgt := 20) hx hb dX2_markDecides_89 (by decide) ?_
          refine lv_iload hx hb dX2_markDecides_20 (lv_at hl 0 rfl) ?_
          refine lv_iconst (v := nI 2) hx hb dX2_markDecides_22 (by decide) ?_
          refine lv_icmp_gt (tgt := 92) hx hb dX2_markDecides_23 (by decide) (fun _ => ?_) (fun c101 => (c101 (by decide)).elim)
          refine lv_iconst (v := nI 0) hx hb dX2_markDecides_92 (by decide) ?_
          exact W.zret (ty := .boolean) hx hb hr rfl (fun t ht _ => ⟨_, rfl, (Or.inr ⟨by simp [pm_mc, whp3, whp66, whp82, whp98], rfl⟩), ht⟩) (fun _ h => absurd h List.not_mem_nil) dX2_markDecides_93

set_option maxHeartbeats 4000000 in
set_option maxRecDepth 100000 in
theorem k_X2_deciders (l : Launch) (D : va_G) (y : Nat → ClassId) (q : Nat → Nat) (S : Nat → Nat → Nat) (xf : Int32) (hI : pm_Inv S) : Met l yX2_deciders wsX2_deciders ({ frames := 3, cells := 0, slots := 0, locals := 68 } : Room) (pm_ro D (pm_ty y) [.ref (q 0), .int xf] (pm_shS y q S)) (vp_Si (fun r : Int32 => r = pm_dec S xf)) 0 0 (fun _ => False) := by
  refine Met.ofW (cc := cX2_deciders) (maxL := 4) (ret := (some .int)) (by decide) rfl ?_
  intro p e s m args below meth c s₁ B hml hpre
  obtain ⟨rfl, hP, hK⟩ := hpre
  have hx := B.exec
  have hb := B.bytes
  have hr := B.returns
  have hts := atoms_spec (ws := wsX2_deciders) B.pre
  have hown : s.vm.findClass RX2 = some m.cls := findClass_of_methodNamed B.named
  have hlocks := B.notSynchronized
  have hin2 : ∀ w ∈ u_ws RX2 TX2 15, w ∈ wsX2_deciders := fun w h => List.mem_cons_of_mem _ (List.mem_append_right _ h)
  have hP : va_P D vwCl (pm_shS y q S) s.heap := hP
  have hl := lv_entry ([.ref (q 0), .int xf]) (n := 4) (Nat.le_of_ble_eq_true rfl)
  rw [lg_entry_eq]
  generalize (lg_sl ([.ref (q 0), .int xf]) ++ List.replicate (4 - (lg_sl ([.ref (q 0), .int xf])).length) Slot.unset).toArray = ls at hl ⊢
  have hl : lv_has ls 4 [(0, .ref (q 0)), (1, .int xf)] := hl
  refine lv_iload_n hx hb dX2_deciders_0 rfl (lv_at hl 1 rfl) ?_
  refine vp_callSi (W.runS (As := [.int xf]) (rest := []) ⟨hx, hb, hml, hown, hts⟩ (k_X2_isFrame l xf) (va_cwS 1 hts gX2_deciders_X2_isFrame rfl rfl rfl hd_X2_isFrame ⟨Nat.le_of_ble_eq_true rfl, Nat.le_of_ble_eq_true rfl⟩) ⟨pm_no_blind, pm_no_pre⟩ rfl rfl hl.1 rfl (lv_room (Nat.le_of_ble_eq_true rfl)) dX2_deciders_1 ⟨Nat.le_of_ble_eq_true rfl, Nat.le_of_ble_eq_true rfl⟩) (fun r1 h2 => ?_)
  rcases h2 with ⟨j3, hj3, ej3, rfl⟩ | ⟨hnj3, rfl⟩
  · subst ej3
    refine lv_if_ne (tgt := 9) hx hb dX2_deciders_4 (by decide) (fun _ => ?_) (fun c4 => absurd c4 (by decide))
    refine lv_iconst (v := nI 0) hx hb dX2_deciders_9 (by decide) ?_
    refine lv_topi (fun x5 e6 => ?_)
    obtain rfl : x5 = nI (pm_ds S j3 0) := e6.trans (rfl)
    refine lv_istore_n (lv' := [(2, .int (nI (pm_ds S j3 0))), (0, .ref (q 0)), (1, .int (nI j3))]) hx hb dX2_deciders_10 rfl hl (by decide) rfl (fun ls hl => ?_)
    refine lv_iconst (v := nI 0) hx hb dX2_deciders_11 (by decide) ?_
    refine lv_istore_n (lv' := [(3, .int (nI 0)), (2, .int (nI (pm_ds S j3 0))), (0, .ref (q 0)), (1, .int (nI j3))]) hx hb dX2_deciders_12 rfl hl (by decide) rfl (fun ls hl => ?_)
    refine lv_iload_n hx hb dX2_deciders_13 rfl (lv_at hl 0 rfl) ?_
    refine lv_iconst (v := nI 3) hx hb dX2_deciders_14 (by decide) ?_
    refine lv_icmp_ge (tgt := 53) hx hb dX2_deciders_15 (by decide) (fun c7 => absurd c7 (by decide)) (fun _ => ?_)
    refine lv_iload_n hx hb dX2_deciders_18 rfl (lv_at hl 1 rfl) ?_
    refine lv_iload_n hx hb dX2_deciders_19 rfl (lv_at hl 0 rfl) ?_
    refine lv_aload_n hx hb dX2_deciders_20 rfl (lv_at hl 2 rfl) ?_
    refine va_get (D := D) (ci := 2) (v := .ref (q 2)) (C := RX2) (T := TX2) (N := 15) hx hb hts hin2 hown hK hP 0 rfl rfl 1 (by decide) (hts (.fieldLink RX2 15 "ProofMarks$Sheet" "how" "[I") (List.mem_of_getElem? (i := 1) rfl)) (fun _ h9 => h9) rfl dX2_deciders_21 ?_
    refine lv_iload_n hx hb dX2_deciders_24 rfl (lv_at hl 3 rfl) ?_
    refine kx_iald (v := nI ((S 0) j3)) hx hb hK hP 2 0 rfl rfl (by omega) (by decide) rfl dX2_deciders_25 ?_
    have := hI.how j3 (by omega)
    refine kx_if_ne (tgt := 42) hx hb (by omega) dX2_deciders_26 (by decide) (fun c8 => ?_) (fun c8 => ?_)
    · skip
      refine lv_iconst (v := nI 0) hx hb dX2_deciders_42 (by decide) ?_
      refine vp_callSi (W.runS (As := [.int (nI (pm_ds S j3 0)), .int (nI 0), .int (nI 0)]) (rest := []) ⟨hx, hb, hml, hown, hts⟩ (k_X2_withEditor l (nI (pm_ds S j3 0)) (nI 0) (nI 0)) (va_cwS 3 hts gX2_deciders_X2_withEditor rfl rfl rfl hd_X2_withEditor ⟨Nat.le_of_ble_eq_true rfl, Nat.le_of_ble_eq_true rfl⟩) ⟨pm_no_blind, pm_no_pre⟩ rfl rfl hl.1 rfl (lv_room (Nat.le_of_ble_eq_true rfl)) dX2_deciders_43 ⟨Nat.le_of_ble_eq_true rfl, Nat.le_of_ble_eq_true rfl⟩) (fun r9 h10 => ?_)
      obtain rfl : r9 = pm_we (nI (pm_ds S j3 0)) (nI 0) (nI 0) := h10
      refine lv_topi (fun x11 e12 => ?_)
      obtain rfl : x11 = nI (pm_ds S j3 1) := e12.trans ((by first | exact pm_ds_p (n := 0) (by decide) (by assumption) (by assumption) | exact pm_ds_n (n := 0) (by decide) (fun z => absurd z.1 (by assumption)) | exact pm_ds_n (n := 0) (by decide) (fun z => absurd z.2 (by assumption))))
      refine lv_istore_n (lv' := [(2, .int (nI (pm_ds S j3 1))), (3, .int (nI 0)), (0, .ref (q 0)), (1, .int (nI j3))]) hx hb dX2_deciders_46 rfl hl (by decide) rfl (fun ls hl => ?_)
      refine lv_iinc (v := nI 1) (lv' := [(3, .int (nI 1)), (2, .int (nI (pm_ds S j3 1))), (0, .ref (q 0)), (1, .int (nI j3))]) hx hb dX2_deciders_47 hl (k := 1) rfl (by decide) (by decide) rfl (fun ls hl => ?_)
      refine lv_goto (tgt := 13) hx hb dX2_deciders_50 (by decide) ?_
      refine lv_iload_n hx hb dX2_deciders_13 rfl (lv_at hl 0 rfl) ?_
      refine lv_iconst (v := nI 3) hx hb dX2_deciders_14 (by decide) ?_
      refine lv_icmp_ge (tgt := 53) hx hb dX2_deciders_15 (by decide) (fun c13 => absurd c13 (by decide)) (fun _ => ?_)
      refine lv_iload_n hx hb dX2_deciders_18 rfl (lv_at hl 1 rfl) ?_
      refine lv_iload_n hx hb dX2_deciders_19 rfl (lv_at hl 0 rfl) ?_
      refine lv_aload_n hx hb dX2_deciders_20 rfl (lv_at hl 2 rfl) ?_
      refine va_get (D := D) (ci := 2) (v := .ref (q 2)) (C := RX2) (T := TX2) (N := 15) hx hb hts hin2 hown hK hP 0 rfl rfl 1 (by decide) (hts (.fieldLink RX2 15 "ProofMarks$Sheet" "how" "[I") (List.mem_of_getElem? (i := 1) rfl)) (fun _ h9 => h9) rfl dX2_deciders_21 ?_
      refine lv_iload_n hx hb dX2_deciders_24 rfl (lv_at hl 3 rfl) ?_
      refine kx_iald (v := nI ((S 0) j3)) hx hb hK hP 2 0 rfl rfl (by omega) (by decide) rfl dX2_deciders_25 ?_
      have := hI.how j3 (by omega)
      refine kx_if_ne (tgt := 42) hx hb (by omega) dX2_deciders_26 (by decide) (fun c14 => ?_) (fun c14 => ?_)
      · skip
        refine lv_iconst (v := nI 0) hx hb dX2_deciders_42 (by decide) ?_
        refine vp_callSi (W.runS (As := [.int (nI (pm_ds S j3 1)), .int (nI 1), .int (nI 0)]) (rest := []) ⟨hx, hb, hml, hown, hts⟩ (k_X2_withEditor l (nI (pm_ds S j3 1)) (nI 1) (nI 0)) (va_cwS 3 hts gX2_deciders_X2_withEditor rfl rfl rfl hd_X2_withEditor ⟨Nat.le_of_ble_eq_true rfl, Nat.le_of_ble_eq_true rfl⟩) ⟨pm_no_blind, pm_no_pre⟩ rfl rfl hl.1 rfl (lv_room (Nat.le_of_ble_eq_true rfl)) dX2_deciders_43 ⟨Nat.le_of_ble_eq_true rfl, Nat.le_of_ble_eq_true rfl⟩) (fun r15 h16 => ?_)
        obtain rfl : r15 = pm_we (nI (pm_ds S j3 1)) (nI 1) (nI 0) := h16
        refine lv_topi (fun x17 e18 => ?_)
        obtain rfl : x17 = nI (pm_ds S j3 2) := e18.trans ((by first | exact pm_ds_p (n := 1) (by decide) (by assumption) (by assumption) | exact pm_ds_n (n := 1) (by decide) (fun z => absurd z.1 (by assumption)) | exact pm_ds_n (n := 1) (by decide) (fun z => absurd z.2 (by assumption))))
        refine lv_istore_n (lv' := [(2, .int (nI (pm_ds S j3 2))), (3, .int (nI 1)), (0, .ref (q 0)), (1, .int (nI j3))]) hx hb dX2_deciders_46 rfl hl (by decide) rfl (fun ls hl => ?_)
        refine lv_iinc (v := nI 2) (lv' := [(3, .int (nI 2)), (2, .int (nI (pm_ds S j3 2))), (0, .ref (q 0)), (1, .int (nI j3))]) hx hb dX2_deciders_47 hl (k := 1) rfl (by decide) (by decide) rfl (fun ls hl => ?_)
        refine lv_goto (tgt := 13) hx hb dX2_deciders_50 (by decide) ?_
        refine lv_iload_n hx hb dX2_deciders_13 rfl (lv_at hl 0 rfl) ?_
        refine lv_iconst (v := nI 3) hx hb dX2_deciders_14 (by decide) ?_
        refine lv_icmp_ge (tgt := 53) hx hb dX2_deciders_15 (by decide) (fun c19 => absurd c19 (by decide)) (fun _ => ?_)
        refine lv_iload_n hx hb dX2_deciders_18 rfl (lv_at hl 1 rfl) ?_
        refine lv_iload_n hx hb dX2_deciders_19 rfl (lv_at hl 0 rfl) ?_
        refine lv_aload_n hx hb dX2_deciders_20 rfl (lv_at hl 2 rfl) ?_
        refine va_get (D := D) (ci := 2) (v := .ref (q 2)) (C := RX2) (T := TX2) (N := 15) hx hb hts hin2 hown hK hP 0 rfl rfl 1 (by decide) (hts (.fieldLink RX2 15 "ProofMarks$Sheet" "how" "[I") (List.mem_of_getElem? (i := 1) rfl)) (fun _ h9 => h9) rfl dX2_deciders_21 ?_
        refine lv_iload_n hx hb dX2_deciders_24 rfl (lv_at hl 3 rfl) ?_
        refine kx_iald (v := nI ((S 0) j3)) hx hb hK hP 2 0 rfl rfl (by omega) (by decide) rfl dX2_deciders_25 ?_
        have := hI.how j3 (by omega)
        refine kx_if_ne (tgt := 42) hx hb (by omega) dX2_deciders_26 (by decide) (fun c20 => ?_) (fun c20 => ?_)
        · skip
          refine lv_iconst (v := nI 0) hx hb dX2_deciders_42 (by decide) ?_
          refine vp_callSi (W.runS (As := [.int (nI (pm_ds S j3 2)), .int (nI 2), .int (nI 0)]) (rest := []) ⟨hx, hb, hml, hown, hts⟩ (k_X2_withEditor l (nI (pm_ds S j3 2)) (nI 2) (nI 0)) (va_cwS 3 hts gX2_deciders_X2_withEditor rfl rfl rfl hd_X2_withEditor ⟨Nat.le_of_ble_eq_true rfl, Nat.le_of_ble_eq_true rfl⟩) ⟨pm_no_blind, pm_no_pre⟩ rfl rfl hl.1 rfl (lv_room (Nat.le_of_ble_eq_true rfl)) dX2_deciders_43 ⟨Nat.le_of_ble_eq_true rfl, Nat.le_of_ble_eq_true rfl⟩) (fun r21 h22 => ?_)
          obtain rfl : r21 = pm_we (nI (pm_ds S j3 2)) (nI 2) (nI 0) := h22
          refine lv_topi (fun x23 e24 => ?_)
          obtain rfl : x23 = nI (pm_ds S j3 3) := e24.trans ((by first | exact pm_ds_p (n := 2) (by decide) (by assumption) (by assumption) | exact pm_ds_n (n := 2) (by decide) (fun z => absurd z.1 (by assumption)) | exact pm_ds_n (n := 2) (by decide) (fun z => absurd z.2 (by assumption))))
          refine lv_istore_n (lv' := [(2, .int (nI (pm_ds S j3 3))), (3, .int (nI 2)), (0, .ref (q 0)), (1, .int (nI j3))]) hx hb dX2_deciders_46 rfl hl (by decide) rfl (fun ls hl => ?_)
          refine lv_iinc (v := nI 3) (lv' := [(3, .int (nI 3)), (2, .int (nI (pm_ds S j3 3))), (0, .ref (q 0)), (1, .int (nI j3))]) hx hb dX2_deciders_47 hl (k := 1) rfl (by decide) (by decide) rfl (fun ls hl => ?_)
          refine lv_goto (tgt := 13) hx hb dX2_deciders_50 (by decide) ?_
          refine lv_iload_n hx hb dX2_deciders_13 rfl (lv_at hl 0 rfl) ?_
          refine lv_iconst (v := nI 3) hx hb dX2_deciders_14 (by decide) ?_
          refine lv_icmp_ge (tgt := 53) hx hb dX2_deciders_15 (by decide) (fun _ => ?_) (fun c25 => (c25 (by decide)).elim)
          refine lv_iload_n hx hb dX2_deciders_53 rfl (lv_at hl 1 rfl) ?_
          exact W.iret hx hb hr (fun t ht _ => ⟨_, rfl, (by simp only [pm_dec, pm_ix_in hj3 (show (30 : Nat) < 2 ^ 31 by decide)]), ht⟩) (fun _ h => absurd h List.not_mem_nil) dX2_deciders_54
        · skip
          refine lv_aload_n hx hb dX2_deciders_29 rfl (lv_at hl 2 rfl) ?_
          refine lv_iload_n hx hb dX2_deciders_30 rfl (lv_at hl 0 rfl) ?_
          refine lv_iload_n hx hb dX2_deciders_31 rfl (lv_at hl 3 rfl) ?_
          refine vp_callSi (W.runV (As := [.int (nI 2), .int (nI j3)]) (rest := [.int (nI 2), .int (nI (pm_ds S j3 2))]) ⟨hx, hb, hml, hown, hts⟩ (k_X2_markDecides l D y q S 2 j3 hI (by omega) (by omega)) (cwV 2 hts gX2_deciders_X2_markDecides rfl rfl rfl hd_X2_markDecides ⟨Nat.le_of_ble_eq_true rfl, Nat.le_of_ble_eq_true rfl⟩) ⟨pm_ro_blind, va_recv hK hP (ci := 2) (q0 := 0) rfl rfl, pm_ro_pre hP hK⟩ rfl rfl hl.1 rfl (lv_room (Nat.le_of_ble_eq_true rfl)) dX2_deciders_32 ⟨Nat.le_of_ble_eq_true rfl, Nat.le_of_ble_eq_true rfl⟩) (fun r26 h27 => ?_)
          rcases (show ((pm_mc (S 9 0) (S 4 j3) 2 3 = true) ∧ r26 = nI 1) ∨ (¬ (pm_mc (S 9 0) (S 4 j3) 2 3 = true) ∧ r26 = nI 0) from h27) with ⟨hp28, rfl⟩ | ⟨hp28, rfl⟩
          · skip
            refine lv_if_eq (tgt := 42) hx hb dX2_deciders_35 (by decide) (fun c29 => absurd c29 (by decide)) (fun _ => ?_)
            refine lv_iconst (v := nI 1) hx hb dX2_deciders_38 (by decide) ?_
            refine lv_goto (tgt := 43) hx hb dX2_deciders_39 (by decide) ?_
            refine vp_callSi (W.runS (As := [.int (nI (pm_ds S j3 2)), .int (nI 2), .int (nI 1)]) (rest := []) ⟨hx, hb, hml, hown, hts⟩ (k_X2_withEditor l (nI (pm_ds S j3 2)) (nI 2) (nI 1)) (va_cwS 3 hts gX2_deciders_X2_withEditor rfl rfl rfl hd_X2_withEditor ⟨Nat.le_of_ble_eq_true rfl, Nat.le_of_ble_eq_true rfl⟩) ⟨pm_no_blind, pm_no_pre⟩ rfl rfl hl.1 rfl (lv_room (Nat.le_of_ble_eq_true rfl)) dX2_deciders_43 ⟨Nat.le_of_ble_eq_true rfl, Nat.le_of_ble_eq_true rfl⟩) (fun r30 h31 => ?_)
            obtain rfl : r30 = pm_we (nI (pm_ds S j3 2)) (nI 2) (nI 1) := h31
            refine lv_topi (fun x32 e33 => ?_)
            obtain rfl : x32 = nI (pm_ds S j3 3) := e33.trans ((by first | exact pm_ds_p (n := 2) (by decide) (by assumption) (by assumption) | exact pm_ds_n (n := 2) (by decide) (fun z => absurd z.1 (by assumption)) | exact pm_ds_n (n := 2) (by decide) (fun z => absurd z.2 (by assumption))))
            refine lv_istore_n (lv' := [(2, .int (nI (pm_ds S j3 3))), (3, .int (nI 2)), (0, .ref (q 0)), (1, .int (nI j3))]) hx hb dX2_deciders_46 rfl hl (by decide) rfl (fun ls hl => ?_)
            refine lv_iinc (v := nI 3) (lv' := [(3, .int (nI 3)), (2, .int (nI (pm_ds S j3 3))), (0, .ref (q 0)), (1, .int (nI j3))]) hx hb dX2_deciders_47 hl (k := 1) rfl (by decide) (by decide) rfl (fun ls hl => ?_)
            refine lv_goto (tgt := 13) hx hb dX2_deciders_50 (by decide) ?_
            refine lv_iload_n hx hb dX2_deciders_13 rfl (lv_at hl 0 rfl) ?_
            refine lv_iconst (v := nI 3) hx hb dX2_deciders_14 (by decide) ?_
            refine lv_icmp_ge (tgt := 53) hx hb dX2_deciders_15 (by decide) (fun _ => ?_) (fun c34 => (c34 (by decide)).elim)
            refine lv_iload_n hx hb dX2_deciders_53 rfl (lv_at hl 1 rfl) ?_
            exact W.iret hx hb hr (fun t ht _ => ⟨_, rfl, (by simp only [pm_dec, pm_ix_in hj3 (show (30 : Nat) < 2 ^ 31 by decide)]), ht⟩) (fun _ h => absurd h List.not_mem_nil) dX2_deciders_54
          · skip
            refine lv_if_eq (tgt := 42) hx hb dX2_deciders_35 (by decide) (fun _ => ?_) (fun c35 => (c35 (by decide)).elim)
            refine lv_iconst (v := nI 0) hx hb dX2_deciders_42 (by decide) ?_
            refine vp_callSi (W.runS (As := [.int (nI (pm_ds S j3 2)), .int (nI 2), .int (nI 0)]) (rest := []) ⟨hx, hb, hml, hown, hts⟩ (k_X2_withEditor l (nI (pm_ds S j3 2)) (nI 2) (nI 0)) (va_cwS 3 hts gX2_deciders_X2_withEditor rfl rfl rfl hd_X2_withEditor ⟨Nat.le_of_ble_eq_true rfl, Nat.le_of_ble_eq_true rfl⟩) ⟨pm_no_blind, pm_no_pre⟩ rfl rfl hl.1 rfl (lv_room (Nat.le_of_ble_eq_true rfl)) dX2_deciders_43 ⟨Nat.le_of_ble_eq_true rfl, Nat.le_of_ble_eq_true rfl⟩) (fun r36 h37 => ?_)
            obtain rfl : r36 = pm_we (nI (pm_ds S j3 2)) (nI 2) (nI 0) := h37
            refine lv_topi (fun x38 e39 => ?_)
            obtain rfl : x38 = nI (pm_ds S j3 3) := e39.trans ((by first | exact pm_ds_p (n := 2) (by decide) (by assumption) (by assumption) | exact pm_ds_n (n := 2) (by decide) (fun z => absurd z.1 (by assumption)) | exact pm_ds_n (n := 2) (by decide) (fun z => absurd z.2 (by assumption))))
            refine lv_istore_n (lv' := [(2, .int (nI (pm_ds S j3 3))), (3, .int (nI 2)), (0, .ref (q 0)), (1, .int (nI j3))]) hx hb dX2_deciders_46 rfl hl (by decide) rfl (fun ls hl => ?_)
            refine lv_iinc (v := nI 3) (lv' := [(3, .int (nI 3)), (2, .int (nI (pm_ds S j3 3))), (0, .ref (q 0)), (1, .int (nI j3))]) hx hb dX2_deciders_47 hl (k := 1) rfl (by decide) (by decide) rfl (fun ls hl => ?_)
            refine lv_goto (tgt := 13) hx hb dX2_deciders_50 (by decide) ?_
            refine lv_iload_n hx hb dX2_deciders_13 rfl (lv_at hl 0 rfl) ?_
            refine lv_iconst (v := nI 3) hx hb dX2_deciders_14 (by decide) ?_
            refine lv_icmp_ge (tgt := 53) hx hb dX2_deciders_15 (by decide) (fun _ => ?_) (fun c40 => (c40 (by decide)).elim)
            refine lv_iload_n hx hb dX2_deciders_53 rfl (lv_at hl 1 rfl) ?_
            exact W.iret hx hb hr (fun t ht _ => ⟨_, rfl, (by simp only [pm_dec, pm_ix_in hj3 (show (30 : Nat) < 2 ^ 31 by decide)]), ht⟩) (fun _ h => absurd h List.not_mem_nil) dX2_deciders_54
      · skip
        refine lv_aload_n hx hb dX2_deciders_29 rfl (lv_at hl 2 rfl) ?_
        refine lv_iload_n hx hb dX2_deciders_30 rfl (lv_at hl 0 rfl) ?_
        refine lv_iload_n hx hb dX2_deciders_31 rfl (lv_at hl 3 rfl) ?_
        refine vp_callSi (W.runV (As := [.int (nI 1), .int (nI j3)]) (rest := [.int (nI 1), .int (nI (pm_ds S j3 1))]) ⟨hx, hb, hml, hown, hts⟩ (k_X2_markDecides l D y q S 1 j3 hI (by omega) (by omega)) (cwV 2 hts gX2_deciders_X2_markDecides rfl rfl rfl hd_X2_markDecides ⟨Nat.le_of_ble_eq_true rfl, Nat.le_of_ble_eq_true rfl⟩) ⟨pm_ro_blind, va_recv hK hP (ci := 2) (q0 := 0) rfl rfl, pm_ro_pre hP hK⟩ rfl rfl hl.1 rfl (lv_room (Nat.le_of_ble_eq_true rfl)) dX2_deciders_32 ⟨Nat.le_of_ble_eq_true rfl, Nat.le_of_ble_eq_true rfl⟩) (fun r41 h42 => ?_)
        rcases (show ((pm_mc (S 9 0) (S 4 j3) 1 3 = true) ∧ r41 = nI 1) ∨ (¬ (pm_mc (S 9 0) (S 4 j3) 1 3 = true) ∧ r41 = nI 0) from h42) with ⟨hp43, rfl⟩ | ⟨hp43, rfl⟩
        · skip
          refine lv_if_eq (tgt := 42) hx hb dX2_deciders_35 (by decide) (fun c44 => absurd c44 (by decide)) (fun _ => ?_)
          refine lv_iconst (v := nI 1) hx hb dX2_deciders_38 (by decide) ?_
          refine lv_goto (tgt := 43) hx hb dX2_deciders_39 (by decide) ?_
          refine vp_callSi (W.runS (As := [.int (nI (pm_ds S j3 1)), .int (nI 1), .int (nI 1)]) (rest := []) ⟨hx, hb, hml, hown, hts⟩ (k_X2_withEditor l (nI (pm_ds S j3 1)) (nI 1) (nI 1)) (va_cwS 3 hts gX2_deciders_X2_withEditor rfl rfl rfl hd_X2_withEditor ⟨Nat.le_of_ble_eq_true rfl, Nat.le_of_ble_eq_true rfl⟩) ⟨pm_no_blind, pm_no_pre⟩ rfl rfl hl.1 rfl (lv_room (Nat.le_of_ble_eq_true rfl)) dX2_deciders_43 ⟨Nat.le_of_ble_eq_true rfl, Nat.le_of_ble_eq_true rfl⟩) (fun r45 h46 => ?_)
          obtain rfl : r45 = pm_we (nI (pm_ds S j3 1)) (nI 1) (nI 1) := h46
          refine lv_topi (fun x47 e48 => ?_)
          obtain rfl : x47 = nI (pm_ds S j3 2) := e48.trans ((by first | exact pm_ds_p (n := 1) (by decide) (by assumption) (by assumption) | exact pm_ds_n (n := 1) (by decide) (fun z => absurd z.1 (by assumption)) | exact pm_ds_n (n := 1) (by decide) (fun z => absurd z.2 (by assumption))))
          refine lv_istore_n (lv' := [(2, .int (nI (pm_ds S j3 2))), (3, .int (nI 1)), (0, .ref (q 0)), (1, .int (nI j3))]) hx hb dX2_deciders_46 rfl hl (by decide) rfl (fun ls hl => ?_)
          refine lv_iinc (v := nI 2) (lv' := [(3, .int (nI 2)), (2, .int (nI (pm_ds S j3 2))), (0, .ref (q 0)), (1, .int (nI j3))]) hx hb dX2_deciders_47 hl (k := 1) rfl (by decide) (by decide) rfl (fun ls hl => ?_)
          refine lv_goto (tgt := 13) hx hb dX2_deciders_50 (by decide) ?_
          refine lv_iload_n hx hb dX2_deciders_13 rfl (lv_at hl 0 rfl) ?_
          refine lv_iconst (v := nI 3) hx hb dX2_deciders_14 (by decide) ?_
          refine lv_icmp_ge (tgt := 53) hx hb dX2_deciders_15 (by decide) (fun c49 => absurd c49 (by decide)) (fun _ => ?_)
          refine lv_iload_n hx hb dX2_deciders_18 rfl (lv_at hl 1 rfl) ?_
          refine lv_iload_n hx hb dX2_deciders_19 rfl (lv_at hl 0 rfl) ?_
          refine lv_aload_n hx hb dX2_deciders_20 rfl (lv_at hl 2 rfl) ?_
          refine va_get (D := D) (ci := 2) (v := .ref (q 2)) (C := RX2) (T := TX2) (N := 15) hx hb hts hin2 hown hK hP 0 rfl rfl 1 (by decide) (hts (.fieldLink RX2 15 "ProofMarks$Sheet" "how" "[I") (List.mem_of_getElem? (i := 1) rfl)) (fun _ h9 => h9) rfl dX2_deciders_21 ?_
          refine lv_iload_n hx hb dX2_deciders_24 rfl (lv_at hl 3 rfl) ?_
          refine kx_iald (v := nI ((S 0) j3)) hx hb hK hP 2 0 rfl rfl (by omega) (by decide) rfl dX2_deciders_25 ?_
          have := hI.how j3 (by omega)
          refine kx_if_ne (tgt := 42) hx hb (by omega) dX2_deciders_26 (by decide) (fun c50 => ?_) (fun c50 => ?_)
          · skip
            refine lv_iconst (v := nI 0) hx hb dX2_deciders_42 (by decide) ?_
            refine vp_callSi (W.runS (As := [.int (nI (pm_ds S j3 2)), .int (nI 2), .int (nI 0)]) (rest := []) ⟨hx, hb, hml, hown, hts⟩ (k_X2_withEditor l (nI (pm_ds S j3 2)) (nI 2) (nI 0)) (va_cwS 3 hts gX2_deciders_X2_withEditor rfl rfl rfl hd_X2_withEditor ⟨Nat.le_of_ble_eq_true rfl, Nat.le_of_ble_eq_true rfl⟩) ⟨pm_no_blind, pm_no_pre⟩ rfl rfl hl.1 rfl (lv_room (Nat.le_of_ble_eq_true rfl)) dX2_deciders_43 ⟨Nat.le_of_ble_eq_true rfl, Nat.le_of_ble_eq_true rfl⟩) (fun r51 h52 => ?_)
            obtain rfl : r51 = pm_we (nI (pm_ds S j3 2)) (nI 2) (nI 0) := h52
            refine lv_topi (fun x53 e54 => ?_)
            obtain rfl : x53 = nI (pm_ds S j3 3) := e54.trans ((by first | exact pm_ds_p (n := 2) (by decide) (by assumption) (by assumption) | exact pm_ds_n (n := 2) (by decide) (fun z => absurd z.1 (by assumption)) | exact pm_ds_n (n := 2) (by decide) (fun z => absurd z.2 (by assumption))))
            refine lv_istore_n (lv' := [(2, .int (nI (pm_ds S j3 3))), (3, .int (nI 2)), (0, .ref (q 0)), (1, .int (nI j3))]) hx hb dX2_deciders_46 rfl hl (by decide) rfl (fun ls hl => ?_)
            refine lv_iinc (v := nI 3) (lv' := [(3, .int (nI 3)), (2, .int (nI (pm_ds S j3 3))), (0, .ref (q 0)), (1, .int (nI j3))]) hx hb dX2_deciders_47 hl (k := 1) rfl (by decide) (by decide) rfl (fun ls hl => ?_)
            refine lv_goto (tgt := 13) hx hb dX2_deciders_50 (by decide) ?_
            refine lv_iload_n hx hb dX2_deciders_13 rfl (lv_at hl 0 rfl) ?_
            refine lv_iconst (v := nI 3) hx hb dX2_deciders_14 (by decide) ?_
            refine lv_icmp_ge (tgt := 53) hx hb dX2_deciders_15 (by decide) (fun _ => ?_) (fun c55 => (c55 (by decide)).elim)
            refine lv_iload_n hx hb dX2_deciders_53 rfl (lv_at hl 1 rfl) ?_
            exact W.iret hx hb hr (fun t ht _ => ⟨_, rfl, (by simp only [pm_dec, pm_ix_in hj3 (show (30 : Nat) < 2 ^ 31 by decide)]), ht⟩) (fun _ h => absurd h List.not_mem_nil) dX2_deciders_54
          · skip
            refine lv_aload_n hx hb dX2_deciders_29 rfl (lv_at hl 2 rfl) ?_
            refine lv_iload_n hx hb dX2_deciders_30 rfl (lv_at hl 0 rfl) ?_
            refine lv_iload_n hx hb dX2_deciders_31 rfl (lv_at hl 3 rfl) ?_
            refine vp_callSi (W.runV (As := [.int (nI 2), .int (nI j3)]) (rest := [.int (nI 2), .int (nI (pm_ds S j3 2))]) ⟨hx, hb, hml, hown, hts⟩ (k_X2_markDecides l D y q S 2 j3 hI (by omega) (by omega)) (cwV 2 hts gX2_deciders_X2_markDecides rfl rfl rfl hd_X2_markDecides ⟨Nat.le_of_ble_eq_true rfl, Nat.le_of_ble_eq_true rfl⟩) ⟨pm_ro_blind, va_recv hK hP (ci := 2) (q0 := 0) rfl rfl, pm_ro_pre hP hK⟩ rfl rfl hl.1 rfl (lv_room (Nat.le_of_ble_eq_true rfl)) dX2_deciders_32 ⟨Nat.le_of_ble_eq_true rfl, Nat.le_of_ble_eq_true rfl⟩) (fun r56 h57 => ?_)
            rcases (show ((pm_mc (S 9 0) (S 4 j3) 2 3 = true) ∧ r56 = nI 1) ∨ (¬ (pm_mc (S 9 0) (S 4 j3) 2 3 = true) ∧ r56 = nI 0) from h57) with ⟨hp58, rfl⟩ | ⟨hp58, rfl⟩
            · skip
              refine lv_if_eq (tgt := 42) hx hb dX2_deciders_35 (by decide) (fun c59 => absurd c59 (by decide)) (fun _ => ?_)
              refine lv_iconst (v := nI 1) hx hb dX2_deciders_38 (by decide) ?_
              refine lv_goto (tgt := 43) hx hb dX2_deciders_39 (by decide) ?_
              refine vp_callSi (W.runS (As := [.int (nI (pm_ds S j3 2)), .int (nI 2), .int (nI 1)]) (rest := []) ⟨hx, hb, hml, hown, hts⟩ (k_X2_withEditor l (nI (pm_ds S j3 2)) (nI 2) (nI 1)) (va_cwS 3 hts gX2_deciders_X2_withEditor rfl rfl rfl hd_X2_withEditor ⟨Nat.le_of_ble_eq_true rfl, Nat.le_of_ble_eq_true rfl⟩) ⟨pm_no_blind, pm_no_pre⟩ rfl rfl hl.1 rfl (lv_room (Nat.le_of_ble_eq_true rfl)) dX2_deciders_43 ⟨Nat.le_of_ble_eq_true rfl, Nat.le_of_ble_eq_true rfl⟩) (fun r60 h61 => ?_)
              obtain rfl : r60 = pm_we (nI (pm_ds S j3 2)) (nI 2) (nI 1) := h61
              refine lv_topi (fun x62 e63 => ?_)
              obtain rfl : x62 = nI (pm_ds S j3 3) := e63.trans ((by first | exact pm_ds_p (n := 2) (by decide) (by assumption) (by assumption) | exact pm_ds_n (n := 2) (by decide) (fun z => absurd z.1 (by assumption)) | exact pm_ds_n (n := 2) (by decide) (fun z => absurd z.2 (by assumption))))
              refine lv_istore_n (lv' := [(2, .int (nI (pm_ds S j3 3))), (3, .int (nI 2)), (0, .ref (q 0)), (1, .int (nI j3))]) hx hb dX2_deciders_46 rfl hl (by decide) rfl (fun ls hl => ?_)
              refine lv_iinc (v := nI 3) (lv' := [(3, .int (nI 3)), (2, .int (nI (pm_ds S j3 3))), (0, .ref (q 0)), (1, .int (nI j3))]) hx hb dX2_deciders_47 hl (k := 1) rfl (by decide) (by decide) rfl (fun ls hl => ?_)
              refine lv_goto (tgt := 13) hx hb dX2_deciders_50 (by decide) ?_
              refine lv_iload_n hx hb dX2_deciders_13 rfl (lv_at hl 0 rfl) ?_
              refine lv_iconst (v := nI 3) hx hb dX2_deciders_14 (by decide) ?_
              refine lv_icmp_ge (tgt := 53) hx hb dX2_deciders_15 (by decide) (fun _ => ?_) (fun c64 => (c64 (by decide)).elim)
              refine lv_iload_n hx hb dX2_deciders_53 rfl (lv_at hl 1 rfl) ?_
              exact W.iret hx hb hr (fun t ht _ => ⟨_, rfl, (by simp only [pm_dec, pm_ix_in hj3 (show (30 : Nat) < 2 ^ 31 by decide)]), ht⟩) (fun _ h => absurd h List.not_mem_nil) dX2_deciders_54
            · skip
              refine lv_if_eq (tgt := 42) hx hb dX2_deciders_35 (by decide) (fun _ => ?_) (fun c65 => (c65 (by decide)).elim)
              refine lv_iconst (v := nI 0) hx hb dX2_deciders_42 (by decide) ?_
              refine vp_callSi (W.runS (As := [.int (nI (pm_ds S j3 2)), .int (nI 2), .int (nI 0)]) (rest := []) ⟨hx, hb, hml, hown, hts⟩ (k_X2_withEditor l (nI (pm_ds S j3 2)) (nI 2) (nI 0)) (va_cwS 3 hts gX2_deciders_X2_withEditor rfl rfl rfl hd_X2_withEditor ⟨Nat.le_of_ble_eq_true rfl, Nat.le_of_ble_eq_true rfl⟩) ⟨pm_no_blind, pm_no_pre⟩ rfl rfl hl.1 rfl (lv_room (Nat.le_of_ble_eq_true rfl)) dX2_deciders_43 ⟨Nat.le_of_ble_eq_true rfl, Nat.le_of_ble_eq_true rfl⟩) (fun r66 h67 => ?_)
              obtain rfl : r66 = pm_we (nI (pm_ds S j3 2)) (nI 2) (nI 0) := h67
              refine lv_topi (fun x68 e69 => ?_)
              obtain rfl : x68 = nI (pm_ds S j3 3) := e69.trans ((by first | exact pm_ds_p (n := 2) (by decide) (by assumption) (by assumption) | exact pm_ds_n (n := 2) (by decide) (fun z => absurd z.1 (by assumption)) | exact pm_ds_n (n := 2) (by decide) (fun z => absurd z.2 (by assumption))))
              refine lv_istore_n (lv' := [(2, .int (nI (pm_ds S j3 3))), (3, .int (nI 2)), (0, .ref (q 0)), (1, .int (nI j3))]) hx hb dX2_deciders_46 rfl hl (by decide) rfl (fun ls hl => ?_)
              refine lv_iinc (v := nI 3) (lv' := [(3, .int (nI 3)), (2, .int (nI (pm_ds S j3 3))), (0, .ref (q 0)), (1, .int (nI j3))]) hx hb dX2_deciders_47 hl (k := 1) rfl (by decide) (by decide) rfl (fun ls hl => ?_)
              refine lv_goto (tgt := 13) hx hb dX2_deciders_50 (by decide) ?_
              refine lv_iload_n hx hb dX2_deciders_13 rfl (lv_at hl 0 rfl) ?_
              refine lv_iconst (v := nI 3) hx hb dX2_deciders_14 (by decide) ?_
              refine lv_icmp_ge (tgt := 53) hx hb dX2_deciders_15 (by decide) (fun _ => ?_) (fun c70 => (c70 (by decide)).elim)
              refine lv_iload_n hx hb dX2_deciders_53 rfl (lv_at hl 1 rfl) ?_
              exact W.iret hx hb hr (fun t ht _ => ⟨_, rfl, (by simp only [pm_dec, pm_ix_in hj3 (show (30 : Nat) < 2 ^ 31 by decide)]), ht⟩) (fun _ h => absurd h List.not_mem_nil) dX2_deciders_54
        · skip
          refine lv_if_eq (tgt := 42) hx hb dX2_deciders_35 (by decide) (fun _ => ?_) (fun c71 => (c71 (by decide)).elim)
          refine lv_iconst (v := nI 0) hx hb dX2_deciders_42 (by decide) ?_
          refine vp_callSi (W.runS (As := [.int (nI (pm_ds S j3 1)), .int (nI 1), .int (nI 0)]) (rest := []) ⟨hx, hb, hml, hown, hts⟩ (k_X2_withEditor l (nI (pm_ds S j3 1)) (nI 1) (nI 0)) (va_cwS 3 hts gX2_deciders_X2_withEditor rfl rfl rfl hd_X2_withEditor ⟨Nat.le_of_ble_eq_true rfl, Nat.le_of_ble_eq_true rfl⟩) ⟨pm_no_blind, pm_no_pre⟩ rfl rfl hl.1 rfl (lv_room (Nat.le_of_ble_eq_true rfl)) dX2_deciders_43 ⟨Nat.le_of_ble_eq_true rfl, Nat.le_of_ble_eq_true rfl⟩) (fun r72 h73 => ?_)
          obtain rfl : r72 = pm_we (nI (pm_ds S j3 1)) (nI 1) (nI 0) := h73
          refine lv_topi (fun x74 e75 => ?_)
          obtain rfl : x74 = nI (pm_ds S j3 2) := e75.trans ((by first | exact pm_ds_p (n := 1) (by decide) (by assumption) (by assumption) | exact pm_ds_n (n := 1) (by decide) (fun z => absurd z.1 (by assumption)) | exact pm_ds_n (n := 1) (by decide) (fun z => absurd z.2 (by assumption))))
          refine lv_istore_n (lv' := [(2, .int (nI (pm_ds S j3 2))), (3, .int (nI 1)), (0, .ref (q 0)), (1, .int (nI j3))]) hx hb dX2_deciders_46 rfl hl (by decide) rfl (fun ls hl => ?_)
          refine lv_iinc (v := nI 2) (lv' := [(3, .int (nI 2)), (2, .int (nI (pm_ds S j3 2))), (0, .ref (q 0)), (1, .int (nI j3))]) hx hb dX2_deciders_47 hl (k := 1) rfl (by decide) (by decide) rfl (fun ls hl => ?_)
          refine lv_goto (tgt := 13) hx hb dX2_deciders_50 (by decide) ?_
          refine lv_iload_n hx hb dX2_deciders_13 rfl (lv_at hl 0 rfl) ?_
          refine lv_iconst (v := nI 3) hx hb dX2_deciders_14 (by decide) ?_
          refine lv_icmp_ge (tgt := 53) hx hb dX2_deciders_15 (by decide) (fun c76 => absurd c76 (by decide)) (fun _ => ?_)
          refine lv_iload_n hx hb dX2_deciders_18 rfl (lv_at hl 1 rfl) ?_
          refine lv_iload_n hx hb dX2_deciders_19 rfl (lv_at hl 0 rfl) ?_
          refine lv_aload_n hx hb dX2_deciders_20 rfl (lv_at hl 2 rfl) ?_
          refine va_get (D := D) (ci := 2) (v := .ref (q 2)) (C := RX2) (T := TX2) (N := 15) hx hb hts hin2 hown hK hP 0 rfl rfl 1 (by decide) (hts (.fieldLink RX2 15 "ProofMarks$Sheet" "how" "[I") (List.mem_of_getElem? (i := 1) rfl)) (fun _ h9 => h9) rfl dX2_deciders_21 ?_
          refine lv_iload_n hx hb dX2_deciders_24 rfl (lv_at hl 3 rfl) ?_
          refine kx_iald (v := nI ((S 0) j3)) hx hb hK hP 2 0 rfl rfl (by omega) (by decide) rfl dX2_deciders_25 ?_
          have := hI.how j3 (by omega)
          refine kx_if_ne (tgt := 42) hx hb (by omega) dX2_deciders_26 (by decide) (fun c77 => ?_) (fun c77 => ?_)
          · skip
            refine lv_iconst (v := nI 0) hx hb dX2_deciders_42 (by decide) ?_
            refine vp_callSi (W.runS (As := [.int (nI (pm_ds S j3 2)), .int (nI 2), .int (nI 0)]) (rest := []) ⟨hx, hb, hml, hown, hts⟩ (k_X2_withEditor l (nI (pm_ds S j3 2)) (nI 2) (nI 0)) (va_cwS 3 hts gX2_deciders_X2_withEditor rfl rfl rfl hd_X2_withEditor ⟨Nat.le_of_ble_eq_true rfl, Nat.le_of_ble_eq_true rfl⟩) ⟨pm_no_blind, pm_no_pre⟩ rfl rfl hl.1 rfl (lv_room (Nat.le_of_ble_eq_true rfl)) dX2_deciders_43 ⟨Nat.le_of_ble_eq_true rfl, Nat.le_of_ble_eq_true rfl⟩) (fun r78 h79 => ?_)
            obtain rfl : r78 = pm_we (nI (pm_ds S j3 2)) (nI 2) (nI 0) := h79
            refine lv_topi (fun x80 e81 => ?_)
            obtain rfl : x80 = nI (pm_ds S j3 3) := e81.trans ((by first | exact pm_ds_p (n := 2) (by decide) (by assumption) (by assumption) | exact pm_ds_n (n := 2) (by decide) (fun z => absurd z.1 (by assumption)) | exact pm_ds_n (n := 2) (by decide) (fun z => absurd z.2 (by assumption))))
            refine lv_istore_n (lv' := [(2, .int (nI (pm_ds S j3 3))), (3, .int (nI 2)), (0, .ref (q 0)), (1, .int (nI j3))]) hx hb dX2_deciders_46 rfl hl (by decide) rfl (fun ls hl => ?_)
            refine lv_iinc (v := nI 3) (lv' := [(3, .int (nI 3)), (2, .int (nI (pm_ds S j3 3))), (0, .ref (q 0)), (1, .int (nI j3))]) hx hb dX2_deciders_47 hl (k := 1) rfl (by decide) (by decide) rfl (fun ls hl => ?_)
            refine lv_goto (tgt := 13) hx hb dX2_deciders_50 (by decide) ?_
            refine lv_iload_n hx hb dX2_deciders_13 rfl (lv_at hl 0 rfl) ?_
            refine lv_iconst (v := nI 3) hx hb dX2_deciders_14 (by decide) ?_
            refine lv_icmp_ge (tgt := 53) hx hb dX2_deciders_15 (by decide) (fun _ => ?_) (fun c82 => (c82 (by decide)).elim)
            refine lv_iload_n hx hb dX2_deciders_53 rfl (lv_at hl 1 rfl) ?_
            exact W.iret hx hb hr (fun t ht _ => ⟨_, rfl, (by simp only [pm_dec, pm_ix_in hj3 (show (30 : Nat) < 2 ^ 31 by decide)]), ht⟩) (fun _ h => absurd h List.not_mem_nil) dX2_deciders_54
          · skip
            refine lv_aload_n hx hb dX2_deciders_29 rfl (lv_at hl 2 rfl) ?_
            refine lv_iload_n hx hb dX2_deciders_30 rfl (lv_at hl 0 rfl) ?_
            refine lv_iload_n hx hb dX2_deciders_31 rfl (lv_at hl 3 rfl) ?_
            refine vp_callSi (W.runV (As := [.int (nI 2), .int (nI j3)]) (rest := [.int (nI 2), .int (nI (pm_ds S j3 2))]) ⟨hx, hb, hml, hown, hts⟩ (k_X2_markDecides l D y q S 2 j3 hI (by omega) (by omega)) (cwV 2 hts gX2_deciders_X2_markDecides rfl rfl rfl hd_X2_markDecides ⟨Nat.le_of_ble_eq_true rfl, Nat.le_of_ble_eq_true rfl⟩) ⟨pm_ro_blind, va_recv hK hP (ci := 2) (q0 := 0) rfl rfl, pm_ro_pre hP hK⟩ rfl rfl hl.1 rfl (lv_room (Nat.le_of_ble_eq_true rfl)) dX2_deciders_32 ⟨Nat.le_of_ble_eq_true rfl, Nat.le_of_ble_eq_true rfl⟩) (fun r83 h84 => ?_)
            rcases (show ((pm_mc (S 9 0) (S 4 j3) 2 3 = true) ∧ r83 = nI 1) ∨ (¬ (pm_mc (S 9 0) (S 4 j3) 2 3 = true) ∧ r83 = nI 0) from h84) with ⟨hp85, rfl⟩ | ⟨hp85, rfl⟩
            · skip
              refine lv_if_eq (tgt := 42) hx hb dX2_deciders_35 (by decide) (fun c86 => absurd c86 (by decide)) (fun _ => ?_)
              refine lv_iconst (v := nI 1) hx hb dX2_deciders_38 (by decide) ?_
              refine lv_goto (tgt := 43) hx hb dX2_deciders_39 (by decide) ?_
              refine vp_callSi (W.runS (As := [.int (nI (pm_ds S j3 2)), .int (nI 2), .int (nI 1)]) (rest := []) ⟨hx, hb, hml, hown, hts⟩ (k_X2_withEditor l (nI (pm_ds S j3 2)) (nI 2) (nI 1)) (va_cwS 3 hts gX2_deciders_X2_withEditor rfl rfl rfl hd_X2_withEditor ⟨Nat.le_of_ble_eq_true rfl, Nat.le_of_ble_eq_true rfl⟩) ⟨pm_no_blind, pm_no_pre⟩ rfl rfl hl.1 rfl (lv_room (Nat.le_of_ble_eq_true rfl)) dX2_deciders_43 ⟨Nat.le_of_ble_eq_true rfl, Nat.le_of_ble_eq_true rfl⟩) (fun r87 h88 => ?_)
              obtain rfl : r87 = pm_we (nI (pm_ds S j3 2)) (nI 2) (nI 1) := h88
              refine lv_topi (fun x89 e90 => ?_)
              obtain rfl : x89 = nI (pm_ds S j3 3) := e90.trans ((by first | exact pm_ds_p (n := 2) (by decide) (by assumption) (by assumption) | exact pm_ds_n (n := 2) (by decide) (fun z => absurd z.1 (by assumption)) | exact pm_ds_n (n := 2) (by decide) (fun z => absurd z.2 (by assumption))))
              refine lv_istore_n (lv' := [(2, .int (nI (pm_ds S j3 3))), (3, .int (nI 2)), (0, .ref (q 0)), (1, .int (nI j3))]) hx hb dX2_deciders_46 rfl hl (by decide) rfl (fun ls hl => ?_)
              refine lv_iinc (v := nI 3) (lv' := [(3, .int (nI 3)), (2, .int (nI (pm_ds S j3 3))), (0, .ref (q 0)), (1, .int (nI j3))]) hx hb dX2_deciders_47 hl (k := 1) rfl (by decide) (by decide) rfl (fun ls hl => ?_)
              refine lv_goto (tgt := 13) hx hb dX2_deciders_50 (by decide) ?_
              refine lv_iload_n hx hb dX2_deciders_13 rfl (lv_at hl 0 rfl) ?_
              refine lv_iconst (v := nI 3) hx hb dX2_deciders_14 (by decide) ?_
              refine lv_icmp_ge (tgt := 53) hx hb dX2_deciders_15 (by decide) (fun _ => ?_) (fun c91 => (c91 (by decide)).elim)
              refine lv_iload_n hx hb dX2_deciders_53 rfl (lv_at hl 1 rfl) ?_
              exact W.iret hx hb hr (fun t ht _ => ⟨_, rfl, (by simp only [pm_dec, pm_ix_in hj3 (show (30 : Nat) < 2 ^ 31 by decide)]), ht⟩) (fun _ h => absurd h List.not_mem_nil) dX2_deciders_54
            · skip
              refine lv_if_eq (tgt := 42) hx hb dX2_deciders_35 (by decide) (fun _ => ?_) (fun c92 => (c92 (by decide)).elim)
              refine lv_iconst (v := nI 0) hx hb dX2_deciders_42 (by decide) ?_
              refine vp_callSi (W.runS (As := [.int (nI (pm_ds S j3 2)), .int (nI 2), .int (nI 0)]) (rest := []) ⟨hx, hb, hml, hown, hts⟩ (k_X2_withEditor l (nI (pm_ds S j3 2)) (nI 2) (nI 0)) (va_cwS 3 hts gX2_deciders_X2_withEditor rfl rfl rfl hd_X2_withEditor ⟨Nat.le_of_ble_eq_true rfl, Nat.le_of_ble_eq_true rfl⟩) ⟨pm_no_blind, pm_no_pre⟩ rfl rfl hl.1 rfl (lv_room (Nat.le_of_ble_eq_true rfl)) dX2_deciders_43 ⟨Nat.le_of_ble_eq_true rfl, Nat.le_of_ble_eq_true rfl⟩) (fun r93 h94 => ?_)
              obtain rfl : r93 = pm_we (nI (pm_ds S j3 2)) (nI 2) (nI 0) := h94
              refine lv_topi (fun x95 e96 => ?_)
              obtain rfl : x95 = nI (pm_ds S j3 3) := e96.trans ((by first | exact pm_ds_p (n := 2) (by decide) (by assumption) (by assumption) | exact pm_ds_n (n := 2) (by decide) (fun z => absurd z.1 (by assumption)) | exact pm_ds_n (n := 2) (by decide) (fun z => absurd z.2 (by assumption))))
              refine lv_istore_n (lv' := [(2, .int (nI (pm_ds S j3 3))), (3, .int (nI 2)), (0, .ref (q 0)), (1, .int (nI j3))]) hx hb dX2_deciders_46 rfl hl (by decide) rfl (fun ls hl => ?_)
              refine lv_iinc (v := nI 3) (lv' := [(3, .int (nI 3)), (2, .int (nI (pm_ds S j3 3))), (0, .ref (q 0)), (1, .int (nI j3))]) hx hb dX2_deciders_47 hl (k := 1) rfl (by decide) (by decide) rfl (fun ls hl => ?_)
              refine lv_goto (tgt := 13) hx hb dX2_deciders_50 (by decide) ?_
              refine lv_iload_n hx hb dX2_deciders_13 rfl (lv_at hl 0 rfl) ?_
              refine lv_iconst (v := nI 3) hx hb dX2_deciders_14 (by decide) ?_
              refine lv_icmp_ge (tgt := 53) hx hb dX2_deciders_15 (by decide) (fun _ => ?_) (fun c97 => (c97 (by decide)).elim)
              refine lv_iload_n hx hb dX2_deciders_53 rfl (lv_at hl 1 rfl) ?_
              exact W.iret hx hb hr (fun t ht _ => ⟨_, rfl, (by simp only [pm_dec, pm_ix_in hj3 (show (30 : Nat) < 2 ^ 31 by decide)]), ht⟩) (fun _ h => absurd h List.not_mem_nil) dX2_deciders_54
    · skip
      refine lv_aload_n hx hb dX2_deciders_29 rfl (lv_at hl 2 rfl) ?_
      refine lv_iload_n hx hb dX2_deciders_30 rfl (lv_at hl 0 rfl) ?_
      refine lv_iload_n hx hb dX2_deciders_31 rfl (lv_at hl 3 rfl) ?_
      refine vp_callSi (W.runV (As := [.int (nI 0), .int (nI j3)]) (rest := [.int (nI 0), .int (nI (pm_ds S j3 0))]) ⟨hx, hb, hml, hown, hts⟩ (k_X2_markDecides l D y q S 0 j3 hI (by omega) (by omega)) (cwV 2 hts gX2_deciders_X2_markDecides rfl rfl rfl hd_X2_markDecides ⟨Nat.le_of_ble_eq_true rfl, Nat.le_of_ble_eq_true rfl⟩) ⟨pm_ro_blind, va_recv hK hP (ci := 2) (q0 := 0) rfl rfl, pm_ro_pre hP hK⟩ rfl rfl hl.1 rfl (lv_room (Nat.le_of_ble_eq_true rfl)) dX2_deciders_32 ⟨Nat.le_of_ble_eq_true rfl, Nat.le_of_ble_eq_true rfl⟩) (fun r98 h99 => ?_)
      rcases (show ((pm_mc (S 9 0) (S 4 j3) 0 3 = true) ∧ r98 = nI 1) ∨ (¬ (pm_mc (S 9 0) (S 4 j3) 0 3 = true) ∧ r98 = nI 0) from h99) with ⟨hp100, rfl⟩ | ⟨hp100, rfl⟩
      · skip
        refine lv_if_eq (tgt := 42) hx hb dX2_deciders_35 (by decide) (fun c101 => absurd c101 (by decide)) (fun _ => ?_)
        refine lv_iconst (v := nI 1) hx hb dX2_deciders_38 (by decide) ?_
        refine lv_goto (tgt := 43) hx hb dX2_deciders_39 (by decide) ?_
        refine vp_callSi (W.runS (As := [.int (nI (pm_ds S j3 0)), .int (nI 0), .int (nI 1)]) (rest := []) ⟨hx, hb, hml, hown, hts⟩ (k_X2_withEditor l (nI (pm_ds S j3 0)) (nI 0) (nI 1)) (va_cwS 3 hts gX2_deciders_X2_withEditor rfl rfl rfl hd_X2_withEditor ⟨Nat.le_of_ble_eq_true rfl, Nat.le_of_ble_eq_true rfl⟩) ⟨pm_no_blind, pm_no_pre⟩ rfl rfl hl.1 rfl (lv_room (Nat.le_of_ble_eq_true rfl)) dX2_deciders_43 ⟨Nat.le_of_ble_eq_true rfl, Nat.le_of_ble_eq_true rfl⟩) (fun r102 h103 => ?_)
        obtain rfl : r102 = pm_we (nI (pm_ds S j3 0)) (nI 0) (nI 1) := h103
        refine lv_topi (fun x104 e105 => ?_)
        obtain rfl : x104 = nI (pm_ds S j3 1) := e105.trans ((by first | exact pm_ds_p (n := 0) (by decide) (by assumption) (by assumption) | exact pm_ds_n (n := 0) (by decide) (fun z => absurd z.1 (by assumption)) | exact pm_ds_n (n := 0) (by decide) (fun z => absurd z.2 (by assumption))))
        refine lv_istore_n (lv' := [(2, .int (nI (pm_ds S j3 1))), (3, .int (nI 0)), (0, .ref (q 0)), (1, .int (nI j3))]) hx hb dX2_deciders_46 rfl hl (by decide) rfl (fun ls hl => ?_)
        refine lv_iinc (v := nI 1) (lv' := [(3, .int (nI 1)), (2, .int (nI (pm_ds S j3 1))), (0, .ref (q 0)), (1, .int (nI j3))]) hx hb dX2_deciders_47 hl (k := 1) rfl (by decide) (by decide) rfl (fun ls hl => ?_)
        refine lv_goto (tgt := 13) hx hb dX2_deciders_50 (by decide) ?_
        refine lv_iload_n hx hb dX2_deciders_13 rfl (lv_at hl 0 rfl) ?_
        refine lv_iconst (v := nI 3) hx hb dX2_deciders_14 (by decide) ?_
        refine lv_icmp_ge (tgt := 53) hx hb dX2_deciders_15 (by decide) (fun c106 => absurd c106 (by decide)) (fun _ => ?_)
        refine lv_iload_n hx hb dX2_deciders_18 rfl (lv_at hl 1 rfl) ?_
        refine lv_iload_n hx hb dX2_deciders_19 rfl (lv_at hl 0 rfl) ?_
        refine lv_aload_n hx hb dX2_deciders_20 rfl (lv_at hl 2 rfl) ?_
        refine va_get (D := D) (ci := 2) (v := .ref (q 2)) (C := RX2) (T := TX2) (N := 15) hx hb hts hin2 hown hK hP 0 rfl rfl 1 (by decide) (hts (.fieldLink RX2 15 "ProofMarks$Sheet" "how" "[I") (List.mem_of_getElem? (i := 1) rfl)) (fun _ h9 => h9) rfl dX2_deciders_21 ?_
        refine lv_iload_n hx hb dX2_deciders_24 rfl (lv_at hl 3 rfl) ?_
        refine kx_iald (v := nI ((S 0) j3)) hx hb hK hP 2 0 rfl rfl (by omega) (by decide) rfl dX2_deciders_25 ?_
        have := hI.how j3 (by omega)
        refine kx_if_ne (tgt := 42) hx hb (by omega) dX2_deciders_26 (by decide) (fun c107 => ?_) (fun c107 => ?_)
        · skip
          refine lv_iconst (v := nI 0) hx hb dX2_deciders_42 (by decide) ?_
          refine vp_callSi (W.runS (As := [.int (nI (pm_ds S j3 1)), .int (nI 1), .int (nI 0)]) (rest := []) ⟨hx, hb, hml, hown, hts⟩ (k_X2_withEditor l (nI (pm_ds S j3 1)) (nI 1) (nI 0)) (va_cwS 3 hts gX2_deciders_X2_withEditor rfl rfl rfl hd_X2_withEditor ⟨Nat.le_of_ble_eq_true rfl, Nat.le_of_ble_eq_true rfl⟩) ⟨pm_no_blind, pm_no_pre⟩ rfl rfl hl.1 rfl (lv_room (Nat.le_of_ble_eq_true rfl)) dX2_deciders_43 ⟨Nat.le_of_ble_eq_true rfl, Nat.le_of_ble_eq_true rfl⟩) (fun r108 h109 => ?_)
          obtain rfl : r108 = pm_we (nI (pm_ds S j3 1)) (nI 1) (nI 0) := h109
          refine lv_topi (fun x110 e111 => ?_)
          obtain rfl : x110 = nI (pm_ds S j3 2) := e111.trans ((by first | exact pm_ds_p (n := 1) (by decide) (by assumption) (by assumption) | exact pm_ds_n (n := 1) (by decide) (fun z => absurd z.1 (by assumption)) | exact pm_ds_n (n := 1) (by decide) (fun z => absurd z.2 (by assumption))))
          refine lv_istore_n (lv' := [(2, .int (nI (pm_ds S j3 2))), (3, .int (nI 1)), (0, .ref (q 0)), (1, .int (nI j3))]) hx hb dX2_deciders_46 rfl hl (by decide) rfl (fun ls hl => ?_)
          refine lv_iinc (v := nI 2) (lv' := [(3, .int (nI 2)), (2, .int (nI (pm_ds S j3 2))), (0, .ref (q 0)), (1, .int (nI j3))]) hx hb dX2_deciders_47 hl (k := 1) rfl (by decide) (by decide) rfl (fun ls hl => ?_)
          refine lv_goto (tgt := 13) hx hb dX2_deciders_50 (by decide) ?_
          refine lv_iload_n hx hb dX2_deciders_13 rfl (lv_at hl 0 rfl) ?_
          refine lv_iconst (v := nI 3) hx hb dX2_deciders_14 (by decide) ?_
          refine lv_icmp_ge (tgt := 53) hx hb dX2_deciders_15 (by decide) (fun c112 => absurd c112 (by decide)) (fun _ => ?_)
          refine lv_iload_n hx hb dX2_deciders_18 rfl (lv_at hl 1 rfl) ?_
          refine lv_iload_n hx hb dX2_deciders_19 rfl (lv_at hl 0 rfl) ?_
          refine lv_aload_n hx hb dX2_deciders_20 rfl (lv_at hl 2 rfl) ?_
          refine va_get (D := D) (ci := 2) (v := .ref (q 2)) (C := RX2) (T := TX2) (N := 15) hx hb hts hin2 hown hK hP 0 rfl rfl 1 (by decide) (hts (.fieldLink RX2 15 "ProofMarks$Sheet" "how" "[I") (List.mem_of_getElem? (i := 1) rfl)) (fun _ h9 => h9) rfl dX2_deciders_21 ?_
          refine lv_iload_n hx hb dX2_deciders_24 rfl (lv_at hl 3 rfl) ?_
          refine kx_iald (v := nI ((S 0) j3)) hx hb hK hP 2 0 rfl rfl (by omega) (by decide) rfl dX2_deciders_25 ?_
          have := hI.how j3 (by omega)
          refine kx_if_ne (tgt := 42) hx hb (by omega) dX2_deciders_26 (by decide) (fun c113 => ?_) (fun c113 => ?_)
          · skip
            refine lv_iconst (v := nI 0) hx hb dX2_deciders_42 (by decide) ?_
            refine vp_callSi (W.runS (As := [.int (nI (pm_ds S j3 2)), .int (nI 2), .int (nI 0)]) (rest := []) ⟨hx, hb, hml, hown, hts⟩ (k_X2_withEditor l (nI (pm_ds S j3 2)) (nI 2) (nI 0)) (va_cwS 3 hts gX2_deciders_X2_withEditor rfl rfl rfl hd_X2_withEditor ⟨Nat.le_of_ble_eq_true rfl, Nat.le_of_ble_eq_true rfl⟩) ⟨pm_no_blind, pm_no_pre⟩ rfl rfl hl.1 rfl (lv_room (Nat.le_of_ble_eq_true rfl)) dX2_deciders_43 ⟨Nat.le_of_ble_eq_true rfl, Nat.le_of_ble_eq_true rfl⟩) (fun r114 h115 => ?_)
            obtain rfl : r114 = pm_we (nI (pm_ds S j3 2)) (nI 2) (nI 0) := h115
            refine lv_topi (fun x116 e117 => ?_)
            obtain rfl : x116 = nI (pm_ds S j3 3) := e117.trans ((by first | exact pm_ds_p (n := 2) (by decide) (by assumption) (by assumption) | exact pm_ds_n (n := 2) (by decide) (fun z => absurd z.1 (by assumption)) | exact pm_ds_n (n := 2) (by decide) (fun z => absurd z.2 (by assumption))))
            refine lv_istore_n (lv' := [(2, .int (nI (pm_ds S j3 3))), (3, .int (nI 2)), (0, .ref (q 0)), (1, .int (nI j3))]) hx hb dX2_deciders_46 rfl hl (by decide) rfl (fun ls hl => ?_)
            refine lv_iinc (v := nI 3) (lv' := [(3, .int (nI 3)), (2, .int (nI (pm_ds S j3 3))), (0, .ref (q 0)), (1, .int (nI j3))]) hx hb dX2_deciders_47 hl (k := 1) rfl (by decide) (by decide) rfl (fun ls hl => ?_)
            refine lv_goto (tgt := 13) hx hb dX2_deciders_50 (by decide) ?_
            refine lv_iload_n hx hb dX2_deciders_13 rfl (lv_at hl 0 rfl) ?_
            refine lv_iconst (v := nI 3) hx hb dX2_deciders_14 (by decide) ?_
            refine lv_icmp_ge (tgt := 53) hx hb dX2_deciders_15 (by decide) (fun _ => ?_) (fun c118 => (c118 (by decide)).elim)
            refine lv_iload_n hx hb dX2_deciders_53 rfl (lv_at hl 1 rfl) ?_
            exact W.iret hx hb hr (fun t ht _ => ⟨_, rfl, (by simp only [pm_dec, pm_ix_in hj3 (show (30 : Nat) < 2 ^ 31 by decide)]), ht⟩) (fun _ h => absurd h List.not_mem_nil) dX2_deciders_54
          · skip
            refine lv_aload_n hx hb dX2_deciders_29 rfl (lv_at hl 2 rfl) ?_
            refine lv_iload_n hx hb dX2_deciders_30 rfl (lv_at hl 0 rfl) ?_
            refine lv_iload_n hx hb dX2_deciders_31 rfl (lv_at hl 3 rfl) ?_
            refine vp_callSi (W.runV (As := [.int (nI 2), .int (nI j3)]) (rest := [.int (nI 2), .int (nI (pm_ds S j3 2))]) ⟨hx, hb, hml, hown, hts⟩ (k_X2_markDecides l D y q S 2 j3 hI (by omega) (by omega)) (cwV 2 hts gX2_deciders_X2_markDecides rfl rfl rfl hd_X2_markDecides ⟨Nat.le_of_ble_eq_true rfl, Nat.le_of_ble_eq_true rfl⟩) ⟨pm_ro_blind, va_recv hK hP (ci := 2) (q0 := 0) rfl rfl, pm_ro_pre hP hK⟩ rfl rfl hl.1 rfl (lv_room (Nat.le_of_ble_eq_true rfl)) dX2_deciders_32 ⟨Nat.le_of_ble_eq_true rfl, Nat.le_of_ble_eq_true rfl⟩) (fun r119 h120 => ?_)
            rcases (show ((pm_mc (S 9 0) (S 4 j3) 2 3 = true) ∧ r119 = nI 1) ∨ (¬ (pm_mc (S 9 0) (S 4 j3) 2 3 = true) ∧ r119 = nI 0) from h120) with ⟨hp121, rfl⟩ | ⟨hp121, rfl⟩
            · skip
              refine lv_if_eq (tgt := 42) hx hb dX2_deciders_35 (by decide) (fun c122 => absurd c122 (by decide)) (fun _ => ?_)
              refine lv_iconst (v := nI 1) hx hb dX2_deciders_38 (by decide) ?_
              refine lv_goto (tgt := 43) hx hb dX2_deciders_39 (by decide) ?_
              refine vp_callSi (W.runS (As := [.int (nI (pm_ds S j3 2)), .int (nI 2), .int (nI 1)]) (rest := []) ⟨hx, hb, hml, hown, hts⟩ (k_X2_withEditor l (nI (pm_ds S j3 2)) (nI 2) (nI 1)) (va_cwS 3 hts gX2_deciders_X2_withEditor rfl rfl rfl hd_X2_withEditor ⟨Nat.le_of_ble_eq_true rfl, Nat.le_of_ble_eq_true rfl⟩) ⟨pm_no_blind, pm_no_pre⟩ rfl rfl hl.1 rfl (lv_room (Nat.le_of_ble_eq_true rfl)) dX2_deciders_43 ⟨Nat.le_of_ble_eq_true rfl, Nat.le_of_ble_eq_true rfl⟩) (fun r123 h124 => ?_)
              obtain rfl : r123 = pm_we (nI (pm_ds S j3 2)) (nI 2) (nI 1) := h124
              refine lv_topi (fun x125 e126 => ?_)
              obtain rfl : x125 = nI (pm_ds S j3 3) := e126.trans ((by first | exact pm_ds_p (n := 2) (by decide) (by assumption) (by assumption) | exact pm_ds_n (n := 2) (by decide) (fun z => absurd z.1 (by assumption)) | exact pm_ds_n (n := 2) (by decide) (fun z => absurd z.2 (by assumption))))
              refine lv_istore_n (lv' := [(2, .int (nI (pm_ds S j3 3))), (3, .int (nI 2)), (0, .ref (q 0)), (1, .int (nI j3))]) hx hb dX2_deciders_46 rfl hl (by decide) rfl (fun ls hl => ?_)
              refine lv_iinc (v := nI 3) (lv' := [(3, .int (nI 3)), (2, .int (nI (pm_ds S j3 3))), (0, .ref (q 0)), (1, .int (nI j3))]) hx hb dX2_deciders_47 hl (k := 1) rfl (by decide) (by decide) rfl (fun ls hl => ?_)
              refine lv_goto (tgt := 13) hx hb dX2_deciders_50 (by decide) ?_
              refine lv_iload_n hx hb dX2_deciders_13 rfl (lv_at hl 0 rfl) ?_
              refine lv_iconst (v := nI 3) hx hb dX2_deciders_14 (by decide) ?_
              refine lv_icmp_ge (tgt := 53) hx hb dX2_deciders_15 (by decide) (fun _ => ?_) (fun c127 => (c127 (by decide)).elim)
              refine lv_iload_n hx hb dX2_deciders_53 rfl (lv_at hl 1 rfl) ?_
              exact W.iret hx hb hr (fun t ht _ => ⟨_, rfl, (by simp only [pm_dec, pm_ix_in hj3 (show (30 : Nat) < 2 ^ 31 by decide)]), ht⟩) (fun _ h => absurd h List.not_mem_nil) dX2_deciders_54
            · skip
              refine lv_if_eq (tgt := 42) hx hb dX2_deciders_35 (by decide) (fun _ => ?_) (fun c128 => (c128 (by decide)).elim)
              refine lv_iconst (v := nI 0) hx hb dX2_deciders_42 (by decide) ?_
              refine vp_callSi (W.runS (As := [.int (nI (pm_ds S j3 2)), .int (nI 2), .int (nI 0)]) (rest := []) ⟨hx, hb, hml, hown, hts⟩ (k_X2_withEditor l (nI (pm_ds S j3 2)) (nI 2) (nI 0)) (va_cwS 3 hts gX2_deciders_X2_withEditor rfl rfl rfl hd_X2_withEditor ⟨Nat.le_of_ble_eq_true rfl, Nat.le_of_ble_eq_true rfl⟩) ⟨pm_no_blind, pm_no_pre⟩ rfl rfl hl.1 rfl (lv_room (Nat.le_of_ble_eq_true rfl)) dX2_deciders_43 ⟨Nat.le_of_ble_eq_true rfl, Nat.le_of_ble_eq_true rfl⟩) (fun r129 h130 => ?_)
              obtain rfl : r129 = pm_we (nI (pm_ds S j3 2)) (nI 2) (nI 0) := h130
              refine lv_topi (fun x131 e132 => ?_)
              obtain rfl : x131 = nI (pm_ds S j3 3) := e132.trans ((by first | exact pm_ds_p (n := 2) (by decide) (by assumption) (by assumption) | exact pm_ds_n (n := 2) (by decide) (fun z => absurd z.1 (by assumption)) | exact pm_ds_n (n := 2) (by decide) (fun z => absurd z.2 (by assumption))))
              refine lv_istore_n (lv' := [(2, .int (nI (pm_ds S j3 3))), (3, .int (nI 2)), (0, .ref (q 0)), (1, .int (nI j3))]) hx hb dX2_deciders_46 rfl hl (by decide) rfl (fun ls hl => ?_)
              refine lv_iinc (v := nI 3) (lv' := [(3, .int (nI 3)), (2, .int (nI (pm_ds S j3 3))), (0, .ref (q 0)), (1, .int (nI j3))]) hx hb dX2_deciders_47 hl (k := 1) rfl (by decide) (by decide) rfl (fun ls hl => ?_)
              refine lv_goto (tgt := 13) hx hb dX2_deciders_50 (by decide) ?_
              refine lv_iload_n hx hb dX2_deciders_13 rfl (lv_at hl 0 rfl) ?_
              refine lv_iconst (v := nI 3) hx hb dX2_deciders_14 (by decide) ?_
              refine lv_icmp_ge (tgt := 53) hx hb dX2_deciders_15 (by decide) (fun _ => ?_) (fun c133 => (c133 (by decide)).elim)
              refine lv_iload_n hx hb dX2_deciders_53 rfl (lv_at hl 1 rfl) ?_
              exact W.iret hx hb hr (fun t ht _ => ⟨_, rfl, (by simp only [pm_dec, pm_ix_in hj3 (show (30 : Nat) < 2 ^ 31 by decide)]), ht⟩) (fun _ h => absurd h List.not_mem_nil) dX2_deciders_54
        · skip
          refine lv_aload_n hx hb dX2_deciders_29 rfl (lv_at hl 2 rfl) ?_
          refine lv_iload_n hx hb dX2_deciders_30 rfl (lv_at hl 0 rfl) ?_
          refine lv_iload_n hx hb dX2_deciders_31 rfl (lv_at hl 3 rfl) ?_
          refine vp_callSi (W.runV (As := [.int (nI 1), .int (nI j3)]) (rest := [.int (nI 1), .int (nI (pm_ds S j3 1))]) ⟨hx, hb, hml, hown, hts⟩ (k_X2_markDecides l D y q S 1 j3 hI (by omega) (by omega)) (cwV 2 hts gX2_deciders_X2_markDecides rfl rfl rfl hd_X2_markDecides ⟨Nat.le_of_ble_eq_true rfl, Nat.le_of_ble_eq_true rfl⟩) ⟨pm_ro_blind, va_recv hK hP (ci := 2) (q0 := 0) rfl rfl, pm_ro_pre hP hK⟩ rfl rfl hl.1 rfl (lv_room (Nat.le_of_ble_eq_true rfl)) dX2_deciders_32 ⟨Nat.le_of_ble_eq_true rfl, Nat.le_of_ble_eq_true rfl⟩) (fun r134 h135 => ?_)
          rcases (show ((pm_mc (S 9 0) (S 4 j3) 1 3 = true) ∧ r134 = nI 1) ∨ (¬ (pm_mc (S 9 0) (S 4 j3) 1 3 = true) ∧ r134 = nI 0) from h135) with ⟨hp136, rfl⟩ | ⟨hp136, rfl⟩
          · skip
            refine lv_if_eq (tgt := 42) hx hb dX2_deciders_35 (by decide) (fun c137 => absurd c137 (by decide)) (fun _ => ?_)
            refine lv_iconst (v := nI 1) hx hb dX2_deciders_38 (by decide) ?_
            refine lv_goto (tgt := 43) hx hb dX2_deciders_39 (by decide) ?_
            refine vp_callSi (W.runS (As := [.int (nI (pm_ds S j3 1)), .int (nI 1), .int (nI 1)]) (rest := []) ⟨hx, hb, hml, hown, hts⟩ (k_X2_withEditor l (nI (pm_ds S j3 1)) (nI 1) (nI 1)) (va_cwS 3 hts gX2_deciders_X2_withEditor rfl rfl rfl hd_X2_withEditor ⟨Nat.le_of_ble_eq_true rfl, Nat.le_of_ble_eq_true rfl⟩) ⟨pm_no_blind, pm_no_pre⟩ rfl rfl hl.1 rfl (lv_room (Nat.le_of_ble_eq_true rfl)) dX2_deciders_43 ⟨Nat.le_of_ble_eq_true rfl, Nat.le_of_ble_eq_true rfl⟩) (fun r138 h139 => ?_)
            obtain rfl : r138 = pm_we (nI (pm_ds S j3 1)) (nI 1) (nI 1) := h139
            refine lv_topi (fun x140 e141 => ?_)
            obtain rfl : x140 = nI (pm_ds S j3 2) := e141.trans ((by first | exact pm_ds_p (n := 1) (by decide) (by assumption) (by assumption) | exact pm_ds_n (n := 1) (by decide) (fun z => absurd z.1 (by assumption)) | exact pm_ds_n (n := 1) (by decide) (fun z => absurd z.2 (by assumption))))
            refine lv_istore_n (lv' := [(2, .int (nI (pm_ds S j3 2))), (3, .int (nI 1)), (0, .ref (q 0)), (1, .int (nI j3))]) hx hb dX2_deciders_46 rfl hl (by decide) rfl (fun ls hl => ?_)
            refine lv_iinc (v := nI 2) (lv' := [(3, .int (nI 2)), (2, .int (nI (pm_ds S j3 2))), (0, .ref (q 0)), (1, .int (nI j3))]) hx hb dX2_deciders_47 hl (k := 1) rfl (by decide) (by decide) rfl (fun ls hl => ?_)
            refine lv_goto (tgt := 13) hx hb dX2_deciders_50 (by decide) ?_
            refine lv_iload_n hx hb dX2_deciders_13 rfl (lv_at hl 0 rfl) ?_
            refine lv_iconst (v := nI 3) hx hb dX2_deciders_14 (by decide) ?_
            refine lv_icmp_ge (tgt := 53) hx hb dX2_deciders_15 (by decide) (fun c142 => absurd c142 (by decide)) (fun _ => ?_)
            refine lv_iload_n hx hb dX2_deciders_18 rfl (lv_at hl 1 rfl) ?_
            refine lv_iload_n hx hb dX2_deciders_19 rfl (lv_at hl 0 rfl) ?_
            refine lv_aload_n hx hb dX2_deciders_20 rfl (lv_at hl 2 rfl) ?_
            refine va_get (D := D) (ci := 2) (v := .ref (q 2)) (C := RX2) (T := TX2) (N := 15) hx hb hts hin2 hown hK hP 0 rfl rfl 1 (by decide) (hts (.fieldLink RX2 15 "ProofMarks$Sheet" "how" "[I") (List.mem_of_getElem? (i := 1) rfl)) (fun _ h9 => h9) rfl dX2_deciders_21 ?_
            refine lv_iload_n hx hb dX2_deciders_24 rfl (lv_at hl 3 rfl) ?_
            refine kx_iald (v := nI ((S 0) j3)) hx hb hK hP 2 0 rfl rfl (by omega) (by decide) rfl dX2_deciders_25 ?_
            have := hI.how j3 (by omega)
            refine kx_if_ne (tgt := 42) hx hb (by omega) dX2_deciders_26 (by decide) (fun c143 => ?_) (fun c143 => ?_)
            · skip
              refine lv_iconst (v := nI 0) hx hb dX2_deciders_42 (by decide) ?_
              refine vp_callSi (W.runS (As := [.int (nI (pm_ds S j3 2)), .int (nI 2), .int (nI 0)]) (rest := []) ⟨hx, hb, hml, hown, hts⟩ (k_X2_withEditor l (nI (pm_ds S j3 2)) (nI 2) (nI 0)) (va_cwS 3 hts gX2_deciders_X2_withEditor rfl rfl rfl hd_X2_withEditor ⟨Nat.le_of_ble_eq_true rfl, Nat.le_of_ble_eq_true rfl⟩) ⟨pm_no_blind, pm_no_pre⟩ rfl rfl hl.1 rfl (lv_room (Nat.le_of_ble_eq_true rfl)) dX2_deciders_43 ⟨Nat.le_of_ble_eq_true rfl, Nat.le_of_ble_eq_true rfl⟩) (fun r144 h145 => ?_)
              obtain rfl : r144 = pm_we (nI (pm_ds S j3 2)) (nI 2) (nI 0) := h145
              refine lv_topi (fun x146 e147 => ?_)
              obtain rfl : x146 = nI (pm_ds S j3 3) := e147.trans ((by first | exact pm_ds_p (n := 2) (by decide) (by assumption) (by assumption) | exact pm_ds_n (n := 2) (by decide) (fun z => absurd z.1 (by assumption)) | exact pm_ds_n (n := 2) (by decide) (fun z => absurd z.2 (by assumption))))
              refine lv_istore_n (lv' := [(2, .int (nI (pm_ds S j3 3))), (3, .int (nI 2)), (0, .ref (q 0)), (1, .int (nI j3))]) hx hb dX2_deciders_46 rfl hl (by decide) rfl (fun ls hl => ?_)
              refine lv_iinc (v := nI 3) (lv' := [(3, .int (nI 3)), (2, .int (nI (pm_ds S j3 3))), (0, .ref (q 0)), (1, .int (nI j3))]) hx hb dX2_deciders_47 hl (k := 1) rfl (by decide) (by decide) rfl (fun ls hl => ?_)
              refine lv_goto (tgt := 13) hx hb dX2_deciders_50 (by decide) ?_
              refine lv_iload_n hx hb dX2_deciders_13 rfl (lv_at hl 0 rfl) ?_
              refine lv_iconst (v := nI 3) hx hb dX2_deciders_14 (by decide) ?_
              refine lv_icmp_ge (tgt := 53) hx hb dX2_deciders_15 (by decide) (fun _ => ?_) (fun c148 => (c148 (by decide)).elim)
              refine lv_iload_n hx hb dX2_deciders_53 rfl (lv_at hl 1 rfl) ?_
              exact W.iret hx hb hr (fun t ht _ => ⟨_, rfl, (by simp only [pm_dec, pm_ix_in hj3 (show (30 : Nat) < 2 ^ 31 by decide)]), ht⟩) (fun _ h => absurd h List.not_mem_nil) dX2_deciders_54
            · skip
              refine lv_aload_n hx hb dX2_deciders_29 rfl (lv_at hl 2 rfl) ?_
              refine lv_iload_n hx hb dX2_deciders_30 rfl (lv_at hl 0 rfl) ?_
              refine lv_iload_n hx hb dX2_deciders_31 rfl (lv_at hl 3 rfl) ?_
              refine vp_callSi (W.runV (As := [.int (nI 2), .int (nI j3)]) (rest := [.int (nI 2), .int (nI (pm_ds S j3 2))]) ⟨hx, hb, hml, hown, hts⟩ (k_X2_markDecides l D y q S 2 j3 hI (by omega) (by omega)) (cwV 2 hts gX2_deciders_X2_markDecides rfl rfl rfl hd_X2_markDecides ⟨Nat.le_of_ble_eq_true rfl, Nat.le_of_ble_eq_true rfl⟩) ⟨pm_ro_blind, va_recv hK hP (ci := 2) (q0 := 0) rfl rfl, pm_ro_pre hP hK⟩ rfl rfl hl.1 rfl (lv_room (Nat.le_of_ble_eq_true rfl)) dX2_deciders_32 ⟨Nat.le_of_ble_eq_true rfl, Nat.le_of_ble_eq_true rfl⟩) (fun r149 h150 => ?_)
              rcases (show ((pm_mc (S 9 0) (S 4 j3) 2 3 = true) ∧ r149 = nI 1) ∨ (¬ (pm_mc (S 9 0) (S 4 j3) 2 3 = true) ∧ r149 = nI 0) from h150) with ⟨hp151, rfl⟩ | ⟨hp151, rfl⟩
              · skip
                refine lv_if_eq (tgt := 42) hx hb dX2_deciders_35 (by decide) (fun c152 => absurd c152 (by decide)) (fun _ => ?_)
                refine lv_iconst (v := nI 1) hx hb dX2_deciders_38 (by decide) ?_
                refine lv_goto (tgt := 43) hx hb dX2_deciders_39 (by decide) ?_
                refine vp_callSi (W.runS (As := [.int (nI (pm_ds S j3 2)), .int (nI 2), .int (nI 1)]) (rest := []) ⟨hx, hb, hml, hown, hts⟩ (k_X2_withEditor l (nI (pm_ds S j3 2)) (nI 2) (nI 1)) (va_cwS 3 hts gX2_deciders_X2_withEditor rfl rfl rfl hd_X2_withEditor ⟨Nat.le_of_ble_eq_true rfl, Nat.le_of_ble_eq_true rfl⟩) ⟨pm_no_blind, pm_no_pre⟩ rfl rfl hl.1 rfl (lv_room (Nat.le_of_ble_eq_true rfl)) dX2_deciders_43 ⟨Nat.le_of_ble_eq_true rfl, Nat.le_of_ble_eq_true rfl⟩) (fun r153 h154 => ?_)
                obtain rfl : r153 = pm_we (nI (pm_ds S j3 2)) (nI 2) (nI 1) := h154
                refine lv_topi (fun x155 e156 => ?_)
                obtain rfl : x155 = nI (pm_ds S j3 3) := e156.trans ((by first | exact pm_ds_p (n := 2) (by decide) (by assumption) (by assumption) | exact pm_ds_n (n := 2) (by decide) (fun z => absurd z.1 (by assumption)) | exact pm_ds_n (n := 2) (by decide) (fun z => absurd z.2 (by assumption))))
                refine lv_istore_n (lv' := [(2, .int (nI (pm_ds S j3 3))), (3, .int (nI 2)), (0, .ref (q 0)), (1, .int (nI j3))]) hx hb dX2_deciders_46 rfl hl (by decide) rfl (fun ls hl => ?_)
                refine lv_iinc (v := nI 3) (lv' := [(3, .int (nI 3)), (2, .int (nI (pm_ds S j3 3))), (0, .ref (q 0)), (1, .int (nI j3))]) hx hb dX2_deciders_47 hl (k := 1) rfl (by decide) (by decide) rfl (fun ls hl => ?_)
                refine lv_goto (tgt := 13) hx hb dX2_deciders_50 (by decide) ?_
                refine lv_iload_n hx hb dX2_deciders_13 rfl (lv_at hl 0 rfl) ?_
                refine lv_iconst (v := nI 3) hx hb dX2_deciders_14 (by decide) ?_
                refine lv_icmp_ge (tgt := 53) hx hb dX2_deciders_15 (by decide) (fun _ => ?_) (fun c157 => (c157 (by decide)).elim)
                refine lv_iload_n hx hb dX2_deciders_53 rfl (lv_at hl 1 rfl) ?_
                exact W.iret hx hb hr (fun t ht _ => ⟨_, rfl, (by simp only [pm_dec, pm_ix_in hj3 (show (30 : Nat) < 2 ^ 31 by decide)]), ht⟩) (fun _ h => absurd h List.not_mem_nil) dX2_deciders_54
              · skip
                refine lv_if_eq (tgt := 42) hx hb dX2_deciders_35 (by decide) (fun _ => ?_) (fun c158 => (c158 (by decide)).elim)
                refine lv_iconst (v := nI 0) hx hb dX2_deciders_42 (by decide) ?_
                refine vp_callSi (W.runS (As := [.int (nI (pm_ds S j3 2)), .int (nI 2), .int (nI 0)]) (rest := []) ⟨hx, hb, hml, hown, hts⟩ (k_X2_withEditor l (nI (pm_ds S j3 2)) (nI 2) (nI 0)) (va_cwS 3 hts gX2_deciders_X2_withEditor rfl rfl rfl hd_X2_withEditor ⟨Nat.le_of_ble_eq_true rfl, Nat.le_of_ble_eq_true rfl⟩) ⟨pm_no_blind, pm_no_pre⟩ rfl rfl hl.1 rfl (lv_room (Nat.le_of_ble_eq_true rfl)) dX2_deciders_43 ⟨Nat.le_of_ble_eq_true rfl, Nat.le_of_ble_eq_true rfl⟩) (fun r159 h160 => ?_)
                obtain rfl : r159 = pm_we (nI (pm_ds S j3 2)) (nI 2) (nI 0) := h160
                refine lv_topi (fun x161 e162 => ?_)
                obtain rfl : x161 = nI (pm_ds S j3 3) := e162.trans ((by first | exact pm_ds_p (n := 2) (by decide) (by assumption) (by assumption) | exact pm_ds_n (n := 2) (by decide) (fun z => absurd z.1 (by assumption)) | exact pm_ds_n (n := 2) (by decide) (fun z => absurd z.2 (by assumption))))
                refine lv_istore_n (lv' := [(2, .int (nI (pm_ds S j3 3))), (3, .int (nI 2)), (0, .ref (q 0)), (1, .int (nI j3))]) hx hb dX2_deciders_46 rfl hl (by decide) rfl (fun ls hl => ?_)
                refine lv_iinc (v := nI 3) (lv' := [(3, .int (nI 3)), (2, .int (nI (pm_ds S j3 3))), (0, .ref (q 0)), (1, .int (nI j3))]) hx hb dX2_deciders_47 hl (k := 1) rfl (by decide) (by decide) rfl (fun ls hl => ?_)
                refine lv_goto (tgt := 13) hx hb dX2_deciders_50 (by decide) ?_
                refine lv_iload_n hx hb dX2_deciders_13 rfl (lv_at hl 0 rfl) ?_
                refine lv_iconst (v := nI 3) hx hb dX2_deciders_14 (by decide) ?_
                refine lv_icmp_ge (tgt := 53) hx hb dX2_deciders_15 (by decide) (fun _ => ?_) (fun c163 => (c163 (by decide)).elim)
                refine lv_iload_n hx hb dX2_deciders_53 rfl (lv_at hl 1 rfl) ?_
                exact W.iret hx hb hr (fun t ht _ => ⟨_, rfl, (by simp only [pm_dec, pm_ix_in hj3 (show (30 : Nat) < 2 ^ 31 by decide)]), ht⟩) (fun _ h => absurd h List.not_mem_nil) dX2_deciders_54
          · skip
            refine lv_if_eq (tgt := 42) hx hb dX2_deciders_35 (by decide) (fun _ => ?_) (fun c164 => (c164 (by decide)).elim)
            refine lv_iconst (v := nI 0) hx hb dX2_deciders_42 (by decide) ?_
            refine vp_callSi (W.runS (As := [.int (nI (pm_ds S j3 1)), .int (nI 1), .int (nI 0)]) (rest := []) ⟨hx, hb, hml, hown, hts⟩ (k_X2_withEditor l (nI (pm_ds S j3 1)) (nI 1) (nI 0)) (va_cwS 3 hts gX2_deciders_X2_withEditor rfl rfl rfl hd_X2_withEditor ⟨Nat.le_of_ble_eq_true rfl, Nat.le_of_ble_eq_true rfl⟩) ⟨pm_no_blind, pm_no_pre⟩ rfl rfl hl.1 rfl (lv_room (Nat.le_of_ble_eq_true rfl)) dX2_deciders_43 ⟨Nat.le_of_ble_eq_true rfl, Nat.le_of_ble_eq_true rfl⟩) (fun r165 h166 => ?_)
            obtain rfl : r165 = pm_we (nI (pm_ds S j3 1)) (nI 1) (nI 0) := h166
            refine lv_topi (fun x167 e168 => ?_)
            obtain rfl : x167 = nI (pm_ds S j3 2) := e168.trans ((by first | exact pm_ds_p (n := 1) (by decide) (by assumption) (by assumption) | exact pm_ds_n (n := 1) (by decide) (fun z => absurd z.1 (by assumption)) | exact pm_ds_n (n := 1) (by decide) (fun z => absurd z.2 (by assumption))))
            refine lv_istore_n (lv' := [(2, .int (nI (pm_ds S j3 2))), (3, .int (nI 1)), (0, .ref (q 0)), (1, .int (nI j3))]) hx hb dX2_deciders_46 rfl hl (by decide) rfl (fun ls hl => ?_)
            refine lv_iinc (v := nI 2) (lv' := [(3, .int (nI 2)), (2, .int (nI (pm_ds S j3 2))), (0, .ref (q 0)), (1, .int (nI j3))]) hx hb dX2_deciders_47 hl (k := 1) rfl (by decide) (by decide) rfl (fun ls hl => ?_)
            refine lv_goto (tgt := 13) hx hb dX2_deciders_50 (by decide) ?_
            refine lv_iload_n hx hb dX2_deciders_13 rfl (lv_at hl 0 rfl) ?_
            refine lv_iconst (v := nI 3) hx hb dX2_deciders_14 (by decide) ?_
            refine lv_icmp_ge (tgt := 53) hx hb dX2_deciders_15 (by decide) (fun c169 => absurd c169 (by decide)) (fun _ => ?_)
            refine lv_iload_n hx hb dX2_deciders_18 rfl (lv_at hl 1 rfl) ?_
            refine lv_iload_n hx hb dX2_deciders_19 rfl (lv_at hl 0 rfl) ?_
            refine lv_aload_n hx hb dX2_deciders_20 rfl (lv_at hl 2 rfl) ?_
            refine va_get (D := D) (ci := 2) (v := .ref (q 2)) (C := RX2) (T := TX2) (N := 15) hx hb hts hin2 hown hK hP 0 rfl rfl 1 (by decide) (hts (.fieldLink RX2 15 "ProofMarks$Sheet" "how" "[I") (List.mem_of_getElem? (i := 1) rfl)) (fun _ h9 => h9) rfl dX2_deciders_21 ?_
            refine lv_iload_n hx hb dX2_deciders_24 rfl (lv_at hl 3 rfl) ?_
            refine kx_iald (v := nI ((S 0) j3)) hx hb hK hP 2 0 rfl rfl (by omega) (by decide) rfl dX2_deciders_25 ?_
            have := hI.how j3 (by omega)
            refine kx_if_ne (tgt := 42) hx hb (by omega) dX2_deciders_26 (by decide) (fun c170 => ?_) (fun c170 => ?_)
            · skip
              refine lv_iconst (v := nI 0) hx hb dX2_deciders_42 (by decide) ?_
              refine vp_callSi (W.runS (As := [.int (nI (pm_ds S j3 2)), .int (nI 2), .int (nI 0)]) (rest := []) ⟨hx, hb, hml, hown, hts⟩ (k_X2_withEditor l (nI (pm_ds S j3 2)) (nI 2) (nI 0)) (va_cwS 3 hts gX2_deciders_X2_withEditor rfl rfl rfl hd_X2_withEditor ⟨Nat.le_of_ble_eq_true rfl, Nat.le_of_ble_eq_true rfl⟩) ⟨pm_no_blind, pm_no_pre⟩ rfl rfl hl.1 rfl (lv_room (Nat.le_of_ble_eq_true rfl)) dX2_deciders_43 ⟨Nat.le_of_ble_eq_true rfl, Nat.le_of_ble_eq_true rfl⟩) (fun r171 h172 => ?_)
              obtain rfl : r171 = pm_we (nI (pm_ds S j3 2)) (nI 2) (nI 0) := h172
              refine lv_topi (fun x173 e174 => ?_)
              obtain rfl : x173 = nI (pm_ds S j3 3) := e174.trans ((by first | exact pm_ds_p (n := 2) (by decide) (by assumption) (by assumption) | exact pm_ds_n (n := 2) (by decide) (fun z => absurd z.1 (by assumption)) | exact pm_ds_n (n := 2) (by decide) (fun z => absurd z.2 (by assumption))))
              refine lv_istore_n (lv' := [(2, .int (nI (pm_ds S j3 3))), (3, .int (nI 2)), (0, .ref (q 0)), (1, .int (nI j3))]) hx hb dX2_deciders_46 rfl hl (by decide) rfl (fun ls hl => ?_)
              refine lv_iinc (v := nI 3) (lv' := [(3, .int (nI 3)), (2, .int (nI (pm_ds S j3 3))), (0, .ref (q 0)), (1, .int (nI j3))]) hx hb dX2_deciders_47 hl (k := 1) rfl (by decide) (by decide) rfl (fun ls hl => ?_)
              refine lv_goto (tgt := 13) hx hb dX2_deciders_50 (by decide) ?_
              refine lv_iload_n hx hb dX2_deciders_13 rfl (lv_at hl 0 rfl) ?_
              refine lv_iconst (v := nI 3) hx hb dX2_deciders_14 (by decide) ?_
              refine lv_icmp_ge (tgt := 53) hx hb dX2_deciders_15 (by decide) (fun _ => ?_) (fun c175 => (c175 (by decide)).elim)
              refine lv_iload_n hx hb dX2_deciders_53 rfl (lv_at hl 1 rfl) ?_
              exact W.iret hx hb hr (fun t ht _ => ⟨_, rfl, (by simp only [pm_dec, pm_ix_in hj3 (show (30 : Nat) < 2 ^ 31 by decide)]), ht⟩) (fun _ h => absurd h List.not_mem_nil) dX2_deciders_54
            · skip
              refine lv_aload_n hx hb dX2_deciders_29 rfl (lv_at hl 2 rfl) ?_
              refine lv_iload_n hx hb dX2_deciders_30 rfl (lv_at hl 0 rfl) ?_
              refine lv_iload_n hx hb dX2_deciders_31 rfl (lv_at hl 3 rfl) ?_
              refine vp_callSi (W.runV (As := [.int (nI 2), .int (nI j3)]) (rest := [.int (nI 2), .int (nI (pm_ds S j3 2))]) ⟨hx, hb, hml, hown, hts⟩ (k_X2_markDecides l D y q S 2 j3 hI (by omega) (by omega)) (cwV 2 hts gX2_deciders_X2_markDecides rfl rfl rfl hd_X2_markDecides ⟨Nat.le_of_ble_eq_true rfl, Nat.le_of_ble_eq_true rfl⟩) ⟨pm_ro_blind, va_recv hK hP (ci := 2) (q0 := 0) rfl rfl, pm_ro_pre hP hK⟩ rfl rfl hl.1 rfl (lv_room (Nat.le_of_ble_eq_true rfl)) dX2_deciders_32 ⟨Nat.le_of_ble_eq_true rfl, Nat.le_of_ble_eq_true rfl⟩) (fun r176 h177 => ?_)
              rcases (show ((pm_mc (S 9 0) (S 4 j3) 2 3 = true) ∧ r176 = nI 1) ∨ (¬ (pm_mc (S 9 0) (S 4 j3) 2 3 = true) ∧ r176 = nI 0) from h177) with ⟨hp178, rfl⟩ | ⟨hp178, rfl⟩
              · skip
                refine lv_if_eq (tgt := 42) hx hb dX2_deciders_35 (by decide) (fun c179 => absurd c179 (by decide)) (fun _ => ?_)
                refine lv_iconst (v := nI 1) hx hb dX2_deciders_38 (by decide) ?_
                refine lv_goto (tgt := 43) hx hb dX2_deciders_39 (by decide) ?_
                refine vp_callSi (W.runS (As := [.int (nI (pm_ds S j3 2)), .int (nI 2), .int (nI 1)]) (rest := []) ⟨hx, hb, hml, hown, hts⟩ (k_X2_withEditor l (nI (pm_ds S j3 2)) (nI 2) (nI 1)) (va_cwS 3 hts gX2_deciders_X2_withEditor rfl rfl rfl hd_X2_withEditor ⟨Nat.le_of_ble_eq_true rfl, Nat.le_of_ble_eq_true rfl⟩) ⟨pm_no_blind, pm_no_pre⟩ rfl rfl hl.1 rfl (lv_room (Nat.le_of_ble_eq_true rfl)) dX2_deciders_43 ⟨Nat.le_of_ble_eq_true rfl, Nat.le_of_ble_eq_true rfl⟩) (fun r180 h181 => ?_)
                obtain rfl : r180 = pm_we (nI (pm_ds S j3 2)) (nI 2) (nI 1) := h181
                refine lv_topi (fun x182 e183 => ?_)
                obtain rfl : x182 = nI (pm_ds S j3 3) := e183.trans ((by first | exact pm_ds_p (n := 2) (by decide) (by assumption) (by assumption) | exact pm_ds_n (n := 2) (by decide) (fun z => absurd z.1 (by assumption)) | exact pm_ds_n (n := 2) (by decide) (fun z => absurd z.2 (by assumption))))
                refine lv_istore_n (lv' := [(2, .int (nI (pm_ds S j3 3))), (3, .int (nI 2)), (0, .ref (q 0)), (1, .int (nI j3))]) hx hb dX2_deciders_46 rfl hl (by decide) rfl (fun ls hl => ?_)
                refine lv_iinc (v := nI 3) (lv' := [(3, .int (nI 3)), (2, .int (nI (pm_ds S j3 3))), (0, .ref (q 0)), (1, .int (nI j3))]) hx hb dX2_deciders_47 hl (k := 1) rfl (by decide) (by decide) rfl (fun ls hl => ?_)
                refine lv_goto (tgt := 13) hx hb dX2_deciders_50 (by decide) ?_
                refine lv_iload_n hx hb dX2_deciders_13 rfl (lv_at hl 0 rfl) ?_
                refine lv_iconst (v := nI 3) hx hb dX2_deciders_14 (by decide) ?_
                refine lv_icmp_ge (tgt := 53) hx hb dX2_deciders_15 (by decide) (fun _ => ?_) (fun c184 => (c184 (by decide)).elim)
                refine lv_iload_n hx hb dX2_deciders_53 rfl (lv_at hl 1 rfl) ?_
                exact W.iret hx hb hr (fun t ht _ => ⟨_, rfl, (by simp only [pm_dec, pm_ix_in hj3 (show (30 : Nat) < 2 ^ 31 by decide)]), ht⟩) (fun _ h => absurd h List.not_mem_nil) dX2_deciders_54
              · skip
                refine lv_if_eq (tgt := 42) hx hb dX2_deciders_35 (by decide) (fun _ => ?_) (fun c185 => (c185 (by decide)).elim)
                refine lv_iconst (v := nI 0) hx hb dX2_deciders_42 (by decide) ?_
                refine vp_callSi (W.runS (As := [.int (nI (pm_ds S j3 2)), .int (nI 2), .int (nI 0)]) (rest := []) ⟨hx, hb, hml, hown, hts⟩ (k_X2_withEditor l (nI (pm_ds S j3 2)) (nI 2) (nI 0)) (va_cwS 3 hts gX2_deciders_X2_withEditor rfl rfl rfl hd_X2_withEditor ⟨Nat.le_of_ble_eq_true rfl, Nat.le_of_ble_eq_true rfl⟩) ⟨pm_no_blind, pm_no_pre⟩ rfl rfl hl.1 rfl (lv_room (Nat.le_of_ble_eq_true rfl)) dX2_deciders_43 ⟨Nat.le_of_ble_eq_true rfl, Nat.le_of_ble_eq_true rfl⟩) (fun r186 h187 => ?_)
                obtain rfl : r186 = pm_we (nI (pm_ds S j3 2)) (nI 2) (nI 0) := h187
                refine lv_topi (fun x188 e189 => ?_)
                obtain rfl : x188 = nI (pm_ds S j3 3) := e189.trans ((by first | exact pm_ds_p (n := 2) (by decide) (by assumption) (by assumption) | exact pm_ds_n (n := 2) (by decide) (fun z => absurd z.1 (by assumption)) | exact pm_ds_n (n := 2) (by decide) (fun z => absurd z.2 (by assumption))))
                refine lv_istore_n (lv' := [(2, .int (nI (pm_ds S j3 3))), (3, .int (nI 2)), (0, .ref (q 0)), (1, .int (nI j3))]) hx hb dX2_deciders_46 rfl hl (by decide) rfl (fun ls hl => ?_)
                refine lv_iinc (v := nI 3) (lv' := [(3, .int (nI 3)), (2, .int (nI (pm_ds S j3 3))), (0, .ref (q 0)), (1, .int (nI j3))]) hx hb dX2_deciders_47 hl (k := 1) rfl (by decide) (by decide) rfl (fun ls hl => ?_)
                refine lv_goto (tgt := 13) hx hb dX2_deciders_50 (by decide) ?_
                refine lv_iload_n hx hb dX2_deciders_13 rfl (lv_at hl 0 rfl) ?_
                refine lv_iconst (v := nI 3) hx hb dX2_deciders_14 (by decide) ?_
                refine lv_icmp_ge (tgt := 53) hx hb dX2_deciders_15 (by decide) (fun _ => ?_) (fun c190 => (c190 (by decide)).elim)
                refine lv_iload_n hx hb dX2_deciders_53 rfl (lv_at hl 1 rfl) ?_
                exact W.iret hx hb hr (fun t ht _ => ⟨_, rfl, (by simp only [pm_dec, pm_ix_in hj3 (show (30 : Nat) < 2 ^ 31 by decide)]), ht⟩) (fun _ h => absurd h List.not_mem_nil) dX2_deciders_54
      · skip
        refine lv_if_eq (tgt := 42) hx hb dX2_deciders_35 (by decide) (fun _ => ?_) (fun c191 => (c191 (by decide)).elim)
        refine lv_iconst (v := nI 0) hx hb dX2_deciders_42 (by decide) ?_
        refine vp_callSi (W.runS (As := [.int (nI (pm_ds S j3 0)), .int (nI 0), .int (nI 0)]) (rest := []) ⟨hx, hb, hml, hown, hts⟩ (k_X2_withEditor l (nI (pm_ds S j3 0)) (nI 0) (nI 0)) (va_cwS 3 hts gX2_deciders_X2_withEditor rfl rfl rfl hd_X2_withEditor ⟨Nat.le_of_ble_eq_true rfl, Nat.le_of_ble_eq_true rfl⟩) ⟨pm_no_blind, pm_no_pre⟩ rfl rfl hl.1 rfl (lv_room (Nat.le_of_ble_eq_true rfl)) dX2_deciders_43 ⟨Nat.le_of_ble_eq_true rfl, Nat.le_of_ble_eq_true rfl⟩) (fun r192 h193 => ?_)
        obtain rfl : r192 = pm_we (nI (pm_ds S j3 0)) (nI 0) (nI 0) := h193
        refine lv_topi (fun x194 e195 => ?_)
        obtain rfl : x194 = nI (pm_ds S j3 1) := e195.trans ((by first | exact pm_ds_p (n := 0) (by decide) (by assumption) (by assumption) | exact pm_ds_n (n := 0) (by decide) (fun z => absurd z.1 (by assumption)) | exact pm_ds_n (n := 0) (by decide) (fun z => absurd z.2 (by assumption))))
        refine lv_istore_n (lv' := [(2, .int (nI (pm_ds S j3 1))), (3, .int (nI 0)), (0, .ref (q 0)), (1, .int (nI j3))]) hx hb dX2_deciders_46 rfl hl (by decide) rfl (fun ls hl => ?_)
        refine lv_iinc (v := nI 1) (lv' := [(3, .int (nI 1)), (2, .int (nI (pm_ds S j3 1))), (0, .ref (q 0)), (1, .int (nI j3))]) hx hb dX2_deciders_47 hl (k := 1) rfl (by decide) (by decide) rfl (fun ls hl => ?_)
        refine lv_goto (tgt := 13) hx hb dX2_deciders_50 (by decide) ?_
        refine lv_iload_n hx hb dX2_deciders_13 rfl (lv_at hl 0 rfl) ?_
        refine lv_iconst (v := nI 3) hx hb dX2_deciders_14 (by decide) ?_
        refine lv_icmp_ge (tgt := 53) hx hb dX2_deciders_15 (by decide) (fun c196 => absurd c196 (by decide)) (fun _ => ?_)
        refine lv_iload_n hx hb dX2_deciders_18 rfl (lv_at hl 1 rfl) ?_
        refine lv_iload_n hx hb dX2_deciders_19 rfl (lv_at hl 0 rfl) ?_
        refine lv_aload_n hx hb dX2_deciders_20 rfl (lv_at hl 2 rfl) ?_
        refine va_get (D := D) (ci := 2) (v := .ref (q 2)) (C := RX2) (T := TX2) (N := 15) hx hb hts hin2 hown hK hP 0 rfl rfl 1 (by decide) (hts (.fieldLink RX2 15 "ProofMarks$Sheet" "how" "[I") (List.mem_of_getElem? (i := 1) rfl)) (fun _ h9 => h9) rfl dX2_deciders_21 ?_
        refine lv_iload_n hx hb dX2_deciders_24 rfl (lv_at hl 3 rfl) ?_
        refine kx_iald (v := nI ((S 0) j3)) hx hb hK hP 2 0 rfl rfl (by omega) (by decide) rfl dX2_deciders_25 ?_
        have := hI.how j3 (by omega)
        refine kx_if_ne (tgt := 42) hx hb (by omega) dX2_deciders_26 (by decide) (fun c197 => ?_) (fun c197 => ?_)
        · skip
          refine lv_iconst (v := nI 0) hx hb dX2_deciders_42 (by decide) ?_
          refine vp_callSi (W.runS (As := [.int (nI (pm_ds S j3 1)), .int (nI 1), .int (nI 0)]) (rest := []) ⟨hx, hb, hml, hown, hts⟩ (k_X2_withEditor l (nI (pm_ds S j3 1)) (nI 1) (nI 0)) (va_cwS 3 hts gX2_deciders_X2_withEditor rfl rfl rfl hd_X2_withEditor ⟨Nat.le_of_ble_eq_true rfl, Nat.le_of_ble_eq_true rfl⟩) ⟨pm_no_blind, pm_no_pre⟩ rfl rfl hl.1 rfl (lv_room (Nat.le_of_ble_eq_true rfl)) dX2_deciders_43 ⟨Nat.le_of_ble_eq_true rfl, Nat.le_of_ble_eq_true rfl⟩) (fun r198 h199 => ?_)
          obtain rfl : r198 = pm_we (nI (pm_ds S j3 1)) (nI 1) (nI 0) := h199
          refine lv_topi (fun x200 e201 => ?_)
          obtain rfl : x200 = nI (pm_ds S j3 2) := e201.trans ((by first | exact pm_ds_p (n := 1) (by decide) (by assumption) (by assumption) | exact pm_ds_n (n := 1) (by decide) (fun z => absurd z.1 (by assumption)) | exact pm_ds_n (n := 1) (by decide) (fun z => absurd z.2 (by assumption))))
          refine lv_istore_n (lv' := [(2, .int (nI (pm_ds S j3 2))), (3, .int (nI 1)), (0, .ref (q 0)), (1, .int (nI j3))]) hx hb dX2_deciders_46 rfl hl (by decide) rfl (fun ls hl => ?_)
          refine lv_iinc (v := nI 2) (lv' := [(3, .int (nI 2)), (2, .int (nI (pm_ds S j3 2))), (0, .ref (q 0)), (1, .int (nI j3))]) hx hb dX2_deciders_47 hl (k := 1) rfl (by decide) (by decide) rfl (fun ls hl => ?_)
          refine lv_goto (tgt := 13) hx hb dX2_deciders_50 (by decide) ?_
          refine lv_iload_n hx hb dX2_deciders_13 rfl (lv_at hl 0 rfl) ?_
          refine lv_iconst (v := nI 3) hx hb dX2_deciders_14 (by decide) ?_
          refine lv_icmp_ge (tgt := 53) hx hb dX2_deciders_15 (by decide) (fun c202 => absurd c202 (by decide)) (fun _ => ?_)
          refine lv_iload_n hx hb dX2_deciders_18 rfl (lv_at hl 1 rfl) ?_
          refine lv_iload_n hx hb dX2_deciders_19 rfl (lv_at hl 0 rfl) ?_
          refine lv_aload_n hx hb dX2_deciders_20 rfl (lv_at hl 2 rfl) ?_
          refine va_get (D := D) (ci := 2) (v := .ref (q 2)) (C := RX2) (T := TX2) (N := 15) hx hb hts hin2 hown hK hP 0 rfl rfl 1 (by decide) (hts (.fieldLink RX2 15 "ProofMarks$Sheet" "how" "[I") (List.mem_of_getElem? (i := 1) rfl)) (fun _ h9 => h9) rfl dX2_deciders_21 ?_
          refine lv_iload_n hx hb dX2_deciders_24 rfl (lv_at hl 3 rfl) ?_
          refine kx_iald (v := nI ((S 0) j3)) hx hb hK hP 2 0 rfl rfl (by omega) (by decide) rfl dX2_deciders_25 ?_
          have := hI.how j3 (by omega)
          refine kx_if_ne (tgt := 42) hx hb (by omega) dX2_deciders_26 (by decide) (fun c203 => ?_) (fun c203 => ?_)
          · skip
            refine lv_iconst (v := nI 0) hx hb dX2_deciders_42 (by decide) ?_
            refine vp_callSi (W.runS (As := [.int (nI (pm_ds S j3 2)), .int (nI 2), .int (nI 0)]) (rest := []) ⟨hx, hb, hml, hown, hts⟩ (k_X2_withEditor l (nI (pm_ds S j3 2)) (nI 2) (nI 0)) (va_cwS 3 hts gX2_deciders_X2_withEditor rfl rfl rfl hd_X2_withEditor ⟨Nat.le_of_ble_eq_true rfl, Nat.le_of_ble_eq_true rfl⟩) ⟨pm_no_blind, pm_no_pre⟩ rfl rfl hl.1 rfl (lv_room (Nat.le_of_ble_eq_true rfl)) dX2_deciders_43 ⟨Nat.le_of_ble_eq_true rfl, Nat.le_of_ble_eq_true rfl⟩) (fun r204 h205 => ?_)
            obtain rfl : r204 = pm_we (nI (pm_ds S j3 2)) (nI 2) (nI 0) := h205
            refine lv_topi (fun x206 e207 => ?_)
            obtain rfl : x206 = nI (pm_ds S j3 3) := e207.trans ((by first | exact pm_ds_p (n := 2) (by decide) (by assumption) (by assumption) | exact pm_ds_n (n := 2) (by decide) (fun z => absurd z.1 (by assumption)) | exact pm_ds_n (n := 2) (by decide) (fun z => absurd z.2 (by assumption))))
            refine lv_istore_n (lv' := [(2, .int (nI (pm_ds S j3 3))), (3, .int (nI 2)), (0, .ref (q 0)), (1, .int (nI j3))]) hx hb dX2_deciders_46 rfl hl (by decide) rfl (fun ls hl => ?_)
            refine lv_iinc (v := nI 3) (lv' := [(3, .int (nI 3)), (2, .int (nI (pm_ds S j3 3))), (0, .ref (q 0)), (1, .int (nI j3))]) hx hb dX2_deciders_47 hl (k := 1) rfl (by decide) (by decide) rfl (fun ls hl => ?_)
            refine lv_goto (tgt := 13) hx hb dX2_deciders_50 (by decide) ?_
            refine lv_iload_n hx hb dX2_deciders_13 rfl (lv_at hl 0 rfl) ?_
            refine lv_iconst (v := nI 3) hx hb dX2_deciders_14 (by decide) ?_
            refine lv_icmp_ge (tgt := 53) hx hb dX2_deciders_15 (by decide) (fun _ => ?_) (fun c208 => (c208 (by decide)).elim)
            refine lv_iload_n hx hb dX2_deciders_53 rfl (lv_at hl 1 rfl) ?_
            exact W.iret hx hb hr (fun t ht _ => ⟨_, rfl, (by simp only [pm_dec, pm_ix_in hj3 (show (30 : Nat) < 2 ^ 31 by decide)]), ht⟩) (fun _ h => absurd h List.not_mem_nil) dX2_deciders_54
          · skip
            refine lv_aload_n hx hb dX2_deciders_29 rfl (lv_at hl 2 rfl) ?_
            refine lv_iload_n hx hb dX2_deciders_30 rfl (lv_at hl 0 rfl) ?_
            refine lv_iload_n hx hb dX2_deciders_31 rfl (lv_at hl 3 rfl) ?_
            refine vp_callSi (W.runV (As := [.int (nI 2), .int (nI j3)]) (rest := [.int (nI 2), .int (nI (pm_ds S j3 2))]) ⟨hx, hb, hml, hown, hts⟩ (k_X2_markDecides l D y q S 2 j3 hI (by omega) (by omega)) (cwV 2 hts gX2_deciders_X2_markDecides rfl rfl rfl hd_X2_markDecides ⟨Nat.le_of_ble_eq_true rfl, Nat.le_of_ble_eq_true rfl⟩) ⟨pm_ro_blind, va_recv hK hP (ci := 2) (q0 := 0) rfl rfl, pm_ro_pre hP hK⟩ rfl rfl hl.1 rfl (lv_room (Nat.le_of_ble_eq_true rfl)) dX2_deciders_32 ⟨Nat.le_of_ble_eq_true rfl, Nat.le_of_ble_eq_true rfl⟩) (fun r209 h210 => ?_)
            rcases (show ((pm_mc (S 9 0) (S 4 j3) 2 3 = true) ∧ r209 = nI 1) ∨ (¬ (pm_mc (S 9 0) (S 4 j3) 2 3 = true) ∧ r209 = nI 0) from h210) with ⟨hp211, rfl⟩ | ⟨hp211, rfl⟩
            · skip
              refine lv_if_eq (tgt := 42) hx hb dX2_deciders_35 (by decide) (fun c212 => absurd c212 (by decide)) (fun _ => ?_)
              refine lv_iconst (v := nI 1) hx hb dX2_deciders_38 (by decide) ?_
              refine lv_goto (tgt := 43) hx hb dX2_deciders_39 (by decide) ?_
              refine vp_callSi (W.runS (As := [.int (nI (pm_ds S j3 2)), .int (nI 2), .int (nI 1)]) (rest := []) ⟨hx, hb, hml, hown, hts⟩ (k_X2_withEditor l (nI (pm_ds S j3 2)) (nI 2) (nI 1)) (va_cwS 3 hts gX2_deciders_X2_withEditor rfl rfl rfl hd_X2_withEditor ⟨Nat.le_of_ble_eq_true rfl, Nat.le_of_ble_eq_true rfl⟩) ⟨pm_no_blind, pm_no_pre⟩ rfl rfl hl.1 rfl (lv_room (Nat.le_of_ble_eq_true rfl)) dX2_deciders_43 ⟨Nat.le_of_ble_eq_true rfl, Nat.le_of_ble_eq_true rfl⟩) (fun r213 h214 => ?_)
              obtain rfl : r213 = pm_we (nI (pm_ds S j3 2)) (nI 2) (nI 1) := h214
              refine lv_topi (fun x215 e216 => ?_)
              obtain rfl : x215 = nI (pm_ds S j3 3) := e216.trans ((by first | exact pm_ds_p (n := 2) (by decide) (by assumption) (by assumption) | exact pm_ds_n (n := 2) (by decide) (fun z => absurd z.1 (by assumption)) | exact pm_ds_n (n := 2) (by decide) (fun z => absurd z.2 (by assumption))))
              refine lv_istore_n (lv' := [(2, .int (nI (pm_ds S j3 3))), (3, .int (nI 2)), (0, .ref (q 0)), (1, .int (nI j3))]) hx hb dX2_deciders_46 rfl hl (by decide) rfl (fun ls hl => ?_)
              refine lv_iinc (v := nI 3) (lv' := [(3, .int (nI 3)), (2, .int (nI (pm_ds S j3 3))), (0, .ref (q 0)), (1, .int (nI j3))]) hx hb dX2_deciders_47 hl (k := 1) rfl (by decide) (by decide) rfl (fun ls hl => ?_)
              refine lv_goto (tgt := 13) hx hb dX2_deciders_50 (by decide) ?_
              refine lv_iload_n hx hb dX2_deciders_13 rfl (lv_at hl 0 rfl) ?_
              refine lv_iconst (v := nI 3) hx hb dX2_deciders_14 (by decide) ?_
              refine lv_icmp_ge (tgt := 53) hx hb dX2_deciders_15 (by decide) (fun _ => ?_) (fun c217 => (c217 (by decide)).elim)
              refine lv_iload_n hx hb dX2_deciders_53 rfl (lv_at hl 1 rfl) ?_
              exact W.iret hx hb hr (fun t ht _ => ⟨_, rfl, (by simp only [pm_dec, pm_ix_in hj3 (show (30 : Nat) < 2 ^ 31 by decide)]), ht⟩) (fun _ h => absurd h List.not_mem_nil) dX2_deciders_54
            · skip
              refine lv_if_eq (tgt := 42) hx hb dX2_deciders_35 (by decide) (fun _ => ?_) (fun c218 => (c218 (by decide)).elim)
              refine lv_iconst (v := nI 0) hx hb dX2_deciders_42 (by decide) ?_
              refine vp_callSi (W.runS (As := [.int (nI (pm_ds S j3 2)), .int (nI 2), .int (nI 0)]) (rest := []) ⟨hx, hb, hml, hown, hts⟩ (k_X2_withEditor l (nI (pm_ds S j3 2)) (nI 2) (nI 0)) (va_cwS 3 hts gX2_deciders_X2_withEditor rfl rfl rfl hd_X2_withEditor ⟨Nat.le_of_ble_eq_true rfl, Nat.le_of_ble_eq_true rfl⟩) ⟨pm_no_blind, pm_no_pre⟩ rfl rfl hl.1 rfl (lv_room (Nat.le_of_ble_eq_true rfl)) dX2_deciders_43 ⟨Nat.le_of_ble_eq_true rfl, Nat.le_of_ble_eq_true rfl⟩) (fun r219 h220 => ?_)
              obtain rfl : r219 = pm_we (nI (pm_ds S j3 2)) (nI 2) (nI 0) := h220
              refine lv_topi (fun x221 e222 => ?_)
              obtain rfl : x221 = nI (pm_ds S j3 3) := e222.trans ((by first | exact pm_ds_p (n := 2) (by decide) (by assumption) (by assumption) | exact pm_ds_n (n := 2) (by decide) (fun z => absurd z.1 (by assumption)) | exact pm_ds_n (n := 2) (by decide) (fun z => absurd z.2 (by assumption))))
              refine lv_istore_n (lv' := [(2, .int (nI (pm_ds S j3 3))), (3, .int (nI 2)), (0, .ref (q 0)), (1, .int (nI j3))]) hx hb dX2_deciders_46 rfl hl (by decide) rfl (fun ls hl => ?_)
              refine lv_iinc (v := nI 3) (lv' := [(3, .int (nI 3)), (2, .int (nI (pm_ds S j3 3))), (0, .ref (q 0)), (1, .int (nI j3))]) hx hb dX2_deciders_47 hl (k := 1) rfl (by decide) (by decide) rfl (fun ls hl => ?_)
              refine lv_goto (tgt := 13) hx hb dX2_deciders_50 (by decide) ?_
              refine lv_iload_n hx hb dX2_deciders_13 rfl (lv_at hl 0 rfl) ?_
              refine lv_iconst (v := nI 3) hx hb dX2_deciders_14 (by decide) ?_
              refine lv_icmp_ge (tgt := 53) hx hb dX2_deciders_15 (by decide) (fun _ => ?_) (fun c223 => (c223 (by decide)).elim)
              refine lv_iload_n hx hb dX2_deciders_53 rfl (lv_at hl 1 rfl) ?_
              exact W.iret hx hb hr (fun t ht _ => ⟨_, rfl, (by simp only [pm_dec, pm_ix_in hj3 (show (30 : Nat) < 2 ^ 31 by decide)]), ht⟩) (fun _ h => absurd h List.not_mem_nil) dX2_deciders_54
        · skip
          refine lv_aload_n hx hb dX2_deciders_29 rfl (lv_at hl 2 rfl) ?_
          refine lv_iload_n hx hb dX2_deciders_30 rfl (lv_at hl 0 rfl) ?_
          refine lv_iload_n hx hb dX2_deciders_31 rfl (lv_at hl 3 rfl) ?_
          refine vp_callSi (W.runV (As := [.int (nI 1), .int (nI j3)]) (rest := [.int (nI 1), .int (nI (pm_ds S j3 1))]) ⟨hx, hb, hml, hown, hts⟩ (k_X2_markDecides l D y q S 1 j3 hI (by omega) (by omega)) (cwV 2 hts gX2_deciders_X2_markDecides rfl rfl rfl hd_X2_markDecides ⟨Nat.le_of_ble_eq_true rfl, Nat.le_of_ble_eq_true rfl⟩) ⟨pm_ro_blind, va_recv hK hP (ci := 2) (q0 := 0) rfl rfl, pm_ro_pre hP hK⟩ rfl rfl hl.1 rfl (lv_room (Nat.le_of_ble_eq_true rfl)) dX2_deciders_32 ⟨Nat.le_of_ble_eq_true rfl, Nat.le_of_ble_eq_true rfl⟩) (fun r224 h225 => ?_)
          rcases (show ((pm_mc (S 9 0) (S 4 j3) 1 3 = true) ∧ r224 = nI 1) ∨ (¬ (pm_mc (S 9 0) (S 4 j3) 1 3 = true) ∧ r224 = nI 0) from h225) with ⟨hp226, rfl⟩ | ⟨hp226, rfl⟩
          · skip
            refine lv_if_eq (tgt := 42) hx hb dX2_deciders_35 (by decide) (fun c227 => absurd c227 (by decide)) (fun _ => ?_)
            refine lv_iconst (v := nI 1) hx hb dX2_deciders_38 (by decide) ?_
            refine lv_goto (tgt := 43) hx hb dX2_deciders_39 (by decide) ?_
            refine vp_callSi (W.runS (As := [.int (nI (pm_ds S j3 1)), .int (nI 1), .int (nI 1)]) (rest := []) ⟨hx, hb, hml, hown, hts⟩ (k_X2_withEditor l (nI (pm_ds S j3 1)) (nI 1) (nI 1)) (va_cwS 3 hts gX2_deciders_X2_withEditor rfl rfl rfl hd_X2_withEditor ⟨Nat.le_of_ble_eq_true rfl, Nat.le_of_ble_eq_true rfl⟩) ⟨pm_no_blind, pm_no_pre⟩ rfl rfl hl.1 rfl (lv_room (Nat.le_of_ble_eq_true rfl)) dX2_deciders_43 ⟨Nat.le_of_ble_eq_true rfl, Nat.le_of_ble_eq_true rfl⟩) (fun r228 h229 => ?_)
            obtain rfl : r228 = pm_we (nI (pm_ds S j3 1)) (nI 1) (nI 1) := h229
            refine lv_topi (fun x230 e231 => ?_)
            obtain rfl : x230 = nI (pm_ds S j3 2) := e231.trans ((by first | exact pm_ds_p (n := 1) (by decide) (by assumption) (by assumption) | exact pm_ds_n (n := 1) (by decide) (fun z => absurd z.1 (by assumption)) | exact pm_ds_n (n := 1) (by decide) (fun z => absurd z.2 (by assumption))))
            refine lv_istore_n (lv' := [(2, .int (nI (pm_ds S j3 2))), (3, .int (nI 1)), (0, .ref (q 0)), (1, .int (nI j3))]) hx hb dX2_deciders_46 rfl hl (by decide) rfl (fun ls hl => ?_)
            refine lv_iinc (v := nI 2) (lv' := [(3, .int (nI 2)), (2, .int (nI (pm_ds S j3 2))), (0, .ref (q 0)), (1, .int (nI j3))]) hx hb dX2_deciders_47 hl (k := 1) rfl (by decide) (by decide) rfl (fun ls hl => ?_)
            refine lv_goto (tgt := 13) hx hb dX2_deciders_50 (by decide) ?_
            refine lv_iload_n hx hb dX2_deciders_13 rfl (lv_at hl 0 rfl) ?_
            refine lv_iconst (v := nI 3) hx hb dX2_deciders_14 (by decide) ?_
            refine lv_icmp_ge (tgt := 53) hx hb dX2_deciders_15 (by decide) (fun c232 => absurd c232 (by decide)) (fun _ => ?_)
            refine lv_iload_n hx hb dX2_deciders_18 rfl (lv_at hl 1 rfl) ?_
            refine lv_iload_n hx hb dX2_deciders_19 rfl (lv_at hl 0 rfl) ?_
            refine lv_aload_n hx hb dX2_deciders_20 rfl (lv_at hl 2 rfl) ?_
            refine va_get (D := D) (ci := 2) (v := .ref (q 2)) (C := RX2) (T := TX2) (N := 15) hx hb hts hin2 hown hK hP 0 rfl rfl 1 (by decide) (hts (.fieldLink RX2 15 "ProofMarks$Sheet" "how" "[I") (List.mem_of_getElem? (i := 1) rfl)) (fun _ h9 => h9) rfl dX2_deciders_21 ?_
            refine lv_iload_n hx hb dX2_deciders_24 rfl (lv_at hl 3 rfl) ?_
            refine kx_iald (v := nI ((S 0) j3)) hx hb hK hP 2 0 rfl rfl (by omega) (by decide) rfl dX2_deciders_25 ?_
            have := hI.how j3 (by omega)
            refine kx_if_ne (tgt := 42) hx hb (by omega) dX2_deciders_26 (by decide) (fun c233 => ?_) (fun c233 => ?_)
            · skip
              refine lv_iconst (v := nI 0) hx hb dX2_deciders_42 (by decide) ?_
              refine vp_callSi (W.runS (As := [.int (nI (pm_ds S j3 2)), .int (nI 2), .int (nI 0)]) (rest := []) ⟨hx, hb, hml, hown, hts⟩ (k_X2_withEditor l (nI (pm_ds S j3 2)) (nI 2) (nI 0)) (va_cwS 3 hts gX2_deciders_X2_withEditor rfl rfl rfl hd_X2_withEditor ⟨Nat.le_of_ble_eq_true rfl, Nat.le_of_ble_eq_true rfl⟩) ⟨pm_no_blind, pm_no_pre⟩ rfl rfl hl.1 rfl (lv_room (Nat.le_of_ble_eq_true rfl)) dX2_deciders_43 ⟨Nat.le_of_ble_eq_true rfl, Nat.le_of_ble_eq_true rfl⟩) (fun r234 h235 => ?_)
              obtain rfl : r234 = pm_we (nI (pm_ds S j3 2)) (nI 2) (nI 0) := h235
              refine lv_topi (fun x236 e237 => ?_)
              obtain rfl : x236 = nI (pm_ds S j3 3) := e237.trans ((by first | exact pm_ds_p (n := 2) (by decide) (by assumption) (by assumption) | exact pm_ds_n (n := 2) (by decide) (fun z => absurd z.1 (by assumption)) | exact pm_ds_n (n := 2) (by decide) (fun z => absurd z.2 (by assumption))))
              refine lv_istore_n (lv' := [(2, .int (nI (pm_ds S j3 3))), (3, .int (nI 2)), (0, .ref (q 0)), (1, .int (nI j3))]) hx hb dX2_deciders_46 rfl hl (by decide) rfl (fun ls hl => ?_)
              refine lv_iinc (v := nI 3) (lv' := [(3, .int (nI 3)), (2, .int (nI (pm_ds S j3 3))), (0, .ref (q 0)), (1, .int (nI j3))]) hx hb dX2_deciders_47 hl (k := 1) rfl (by decide) (by decide) rfl (fun ls hl => ?_)
              refine lv_goto (tgt := 13) hx hb dX2_deciders_50 (by decide) ?_
              refine lv_iload_n hx hb dX2_deciders_13 rfl (lv_at hl 0 rfl) ?_
              refine lv_iconst (v := nI 3) hx hb dX2_deciders_14 (by decide) ?_
              refine lv_icmp_ge (tgt := 53) hx hb dX2_deciders_15 (by decide) (fun _ => ?_) (fun c238 => (c238 (by decide)).elim)
              refine lv_iload_n hx hb dX2_deciders_53 rfl (lv_at hl 1 rfl) ?_
              exact W.iret hx hb hr (fun t ht _ => ⟨_, rfl, (by simp only [pm_dec, pm_ix_in hj3 (show (30 : Nat) < 2 ^ 31 by decide)]), ht⟩) (fun _ h => absurd h List.not_mem_nil) dX2_deciders_54
            · skip
              refine lv_aload_n hx hb dX2_deciders_29 rfl (lv_at hl 2 rfl) ?_
              refine lv_iload_n hx hb dX2_deciders_30 rfl (lv_at hl 0 rfl) ?_
              refine lv_iload_n hx hb dX2_deciders_31 rfl (lv_at hl 3 rfl) ?_
              refine vp_callSi (W.runV (As := [.int (nI 2), .int (nI j3)]) (rest := [.int (nI 2), .int (nI (pm_ds S j3 2))]) ⟨hx, hb, hml, hown, hts⟩ (k_X2_markDecides l D y q S 2 j3 hI (by omega) (by omega)) (cwV 2 hts gX2_deciders_X2_markDecides rfl rfl rfl hd_X2_markDecides ⟨Nat.le_of_ble_eq_true rfl, Nat.le_of_ble_eq_true rfl⟩) ⟨pm_ro_blind, va_recv hK hP (ci := 2) (q0 := 0) rfl rfl, pm_ro_pre hP hK⟩ rfl rfl hl.1 rfl (lv_room (Nat.le_of_ble_eq_true rfl)) dX2_deciders_32 ⟨Nat.le_of_ble_eq_true rfl, Nat.le_of_ble_eq_true rfl⟩) (fun r239 h240 => ?_)
              rcases (show ((pm_mc (S 9 0) (S 4 j3) 2 3 = true) ∧ r239 = nI 1) ∨ (¬ (pm_mc (S 9 0) (S 4 j3) 2 3 = true) ∧ r239 = nI 0) from h240) with ⟨hp241, rfl⟩ | ⟨hp241, rfl⟩
              · skip
                refine lv_if_eq (tgt := 42) hx hb dX2_deciders_35 (by decide) (fun c242 => absurd c242 (by decide)) (fun _ => ?_)
                refine lv_iconst (v := nI 1) hx hb dX2_deciders_38 (by decide) ?_
                refine lv_goto (tgt := 43) hx hb dX2_deciders_39 (by decide) ?_
                refine vp_callSi (W.runS (As := [.int (nI (pm_ds S j3 2)), .int (nI 2), .int (nI 1)]) (rest := []) ⟨hx, hb, hml, hown, hts⟩ (k_X2_withEditor l (nI (pm_ds S j3 2)) (nI 2) (nI 1)) (va_cwS 3 hts gX2_deciders_X2_withEditor rfl rfl rfl hd_X2_withEditor ⟨Nat.le_of_ble_eq_true rfl, Nat.le_of_ble_eq_true rfl⟩) ⟨pm_no_blind, pm_no_pre⟩ rfl rfl hl.1 rfl (lv_room (Nat.le_of_ble_eq_true rfl)) dX2_deciders_43 ⟨Nat.le_of_ble_eq_true rfl, Nat.le_of_ble_eq_true rfl⟩) (fun r243 h244 => ?_)
                obtain rfl : r243 = pm_we (nI (pm_ds S j3 2)) (nI 2) (nI 1) := h244
                refine lv_topi (fun x245 e246 => ?_)
                obtain rfl : x245 = nI (pm_ds S j3 3) := e246.trans ((by first | exact pm_ds_p (n := 2) (by decide) (by assumption) (by assumption) | exact pm_ds_n (n := 2) (by decide) (fun z => absurd z.1 (by assumption)) | exact pm_ds_n (n := 2) (by decide) (fun z => absurd z.2 (by assumption))))
                refine lv_istore_n (lv' := [(2, .int (nI (pm_ds S j3 3))), (3, .int (nI 2)), (0, .ref (q 0)), (1, .int (nI j3))]) hx hb dX2_deciders_46 rfl hl (by decide) rfl (fun ls hl => ?_)
                refine lv_iinc (v := nI 3) (lv' := [(3, .int (nI 3)), (2, .int (nI (pm_ds S j3 3))), (0, .ref (q 0)), (1, .int (nI j3))]) hx hb dX2_deciders_47 hl (k := 1) rfl (by decide) (by decide) rfl (fun ls hl => ?_)
                refine lv_goto (tgt := 13) hx hb dX2_deciders_50 (by decide) ?_
                refine lv_iload_n hx hb dX2_deciders_13 rfl (lv_at hl 0 rfl) ?_
                refine lv_iconst (v := nI 3) hx hb dX2_deciders_14 (by decide) ?_
                refine lv_icmp_ge (tgt := 53) hx hb dX2_deciders_15 (by decide) (fun _ => ?_) (fun c247 => (c247 (by decide)).elim)
                refine lv_iload_n hx hb dX2_deciders_53 rfl (lv_at hl 1 rfl) ?_
                exact W.iret hx hb hr (fun t ht _ => ⟨_, rfl, (by simp only [pm_dec, pm_ix_in hj3 (show (30 : Nat) < 2 ^ 31 by decide)]), ht⟩) (fun _ h => absurd h List.not_mem_nil) dX2_deciders_54
              · skip
                refine lv_if_eq (tgt := 42) hx hb dX2_deciders_35 (by decide) (fun _ => ?_) (fun c248 => (c248 (by decide)).elim)
                refine lv_iconst (v := nI 0) hx hb dX2_deciders_42 (by decide) ?_
                refine vp_callSi (W.runS (As := [.int (nI (pm_ds S j3 2)), .int (nI 2), .int (nI 0)]) (rest := []) ⟨hx, hb, hml, hown, hts⟩ (k_X2_withEditor l (nI (pm_ds S j3 2)) (nI 2) (nI 0)) (va_cwS 3 hts gX2_deciders_X2_withEditor rfl rfl rfl hd_X2_withEditor ⟨Nat.le_of_ble_eq_true rfl, Nat.le_of_ble_eq_true rfl⟩) ⟨pm_no_blind, pm_no_pre⟩ rfl rfl hl.1 rfl (lv_room (Nat.le_of_ble_eq_true rfl)) dX2_deciders_43 ⟨Nat.le_of_ble_eq_true rfl, Nat.le_of_ble_eq_true rfl⟩) (fun r249 h250 => ?_)
                obtain rfl : r249 = pm_we (nI (pm_ds S j3 2)) (nI 2) (nI 0) := h250
                refine lv_topi (fun x251 e252 => ?_)
                obtain rfl : x251 = nI (pm_ds S j3 3) := e252.trans ((by first | exact pm_ds_p (n := 2) (by decide) (by assumption) (by assumption) | exact pm_ds_n (n := 2) (by decide) (fun z => absurd z.1 (by assumption)) | exact pm_ds_n (n := 2) (by decide) (fun z => absurd z.2 (by assumption))))
                refine lv_istore_n (lv' := [(2, .int (nI (pm_ds S j3 3))), (3, .int (nI 2)), (0, .ref (q 0)), (1, .int (nI j3))]) hx hb dX2_deciders_46 rfl hl (by decide) rfl (fun ls hl => ?_)
                refine lv_iinc (v := nI 3) (lv' := [(3, .int (nI 3)), (2, .int (nI (pm_ds S j3 3))), (0, .ref (q 0)), (1, .int (nI j3))]) hx hb dX2_deciders_47 hl (k := 1) rfl (by decide) (by decide) rfl (fun ls hl => ?_)
                refine lv_goto (tgt := 13) hx hb dX2_deciders_50 (by decide) ?_
                refine lv_iload_n hx hb dX2_deciders_13 rfl (lv_at hl 0 rfl) ?_
                refine lv_iconst (v := nI 3) hx hb dX2_deciders_14 (by decide) ?_
                refine lv_icmp_ge (tgt := 53) hx hb dX2_deciders_15 (by decide) (fun _ => ?_) (fun c253 => (c253 (by decide)).elim)
                refine lv_iload_n hx hb dX2_deciders_53 rfl (lv_at hl 1 rfl) ?_
                exact W.iret hx hb hr (fun t ht _ => ⟨_, rfl, (by simp only [pm_dec, pm_ix_in hj3 (show (30 : Nat) < 2 ^ 31 by decide)]), ht⟩) (fun _ h => absurd h List.not_mem_nil) dX2_deciders_54
          · skip
            refine lv_if_eq (tgt := 42) hx hb dX2_deciders_35 (by decide) (fun _ => ?_) (fun c254 => (c254 (by decide)).elim)
            refine lv_iconst (v := nI 0) hx hb dX2_deciders_42 (by decide) ?_
            refine vp_callSi (W.runS (As := [.int (nI (pm_ds S j3 1)), .int (nI 1), .int (nI 0)]) (rest := []) ⟨hx, hb, hml, hown, hts⟩ (k_X2_withEditor l (nI (pm_ds S j3 1)) (nI 1) (nI 0)) (va_cwS 3 hts gX2_deciders_X2_withEditor rfl rfl rfl hd_X2_withEditor ⟨Nat.le_of_ble_eq_true rfl, Nat.le_of_ble_eq_true rfl⟩) ⟨pm_no_blind, pm_no_pre⟩ rfl rfl hl.1 rfl (lv_room (Nat.le_of_ble_eq_true rfl)) dX2_deciders_43 ⟨Nat.le_of_ble_eq_true rfl, Nat.le_of_ble_eq_true rfl⟩) (fun r255 h256 => ?_)
            obtain rfl : r255 = pm_we (nI (pm_ds S j3 1)) (nI 1) (nI 0) := h256
            refine lv_topi (fun x257 e258 => ?_)
            obtain rfl : x257 = nI (pm_ds S j3 2) := e258.trans ((by first | exact pm_ds_p (n := 1) (by decide) (by assumption) (by assumption) | exact pm_ds_n (n := 1) (by decide) (fun z => absurd z.1 (by assumption)) | exact pm_ds_n (n := 1) (by decide) (fun z => absurd z.2 (by assumption))))
            refine lv_istore_n (lv' := [(2, .int (nI (pm_ds S j3 2))), (3, .int (nI 1)), (0, .ref (q 0)), (1, .int (nI j3))]) hx hb dX2_deciders_46 rfl hl (by decide) rfl (fun ls hl => ?_)
            refine lv_iinc (v := nI 2) (lv' := [(3, .int (nI 2)), (2, .int (nI (pm_ds S j3 2))), (0, .ref (q 0)), (1, .int (nI j3))]) hx hb dX2_deciders_47 hl (k := 1) rfl (by decide) (by decide) rfl (fun ls hl => ?_)
            refine lv_goto (tgt := 13) hx hb dX2_deciders_50 (by decide) ?_
            refine lv_iload_n hx hb dX2_deciders_13 rfl (lv_at hl 0 rfl) ?_
            refine lv_iconst (v := nI 3) hx hb dX2_deciders_14 (by decide) ?_
            refine lv_icmp_ge (tgt := 53) hx hb dX2_deciders_15 (by decide) (fun c259 => absurd c259 (by decide)) (fun _ => ?_)
            refine lv_iload_n hx hb dX2_deciders_18 rfl (lv_at hl 1 rfl) ?_
            refine lv_iload_n hx hb dX2_deciders_19 rfl (lv_at hl 0 rfl) ?_
            refine lv_aload_n hx hb dX2_deciders_20 rfl (lv_at hl 2 rfl) ?_
            refine va_get (D := D) (ci := 2) (v := .ref (q 2)) (C := RX2) (T := TX2) (N := 15) hx hb hts hin2 hown hK hP 0 rfl rfl 1 (by decide) (hts (.fieldLink RX2 15 "ProofMarks$Sheet" "how" "[I") (List.mem_of_getElem? (i := 1) rfl)) (fun _ h9 => h9) rfl dX2_deciders_21 ?_
            refine lv_iload_n hx hb dX2_deciders_24 rfl (lv_at hl 3 rfl) ?_
            refine kx_iald (v := nI ((S 0) j3)) hx hb hK hP 2 0 rfl rfl (by omega) (by decide) rfl dX2_deciders_25 ?_
            have := hI.how j3 (by omega)
            refine kx_if_ne (tgt := 42) hx hb (by omega) dX2_deciders_26 (by decide) (fun c260 => ?_) (fun c260 => ?_)
            · skip
              refine lv_iconst (v := nI 0) hx hb dX2_deciders_42 (by decide) ?_
              refine vp_callSi (W.runS (As := [.int (nI (pm_ds S j3 2)), .int (nI 2), .int (nI 0)]) (rest := []) ⟨hx, hb, hml, hown, hts⟩ (k_X2_withEditor l (nI (pm_ds S j3 2)) (nI 2) (nI 0)) (va_cwS 3 hts gX2_deciders_X2_withEditor rfl rfl rfl hd_X2_withEditor ⟨Nat.le_of_ble_eq_true rfl, Nat.le_of_ble_eq_true rfl⟩) ⟨pm_no_blind, pm_no_pre⟩ rfl rfl hl.1 rfl (lv_room (Nat.le_of_ble_eq_true rfl)) dX2_deciders_43 ⟨Nat.le_of_ble_eq_true rfl, Nat.le_of_ble_eq_true rfl⟩) (fun r261 h262 => ?_)
              obtain rfl : r261 = pm_we (nI (pm_ds S j3 2)) (nI 2) (nI 0) := h262
              refine lv_topi (fun x263 e264 => ?_)
              obtain rfl : x263 = nI (pm_ds S j3 3) := e264.trans ((by first | exact pm_ds_p (n := 2) (by decide) (by assumption) (by assumption) | exact pm_ds_n (n := 2) (by decide) (fun z => absurd z.1 (by assumption)) | exact pm_ds_n (n := 2) (by decide) (fun z => absurd z.2 (by assumption))))
              refine lv_istore_n (lv' := [(2, .int (nI (pm_ds S j3 3))), (3, .int (nI 2)), (0, .ref (q 0)), (1, .int (nI j3))]) hx hb dX2_deciders_46 rfl hl (by decide) rfl (fun ls hl => ?_)
              refine lv_iinc (v := nI 3) (lv' := [(3, .int (nI 3)), (2, .int (nI (pm_ds S j3 3))), (0, .ref (q 0)), (1, .int (nI j3))]) hx hb dX2_deciders_47 hl (k := 1) rfl (by decide) (by decide) rfl (fun ls hl => ?_)
              refine lv_goto (tgt := 13) hx hb dX2_deciders_50 (by decide) ?_
              refine lv_iload_n hx hb dX2_deciders_13 rfl (lv_at hl 0 rfl) ?_
              refine lv_iconst (v := nI 3) hx hb dX2_deciders_14 (by decide) ?_
              refine lv_icmp_ge (tgt := 53) hx hb dX2_deciders_15 (by decide) (fun _ => ?_) (fun c265 => (c265 (by decide)).elim)
              refine lv_iload_n hx hb dX2_deciders_53 rfl (lv_at hl 1 rfl) ?_
              exact W.iret hx hb hr (fun t ht _ => ⟨_, rfl, (by simp only [pm_dec, pm_ix_in hj3 (show (30 : Nat) < 2 ^ 31 by decide)]), ht⟩) (fun _ h => absurd h List.not_mem_nil) dX2_deciders_54
            · skip
              refine lv_aload_n hx hb dX2_deciders_29 rfl (lv_at hl 2 rfl) ?_
              refine lv_iload_n hx hb dX2_deciders_30 rfl (lv_at hl 0 rfl) ?_
              refine lv_iload_n hx hb dX2_deciders_31 rfl (lv_at hl 3 rfl) ?_
              refine vp_callSi (W.runV (As := [.int (nI 2), .int (nI j3)]) (rest := [.int (nI 2), .int (nI (pm_ds S j3 2))]) ⟨hx, hb, hml, hown, hts⟩ (k_X2_markDecides l D y q S 2 j3 hI (by omega) (by omega)) (cwV 2 hts gX2_deciders_X2_markDecides rfl rfl rfl hd_X2_markDecides ⟨Nat.le_of_ble_eq_true rfl, Nat.le_of_ble_eq_true rfl⟩) ⟨pm_ro_blind, va_recv hK hP (ci := 2) (q0 := 0) rfl rfl, pm_ro_pre hP hK⟩ rfl rfl hl.1 rfl (lv_room (Nat.le_of_ble_eq_true rfl)) dX2_deciders_32 ⟨Nat.le_of_ble_eq_true rfl, Nat.le_of_ble_eq_true rfl⟩) (fun r266 h267 => ?_)
              rcases (show ((pm_mc (S 9 0) (S 4 j3) 2 3 = true) ∧ r266 = nI 1) ∨ (¬ (pm_mc (S 9 0) (S 4 j3) 2 3 = true) ∧ r266 = nI 0) from h267) with ⟨hp268, rfl⟩ | ⟨hp268, rfl⟩
              · skip
                refine lv_if_eq (tgt := 42) hx hb dX2_deciders_35 (by decide) (fun c269 => absurd c269 (by decide)) (fun _ => ?_)
                refine lv_iconst (v := nI 1) hx hb dX2_deciders_38 (by decide) ?_
                refine lv_goto (tgt := 43) hx hb dX2_deciders_39 (by decide) ?_
                refine vp_callSi (W.runS (As := [.int (nI (pm_ds S j3 2)), .int (nI 2), .int (nI 1)]) (rest := []) ⟨hx, hb, hml, hown, hts⟩ (k_X2_withEditor l (nI (pm_ds S j3 2)) (nI 2) (nI 1)) (va_cwS 3 hts gX2_deciders_X2_withEditor rfl rfl rfl hd_X2_withEditor ⟨Nat.le_of_ble_eq_true rfl, Nat.le_of_ble_eq_true rfl⟩) ⟨pm_no_blind, pm_no_pre⟩ rfl rfl hl.1 rfl (lv_room (Nat.le_of_ble_eq_true rfl)) dX2_deciders_43 ⟨Nat.le_of_ble_eq_true rfl, Nat.le_of_ble_eq_true rfl⟩) (fun r270 h271 => ?_)
                obtain rfl : r270 = pm_we (nI (pm_ds S j3 2)) (nI 2) (nI 1) := h271
                refine lv_topi (fun x272 e273 => ?_)
                obtain rfl : x272 = nI (pm_ds S j3 3) := e273.trans ((by first | exact pm_ds_p (n := 2) (by decide) (by assumption) (by assumption) | exact pm_ds_n (n := 2) (by decide) (fun z => absurd z.1 (by assumption)) | exact pm_ds_n (n := 2) (by decide) (fun z => absurd z.2 (by assumption))))
                refine lv_istore_n (lv' := [(2, .int (nI (pm_ds S j3 3))), (3, .int (nI 2)), (0, .ref (q 0)), (1, .int (nI j3))]) hx hb dX2_deciders_46 rfl hl (by decide) rfl (fun ls hl => ?_)
                refine lv_iinc (v := nI 3) (lv' := [(3, .int (nI 3)), (2, .int (nI (pm_ds S j3 3))), (0, .ref (q 0)), (1, .int (nI j3))]) hx hb dX2_deciders_47 hl (k := 1) rfl (by decide) (by decide) rfl (fun ls hl => ?_)
                refine lv_goto (tgt := 13) hx hb dX2_deciders_50 (by decide) ?_
                refine lv_iload_n hx hb dX2_deciders_13 rfl (lv_at hl 0 rfl) ?_
                refine lv_iconst (v := nI 3) hx hb dX2_deciders_14 (by decide) ?_
                refine lv_icmp_ge (tgt := 53) hx hb dX2_deciders_15 (by decide) (fun _ => ?_) (fun c274 => (c274 (by decide)).elim)
                refine lv_iload_n hx hb dX2_deciders_53 rfl (lv_at hl 1 rfl) ?_
                exact W.iret hx hb hr (fun t ht _ => ⟨_, rfl, (by simp only [pm_dec, pm_ix_in hj3 (show (30 : Nat) < 2 ^ 31 by decide)]), ht⟩) (fun _ h => absurd h List.not_mem_nil) dX2_deciders_54
              · skip
                refine lv_if_eq (tgt := 42) hx hb dX2_deciders_35 (by decide) (fun _ => ?_) (fun c275 => (c275 (by decide)).elim)
                refine lv_iconst (v := nI 0) hx hb dX2_deciders_42 (by decide) ?_
                refine vp_callSi (W.runS (As := [.int (nI (pm_ds S j3 2)), .int (nI 2), .int (nI 0)]) (rest := []) ⟨hx, hb, hml, hown, hts⟩ (k_X2_withEditor l (nI (pm_ds S j3 2)) (nI 2) (nI 0)) (va_cwS 3 hts gX2_deciders_X2_withEditor rfl rfl rfl hd_X2_withEditor ⟨Nat.le_of_ble_eq_true rfl, Nat.le_of_ble_eq_true rfl⟩) ⟨pm_no_blind, pm_no_pre⟩ rfl rfl hl.1 rfl (lv_room (Nat.le_of_ble_eq_true rfl)) dX2_deciders_43 ⟨Nat.le_of_ble_eq_true rfl, Nat.le_of_ble_eq_true rfl⟩) (fun r276 h277 => ?_)
                obtain rfl : r276 = pm_we (nI (pm_ds S j3 2)) (nI 2) (nI 0) := h277
                refine lv_topi (fun x278 e279 => ?_)
                obtain rfl : x278 = nI (pm_ds S j3 3) := e279.trans ((by first | exact pm_ds_p (n := 2) (by decide) (by assumption) (by assumption) | exact pm_ds_n (n := 2) (by decide) (fun z => absurd z.1 (by assumption)) | exact pm_ds_n (n := 2) (by decide) (fun z => absurd z.2 (by assumption))))
                refine lv_istore_n (lv' := [(2, .int (nI (pm_ds S j3 3))), (3, .int (nI 2)), (0, .ref (q 0)), (1, .int (nI j3))]) hx hb dX2_deciders_46 rfl hl (by decide) rfl (fun ls hl => ?_)
                refine lv_iinc (v := nI 3) (lv' := [(3, .int (nI 3)), (2, .int (nI (pm_ds S j3 3))), (0, .ref (q 0)), (1, .int (nI j3))]) hx hb dX2_deciders_47 hl (k := 1) rfl (by decide) (by decide) rfl (fun ls hl => ?_)
                refine lv_goto (tgt := 13) hx hb dX2_deciders_50 (by decide) ?_
                refine lv_iload_n hx hb dX2_deciders_13 rfl (lv_at hl 0 rfl) ?_
                refine lv_iconst (v := nI 3) hx hb dX2_deciders_14 (by decide) ?_
                refine lv_icmp_ge (tgt := 53) hx hb dX2_deciders_15 (by decide) (fun _ => ?_) (fun c280 => (c280 (by decide)).elim)
                refine lv_iload_n hx hb dX2_deciders_53 rfl (lv_at hl 1 rfl) ?_
                exact W.iret hx hb hr (fun t ht _ => ⟨_, rfl, (by simp only [pm_dec, pm_ix_in hj3 (show (30 : Nat) < 2 ^ 31 by decide)]), ht⟩) (fun _ h => absurd h List.not_mem_nil) dX2_deciders_54
  · skip
    refine lv_if_ne (tgt := 9) hx hb dX2_deciders_4 (by decide) (fun c281 => (c281 (by decide)).elim) (fun _ => ?_)
    refine lv_iconst (v := -1) hx hb dX2_deciders_7 (by decide) ?_
    exact W.iret hx hb hr (fun t ht _ => ⟨_, rfl, (by simp only [pm_dec, pm_ix_out hnj3]), ht⟩) (fun _ h => absurd h List.not_mem_nil) dX2_deciders_8

set_option maxHeartbeats 4000000 in
set_option maxRecDepth 100000 in
theorem k_X2_agreement (l : Launch) (D : va_G) (y : Nat → ClassId) (q : Nat → Nat) (S : Nat → Nat → Nat) (xe xo : Int32) (hI : pm_Inv S) : Met l yX2_agreement wsX2_agreement ({ frames := 1, cells := 0, slots := 0, locals := 23 } : Room) (pm_ro D (pm_ty y) [.ref (q 0), .int xe, .int xo] (pm_shS y q S)) (vp_Si (fun r : Int32 => r = pm_agr S xe xo)) 0 0 (fun _ => False) := by
  refine Met.ofW (cc := cX2_agreement) (maxL := 8) (ret := (some .int)) (by decide) rfl ?_
  intro p e s m args below meth c s₁ B hml hpre
  obtain ⟨rfl, hP, hK⟩ := hpre
  have hx := B.exec
  have hb := B.bytes
  have hr := B.returns
  have hts := atoms_spec (ws := wsX2_agreement) B.pre
  have hown : s.vm.findClass RX2 = some m.cls := findClass_of_methodNamed B.named
  have hlocks := B.notSynchronized
  have hin2 : ∀ w ∈ u_ws RX2 TX2 15, w ∈ wsX2_agreement := fun w h => List.mem_cons_of_mem _ (List.mem_append_right _ h)
  have hP : va_P D vwCl (pm_shS y q S) s.heap := hP
  have hl := lv_entry ([.ref (q 0), .int xe, .int xo]) (n := 8) (Nat.le_of_ble_eq_true rfl)
  rw [lg_entry_eq]
  generalize (lg_sl ([.ref (q 0), .int xe, .int xo]) ++ List.replicate (8 - (lg_sl ([.ref (q 0), .int xe, .int xo])).length) Slot.unset).toArray = ls at hl ⊢
  have hl : lv_has ls 8 [(0, .ref (q 0)), (1, .int xe), (2, .int xo)] := hl
  refine lv_iload_n hx hb dX2_agreement_0 rfl (lv_at hl 1 rfl) ?_
  refine vp_callSi (W.runS (As := [.int xe]) (rest := []) ⟨hx, hb, hml, hown, hts⟩ (k_X2_isEditor l xe) (va_cwS 1 hts gX2_agreement_X2_isEditor rfl rfl rfl hd_X2_isEditor ⟨Nat.le_of_ble_eq_true rfl, Nat.le_of_ble_eq_true rfl⟩) ⟨pm_no_blind, pm_no_pre⟩ rfl rfl hl.1 rfl (lv_room (Nat.le_of_ble_eq_true rfl)) dX2_agreement_1 ⟨Nat.le_of_ble_eq_true rfl, Nat.le_of_ble_eq_true rfl⟩) (fun r1 h2 => ?_)
  rcases h2 with ⟨j3, hj3, ej3, rfl⟩ | ⟨hnj3, rfl⟩
  · subst ej3
    refine lv_if_eq (tgt := 14) hx hb dX2_agreement_4 (by decide) (fun c4 => absurd c4 (by decide)) (fun _ => ?_)
    refine lv_iload_n hx hb dX2_agreement_7 rfl (lv_at hl 2 rfl) ?_
    refine vp_callSi (W.runS (As := [.int xo]) (rest := []) ⟨hx, hb, hml, hown, hts⟩ (k_X2_isEditor l xo) (va_cwS 1 hts gX2_agreement_X2_isEditor rfl rfl rfl hd_X2_isEditor ⟨Nat.le_of_ble_eq_true rfl, Nat.le_of_ble_eq_true rfl⟩) ⟨pm_no_blind, pm_no_pre⟩ rfl rfl hl.1 rfl (lv_room (Nat.le_of_ble_eq_true rfl)) dX2_agreement_8 ⟨Nat.le_of_ble_eq_true rfl, Nat.le_of_ble_eq_true rfl⟩) (fun r5 h6 => ?_)
    rcases h6 with ⟨j7, hj7, ej7, rfl⟩ | ⟨hnj7, rfl⟩
    · subst ej7
      refine lv_if_ne (tgt := 16) hx hb dX2_agreement_11 (by decide) (fun _ => ?_) (fun c8 => absurd c8 (by decide))
      refine lv_iconst (v := nI 0) hx hb dX2_agreement_16 (by decide) ?_
      refine lv_istore_n (lv' := [(3, .int (nI 0)), (0, .ref (q 0)), (1, .int (nI j3)), (2, .int (nI j7))]) hx hb dX2_agreement_17 rfl hl (by decide) rfl (fun ls hl => ?_)
      refine lv_iconst (v := nI 0) hx hb dX2_agreement_18 (by decide) ?_
      refine lv_istore (lv' := [(4, .int (nI 0)), (3, .int (nI 0)), (0, .ref (q 0)), (1, .int (nI j3)), (2, .int (nI j7))]) hx hb dX2_agreement_19 hl (by decide) rfl (fun ls hl => ?_)
      refine lv_iconst (v := nI 0) hx hb dX2_agreement_21 (by decide) ?_
      refine lv_istore (lv' := [(5, .int (nI 0)), (4, .int (nI 0)), (3, .int (nI 0)), (0, .ref (q 0)), (1, .int (nI j3)), (2, .int (nI j7))]) hx hb dX2_agreement_22 hl (by decide) rfl (fun ls hl => ?_)
      have LOOP24 : ∀ (n k : Nat) (ls : Array Slot), k ≤ 30 → 30 - k < n → lv_has ls 8 [(0, .ref (q 0)), (1, .int (nI j3)), (2, .int (nI j7)), (3, .int (nI (pm_bo S j3 j7 k))), (4, .int (nI (pm_sa S j3 j7 k))), (5, .int (nI k))] → W p l e (headSpec wsX2_agreement ({ frames := 1, cells := 0, slots := 0, locals := 23 } : Room)).room s m ([.ref (q 0), .int (nI j3), .int (nI j7)] : List Value).toArray below meth c s.heap [] 0 0 (MQ below (vp_Si (fun r : Int32 => r = pm_agr S (nI j3) (nI j7))) ([.ref (q 0), .int (nI j3), .int (nI j7)] : List Value).toArray s 0 0 (fun _ => False)) (F0 m 24 ls []) := by
        intro n
        induction n with
        | zero => intro k _ hi hn; omega
        | succ n ih9 =>
          intro k ls hi_k hn_k hl 
          have := pm_num_le (fun k => decide (¬ pm_mk (S 4 k) j3 = 0 ∧ ¬ pm_mk (S 4 k) j7 = 0)) k
          have hbo : pm_bo S j3 j7 k ≤ k := this
          have := pm_num_le (fun k => decide ((¬ pm_mk (S 4 k) j3 = 0 ∧ ¬ pm_mk (S 4 k) j7 = 0) ∧ pm_mk (S 4 k) j3 = pm_mk (S 4 k) j7)) k
          have hsa : pm_sa S j3 j7 k ≤ k := this
          refine lv_iload hx hb dX2_agreement_24 (lv_at hl 5 rfl) ?_
          refine lv_bipush (v := nI 30) hx hb dX2_agreement_26 (by decide) ?_
          refine kx_icmp_ge (tgt := 85) hx hb (by omega) (by decide) dX2_agreement_28 (by decide) (fun c10 => ?_) (fun c10 => ?_)
          · skip
            refine lv_iload_n hx hb dX2_agreement_85 rfl (lv_at hl 3 rfl) ?_
            refine kx_if_ne (tgt := 94) hx hb (by omega) dX2_agreement_86 (by decide) (fun c11 => ?_) (fun c11 => ?_)
            · skip
              refine lv_bipush (v := nI 100) hx hb dX2_agreement_94 (by decide) ?_
              refine lv_iload hx hb dX2_agreement_96 (lv_at hl 4 rfl) ?_
              refine kx_imul hx hb dX2_agreement_98 ?_
              refine lv_iload_n hx hb dX2_agreement_99 rfl (lv_at hl 3 rfl) ?_
              refine kx_idiv hx hb (by omega) (by omega) (by omega) dX2_agreement_100 ?_
              exact W.iret hx hb hr (fun t ht _ => ⟨_, rfl, (by have h9 : k = 30 := (by omega); subst h9; simp only [pm_agr, pm_ix_in hj3 (show (3 : Nat) < 2 ^ 31 by decide), pm_ix_in hj7 (show (3 : Nat) < 2 ^ 31 by decide)] <;> (first | rw [if_pos (by assumption)] | rw [if_neg (by assumption)])), ht⟩) (fun _ h => absurd h List.not_mem_nil) dX2_agreement_101
            · skip
              refine lv_bipush (v := nI 100) hx hb dX2_agreement_89 (by decide) ?_
              refine lv_goto (tgt := 101) hx hb dX2_agreement_91 (by decide) ?_
              exact W.iret hx hb hr (fun t ht _ => ⟨_, rfl, (by have h9 : k = 30 := (by omega); subst h9; simp only [pm_agr, pm_ix_in hj3 (show (3 : Nat) < 2 ^ 31 by decide), pm_ix_in hj7 (show (3 : Nat) < 2 ^ 31 by decide)] <;> (first | rw [if_pos (by assumption)] | rw [if_neg (by assumption)])), ht⟩) (fun _ h => absurd h List.not_mem_nil) dX2_agreement_101
          · skip
            refine lv_aload_n hx hb dX2_agreement_31 rfl (lv_at hl 0 rfl) ?_
            refine lv_iload_n hx hb dX2_agreement_32 rfl (lv_at hl 1 rfl) ?_
            refine lv_iload hx hb dX2_agreement_33 (lv_at hl 5 rfl) ?_
            refine vp_callSi (W.runV (As := [.int (nI j3), .int (nI k)]) (rest := []) ⟨hx, hb, hml, hown, hts⟩ (k_X2_markOf l D y q S j3 k (hI.okm k (by omega)) (by omega) (by omega)) (cwV 2 hts gX2_agreement_X2_markOf rfl rfl rfl hd_X2_markOf ⟨Nat.le_of_ble_eq_true rfl, Nat.le_of_ble_eq_true rfl⟩) ⟨pm_ro_blind, va_recv hK hP (ci := 2) (q0 := 0) rfl rfl, pm_ro_pre hP hK⟩ rfl rfl hl.1 rfl (lv_room (Nat.le_of_ble_eq_true rfl)) dX2_agreement_35 ⟨Nat.le_of_ble_eq_true rfl, Nat.le_of_ble_eq_true rfl⟩) (fun r12 h13 => ?_)
            obtain rfl : r12 = nI (pm_mk (S 4 k) j3) := h13
            have := pm_lt4 (S 4 k) j3
            refine lv_istore (lv' := [(6, .int (nI (pm_mk (S 4 k) j3))), (0, .ref (q 0)), (1, .int (nI j3)), (2, .int (nI j7)), (3, .int (nI (pm_bo S j3 j7 k))), (4, .int (nI (pm_sa S j3 j7 k))), (5, .int (nI k))]) hx hb dX2_agreement_38 hl (by decide) rfl (fun ls hl => ?_)
            refine lv_aload_n hx hb dX2_agreement_40 rfl (lv_at hl 1 rfl) ?_
            refine lv_iload_n hx hb dX2_agreement_41 rfl (lv_at hl 3 rfl) ?_
            refine lv_iload hx hb dX2_agreement_42 (lv_at hl 6 rfl) ?_
            refine vp_callSi (W.runV (As := [.int (nI j7), .int (nI k)]) (rest := []) ⟨hx, hb, hml, hown, hts⟩ (k_X2_markOf l D y q S j7 k (hI.okm k (by omega)) (by omega) (by omega)) (cwV 2 hts gX2_agreement_X2_markOf rfl rfl rfl hd_X2_markOf ⟨Nat.le_of_ble_eq_true rfl, Nat.le_of_ble_eq_true rfl⟩) ⟨pm_ro_blind, va_recv hK hP (ci := 2) (q0 := 0) rfl rfl, pm_ro_pre hP hK⟩ rfl rfl hl.1 rfl (lv_room (Nat.le_of_ble_eq_true rfl)) dX2_agreement_44 ⟨Nat.le_of_ble_eq_true rfl, Nat.le_of_ble_eq_true rfl⟩) (fun r14 h15 => ?_)
            obtain rfl : r14 = nI (pm_mk (S 4 k) j7) := h15
            have := pm_lt4 (S 4 k) j7
            refine lv_istore (lv' := [(7, .int (nI (pm_mk (S 4 k) j7))), (6, .int (nI (pm_mk (S 4 k) j3))), (0, .ref (q 0)), (1, .int (nI j3)), (2, .int (nI j7)), (3, .int (nI (pm_bo S j3 j7 k))), (4, .int (nI (pm_sa S j3 j7 k))), (5, .int (nI k))]) hx hb dX2_agreement_47 hl (by decide) rfl (fun ls hl => ?_)
            refine lv_iload hx hb dX2_agreement_49 (lv_at hl 1 rfl) ?_
            refine kx_if_eq (tgt := 79) hx hb (by omega) dX2_agreement_51 (by decide) (fun c16 => ?_) (fun c16 => ?_)
            · skip
              refine kx_iinc (a := k) (lv' := [(5, .int (nI (k + 1))), (7, .int (nI (pm_mk (S 4 k) j7))), (6, .int (nI (pm_mk (S 4 k) j3))), (0, .ref (q 0)), (1, .int (nI j3)), (2, .int (nI j7)), (3, .int (nI (pm_bo S j3 j7 k))), (4, .int (nI (pm_sa S j3 j7 k)))]) hx hb dX2_agreement_79 hl (k := 7) rfl (by decide) rfl (fun ls hl => ?_)
              refine lv_goto (tgt := 24) hx hb dX2_agreement_82 (by decide) ?_
              have q17 : (nI (pm_bo S j3 j7 (k + 1)) : Int32) = nI (pm_bo S j3 j7 k) := (congrArg nI (by first | exact pm_num_p (decide_eq_true (by omega)) | exact pm_num_n (decide_eq_false (by omega))))
              have q18 : (nI (pm_sa S j3 j7 (k + 1)) : Int32) = nI (pm_sa S j3 j7 k) := (congrArg nI (by first | exact pm_num_p (decide_eq_true (by omega)) | exact pm_num_n (decide_eq_false (by omega))))
              exact ih9 (k + 1) ls (by omega) (by omega) (by rw [q17, q18]; exact lv_sub hl [3, 4, 5, 6, 7, 0] rfl) 
            · skip
              refine lv_iload hx hb dX2_agreement_54 (lv_at hl 0 rfl) ?_
              refine kx_if_eq (tgt := 79) hx hb (by omega) dX2_agreement_56 (by decide) (fun c19 => ?_) (fun c19 => ?_)
              · skip
                refine kx_iinc (a := k) (lv' := [(5, .int (nI (k + 1))), (7, .int (nI (pm_mk (S 4 k) j7))), (6, .int (nI (pm_mk (S 4 k) j3))), (0, .ref (q 0)), (1, .int (nI j3)), (2, .int (nI j7)), (3, .int (nI (pm_bo S j3 j7 k))), (4, .int (nI (pm_sa S j3 j7 k)))]) hx hb dX2_agreement_79 hl (k := 7) rfl (by decide) rfl (fun ls hl => ?_)
                refine lv_goto (tgt := 24) hx hb dX2_agreement_82 (by decide) ?_
                have q20 : (nI (pm_bo S j3 j7 (k + 1)) : Int32) = nI (pm_bo S j3 j7 k) := (congrArg nI (by first | exact pm_num_p (decide_eq_true (by omega)) | exact pm_num_n (decide_eq_false (by omega))))
                have q21 : (nI (pm_sa S j3 j7 (k + 1)) : Int32) = nI (pm_sa S j3 j7 k) := (congrArg nI (by first | exact pm_num_p (decide_eq_true (by omega)) | exact pm_num_n (decide_eq_false (by omega))))
                exact ih9 (k + 1) ls (by omega) (by omega) (by rw [q20, q21]; exact lv_sub hl [3, 4, 5, 6, 7, 0] rfl) 
              · skip
                refine kx_iinc (a := (pm_bo S j3 j7 k)) (lv' := [(3, .int (nI (pm_bo S j3 j7 k + 1))), (7, .int (nI (pm_mk (S 4 k) j7))), (6, .int (nI (pm_mk (S 4 k) j3))), (0, .ref (q 0)), (1, .int (nI j3)), (2, .int (nI j7)), (4, .int (nI (pm_sa S j3 j7 k))), (5, .int (nI k))]) hx hb dX2_agreement_59 hl (k := 5) rfl (by decide) rfl (fun ls hl => ?_)
                refine lv_iload hx hb dX2_agreement_62 (lv_at hl 6 rfl) ?_
                refine lv_iload hx hb dX2_agreement_64 (lv_at hl 2 rfl) ?_
                refine lv_iload hx hb dX2_agreement_66 (lv_at hl 1 rfl) ?_
                refine kx_icmp_ne (tgt := 75) hx hb (by omega) (by omega) dX2_agreement_68 (by decide) (fun c22 => ?_) (fun c22 => ?_)
                · skip
                  refine lv_iconst (v := nI 0) hx hb dX2_agreement_75 (by decide) ?_
                  refine kx_iadd hx hb dX2_agreement_76 ?_
                  refine lv_istore (lv' := [(4, .int (nI ((pm_sa S j3 j7 k) + 0))), (3, .int (nI (pm_bo S j3 j7 k + 1))), (7, .int (nI (pm_mk (S 4 k) j7))), (6, .int (nI (pm_mk (S 4 k) j3))), (0, .ref (q 0)), (1, .int (nI j3)), (2, .int (nI j7)), (5, .int (nI k))]) hx hb dX2_agreement_77 hl (by decide) rfl (fun ls hl => ?_)
                  refine kx_iinc (a := k) (lv' := [(5, .int (nI (k + 1))), (4, .int (nI ((pm_sa S j3 j7 k) + 0))), (3, .int (nI (pm_bo S j3 j7 k + 1))), (7, .int (nI (pm_mk (S 4 k) j7))), (6, .int (nI (pm_mk (S 4 k) j3))), (0, .ref (q 0)), (1, .int (nI j3)), (2, .int (nI j7))]) hx hb dX2_agreement_79 hl (k := 7) rfl (by decide) rfl (fun ls hl => ?_)
                  refine lv_goto (tgt := 24) hx hb dX2_agreement_82 (by decide) ?_
                  have q23 : (nI (pm_bo S j3 j7 (k + 1)) : Int32) = nI (pm_bo S j3 j7 k + 1) := (congrArg nI (by first | exact pm_num_p (decide_eq_true (by omega)) | exact pm_num_n (decide_eq_false (by omega))))
                  have q24 : (nI (pm_sa S j3 j7 (k + 1)) : Int32) = nI ((pm_sa S j3 j7 k) + 0) := (congrArg nI (by first | exact pm_num_p (decide_eq_true (by omega)) | exact pm_num_n (decide_eq_false (by omega))))
                  exact ih9 (k + 1) ls (by omega) (by omega) (by rw [q23, q24]; exact lv_sub hl [5, 6, 7, 2, 1, 0] rfl) 
                · skip
                  refine lv_iconst (v := nI 1) hx hb dX2_agreement_71 (by decide) ?_
                  refine lv_goto (tgt := 76) hx hb dX2_agreement_72 (by decide) ?_
                  refine kx_iadd hx hb dX2_agreement_76 ?_
                  refine lv_istore (lv' := [(4, .int (nI ((pm_sa S j3 j7 k) + 1))), (3, .int (nI (pm_bo S j3 j7 k + 1))), (7, .int (nI (pm_mk (S 4 k) j7))), (6, .int (nI (pm_mk (S 4 k) j3))), (0, .ref (q 0)), (1, .int (nI j3)), (2, .int (nI j7)), (5, .int (nI k))]) hx hb dX2_agreement_77 hl (by decide) rfl (fun ls hl => ?_)
                  refine kx_iinc (a := k) (lv' := [(5, .int (nI (k + 1))), (4, .int (nI ((pm_sa S j3 j7 k) + 1))), (3, .int (nI (pm_bo S j3 j7 k + 1))), (7, .int (nI (pm_mk (S 4 k) j7))), (6, .int (nI (pm_mk (S 4 k) j3))), (0, .ref (q 0)), (1, .int (nI j3)), (2, .int (nI j7))]) hx hb dX2_agreement_79 hl (k := 7) rfl (by decide) rfl (fun ls hl => ?_)
                  refine lv_goto (tgt := 24) hx hb dX2_agreement_82 (by decide) ?_
                  have q25 : (nI (pm_bo S j3 j7 (k + 1)) : Int32) = nI (pm_bo S j3 j7 k + 1) := (congrArg nI (by first | exact pm_num_p (decide_eq_true (by omega)) | exact pm_num_n (decide_eq_false (by omega))))
                  have q26 : (nI (pm_sa S j3 j7 (k + 1)) : Int32) = nI ((pm_sa S j3 j7 k) + 1) := (congrArg nI (by first | exact pm_num_p (decide_eq_true (by omega)) | exact pm_num_n (decide_eq_false (by omega))))
                  exact ih9 (k + 1) ls (by omega) (by omega) (by rw [q25, q26]; exact lv_sub hl [5, 6, 7, 2, 1, 0] rfl) 
      exact LOOP24 (30 + 1) 0 ls (by omega) (by omega) (lv_sub hl [3, 4, 5, 2, 1, 0] rfl) 
    · skip
      refine lv_if_ne (tgt := 16) hx hb dX2_agreement_11 (by decide) (fun c27 => (c27 (by decide)).elim) (fun _ => ?_)
      refine lv_iconst (v := -1) hx hb dX2_agreement_14 (by decide) ?_
      exact W.iret hx hb hr (fun t ht _ => ⟨_, rfl, (by simp only [pm_agr, pm_ix_in hj3 (show (3 : Nat) < 2 ^ 31 by decide), pm_ix_out hnj7]), ht⟩) (fun _ h => absurd h List.not_mem_nil) dX2_agreement_15
  · skip
    refine lv_if_eq (tgt := 14) hx hb dX2_agreement_4 (by decide) (fun _ => ?_) (fun c28 => (c28 (by decide)).elim)
    refine lv_iconst (v := -1) hx hb dX2_agreement_14 (by decide) ?_
    exact W.iret hx hb hr (fun t ht _ => ⟨_, rfl, (by simp only [pm_agr, pm_ix_out hnj3]), ht⟩) (fun _ h => absurd h List.not_mem_nil) dX2_agreement_15

set_option maxHeartbeats 4000000 in
set_option maxRecDepth 100000 in
theorem k_X2_paperForChosen (l : Launch) (D : va_G) (y : Nat → ClassId) (q : Nat → Nat) (S : Nat → Nat → Nat) (hI : pm_Inv S) : Met l yX2_paperForChosen wsX2_paperForChosen ({ frames := 1, cells := 0, slots := 0, locals := 20 } : Room) (pm_ro D (pm_ty y) [.ref (q 0)] (pm_shS y q S)) (vp_Si (fun r : Int32 => r = nI (pm_pf S 30))) 0 0 (fun _ => False) := by
  refine Met.ofW (cc := cX2_paperForChosen) (maxL := 3) (ret := (some .int)) (by decide) rfl ?_
  intro p e s m args below meth c s₁ B hml hpre
  obtain ⟨rfl, hP, hK⟩ := hpre
  have hx := B.exec
  have hb := B.bytes
  have hr := B.returns
  have hts := atoms_spec (ws := wsX2_paperForChosen) B.pre
  have hown : s.vm.findClass RX2 = some m.cls := findClass_of_methodNamed B.named
  have hlocks := B.notSynchronized
  have hin2 : ∀ w ∈ u_ws RX2 TX2 15, w ∈ wsX2_paperForChosen := fun w h => List.mem_cons_of_mem _ (List.mem_append_right _ h)
  have hP : va_P D vwCl (pm_shS y q S) s.heap := hP
  have hl := lv_entry ([.ref (q 0)]) (n := 3) (Nat.le_of_ble_eq_true rfl)
  rw [lg_entry_eq]
  generalize (lg_sl ([.ref (q 0)]) ++ List.replicate (3 - (lg_sl ([.ref (q 0)])).length) Slot.unset).toArray = ls at hl ⊢
  have hl : lv_has ls 3 [(0, .ref (q 0))] := hl
  refine lv_iconst (v := nI 0) hx hb dX2_paperForChosen_0 (by decide) ?_
  refine lv_istore_n (lv' := [(1, .int (nI 0)), (0, .ref (q 0))]) hx hb dX2_paperForChosen_1 rfl hl (by decide) rfl (fun ls hl => ?_)
  refine lv_iconst (v := nI 0) hx hb dX2_paperForChosen_2 (by decide) ?_
  refine lv_istore_n (lv' := [(2, .int (nI 0)), (1, .int (nI 0)), (0, .ref (q 0))]) hx hb dX2_paperForChosen_3 rfl hl (by decide) rfl (fun ls hl => ?_)
  have LOOP4 : ∀ (n k : Nat) (ls : Array Slot), k ≤ 30 → 30 - k < n → lv_has ls 3 [(0, .ref (q 0)), (1, .int (nI (pm_pf S k))), (2, .int (nI k))] → W p l e (headSpec wsX2_paperForChosen ({ frames := 1, cells := 0, slots := 0, locals := 20 } : Room)).room s m ([.ref (q 0)] : List Value).toArray below meth c s.heap [] 0 0 (MQ below (vp_Si (fun r : Int32 => r = nI (pm_pf S 30))) ([.ref (q 0)] : List Value).toArray s 0 0 (fun _ => False)) (F0 m 4 ls []) := by
    intro n
    induction n with
    | zero => intro k _ hi hn; omega
    | succ n ih1 =>
      intro k ls hi_k hn_k hl 
      refine lv_iload_n hx hb dX2_paperForChosen_4 rfl (lv_at hl 2 rfl) ?_
      refine lv_bipush (v := nI 30) hx hb dX2_paperForChosen_5 (by decide) ?_
      refine kx_icmp_ge (tgt := 38) hx hb (by omega) (by decide) dX2_paperForChosen_7 (by decide) (fun c2 => ?_) (fun c2 => ?_)
      · skip
        refine lv_iload_n hx hb dX2_paperForChosen_38 rfl (lv_at hl 1 rfl) ?_
        exact W.iret hx hb hr (fun t ht _ => ⟨_, rfl, (by rw [show k = 30 by omega]), ht⟩) (fun _ h => absurd h List.not_mem_nil) dX2_paperForChosen_39
      · skip
        refine lv_aload_n hx hb dX2_paperForChosen_10 rfl (lv_at hl 0 rfl) ?_
        refine va_get (D := D) (ci := 2) (v := .ref (q 2)) (C := RX2) (T := TX2) (N := 15) hx hb hts hin2 hown hK hP 0 rfl rfl 1 (by decide) (hts (.fieldLink RX2 15 "ProofMarks$Sheet" "how" "[I") (List.mem_of_getElem? (i := 1) rfl)) (fun _ h9 => h9) rfl dX2_paperForChosen_11 ?_
        refine lv_iload_n hx hb dX2_paperForChosen_14 rfl (lv_at hl 2 rfl) ?_
        refine kx_iald (v := nI ((S 0) k)) hx hb hK hP 2 0 rfl rfl (by omega) (by decide) rfl dX2_paperForChosen_15 ?_
        have := hI.how k (by omega)
        refine lv_iconst (v := nI 1) hx hb dX2_paperForChosen_16 (by decide) ?_
        refine kx_icmp_ne (tgt := 32) hx hb (by omega) (by decide) dX2_paperForChosen_17 (by decide) (fun c3 => ?_) (fun c3 => ?_)
        · skip
          refine kx_iinc (a := k) (lv' := [(2, .int (nI (k + 1))), (0, .ref (q 0)), (1, .int (nI (pm_pf S k)))]) hx hb dX2_paperForChosen_32 hl (k := 2) rfl (by decide) rfl (fun ls hl => ?_)
          refine lv_goto (tgt := 4) hx hb dX2_paperForChosen_35 (by decide) ?_
          have q4 : (nI (pm_pf S (k + 1)) : Int32) = nI (pm_pf S k) := (congrArg nI (by first | exact pm_pf_p (by assumption) | exact pm_pf_n (by assumption)))
          exact ih1 (k + 1) ls (by omega) (by omega) (by rw [q4]; exact lv_sub hl [1, 2, 0] rfl) 
        · skip
          refine lv_iload_n hx hb dX2_paperForChosen_20 rfl (lv_at hl 1 rfl) ?_
          refine lv_aload_n hx hb dX2_paperForChosen_21 rfl (lv_at hl 0 rfl) ?_
          refine va_get (D := D) (ci := 2) (v := .ref (q 6)) (C := RX2) (T := TX2) (N := 15) hx hb hts hin2 hown hK hP 0 rfl rfl 5 (by decide) (hts (.fieldLink RX2 27 "ProofMarks$Sheet" "sizes" "[I") (List.mem_of_getElem? (i := 2) rfl)) (fun _ h9 => h9) rfl dX2_paperForChosen_22 ?_
          refine lv_iload_n hx hb dX2_paperForChosen_25 rfl (lv_at hl 2 rfl) ?_
          refine kx_iald (v := nI ((S 2) k)) hx hb hK hP 6 0 rfl rfl (by omega) (by decide) rfl dX2_paperForChosen_26 ?_
          have := hI.size k (by omega)
          refine vp_callSi (W.runS (As := [.int (nI ((S 2) k))]) (rest := [.int (nI (pm_pf S k))]) ⟨hx, hb, hml, hown, hts⟩ (k_X2_paperOf l ((S 2) k)) (va_cwS 1 hts gX2_paperForChosen_X2_paperOf rfl rfl rfl hd_X2_paperOf ⟨Nat.le_of_ble_eq_true rfl, Nat.le_of_ble_eq_true rfl⟩) ⟨pm_no_blind, pm_no_pre⟩ rfl rfl hl.1 rfl (lv_room (Nat.le_of_ble_eq_true rfl)) dX2_paperForChosen_27 ⟨Nat.le_of_ble_eq_true rfl, Nat.le_of_ble_eq_true rfl⟩) (fun r5 h6 => ?_)
          obtain rfl : r5 = nI (10 * ((S 2) k) * ((S 2) k)) := h6
          refine kx_iadd hx hb dX2_paperForChosen_30 ?_
          refine lv_istore_n (lv' := [(1, .int (nI ((pm_pf S k) + (10 * ((S 2) k) * ((S 2) k))))), (0, .ref (q 0)), (2, .int (nI k))]) hx hb dX2_paperForChosen_31 rfl hl (by decide) rfl (fun ls hl => ?_)
          refine kx_iinc (a := k) (lv' := [(2, .int (nI (k + 1))), (1, .int (nI ((pm_pf S k) + (10 * ((S 2) k) * ((S 2) k))))), (0, .ref (q 0))]) hx hb dX2_paperForChosen_32 hl (k := 2) rfl (by decide) rfl (fun ls hl => ?_)
          refine lv_goto (tgt := 4) hx hb dX2_paperForChosen_35 (by decide) ?_
          have q7 : (nI (pm_pf S (k + 1)) : Int32) = nI ((pm_pf S k) + (10 * ((S 2) k) * ((S 2) k))) := (congrArg nI (by first | exact pm_pf_p (by assumption) | exact pm_pf_n (by assumption)))
          exact ih1 (k + 1) ls (by omega) (by omega) (by rw [q7]; exact lv_sub hl [2, 1, 0] rfl) 
  exact LOOP4 (30 + 1) 0 ls (by omega) (by omega) (lv_sub hl [2, 1, 0] rfl) 

set_option maxHeartbeats 4000000 in
set_option maxRecDepth 100000 in
theorem k_X2_chosenAt (l : Launch) (D : va_G) (y : Nat → ClassId) (q : Nat → Nat) (S : Nat → Nat → Nat) (xk : Int32) (hI : pm_Inv S) : Met l yX2_chosenAt wsX2_chosenAt ({ frames := 1, cells := 0, slots := 0, locals := 21 } : Room) (pm_ro D (pm_ty y) [.ref (q 0), .int xk] (pm_shS y q S)) (vp_Si (fun r : Int32 => pm_isch S xk r)) 0 0 (fun _ => False) := by
  refine Met.ofW (cc := cX2_chosenAt) (maxL := 5) (ret := (some .int)) (by decide) rfl ?_
  intro p e s m args below meth c s₁ B hml hpre
  obtain ⟨rfl, hP, hK⟩ := hpre
  have hx := B.exec
  have hb := B.bytes
  have hr := B.returns
  have hts := atoms_spec (ws := wsX2_chosenAt) B.pre
  have hown : s.vm.findClass RX2 = some m.cls := findClass_of_methodNamed B.named
  have hlocks := B.notSynchronized
  have hin2 : ∀ w ∈ u_ws RX2 TX2 15, w ∈ wsX2_chosenAt := fun w h => List.mem_cons_of_mem _ (List.mem_append_right _ h)
  have hP : va_P D vwCl (pm_shS y q S) s.heap := hP
  have hl := lv_entry ([.ref (q 0), .int xk]) (n := 5) (Nat.le_of_ble_eq_true rfl)
  rw [lg_entry_eq]
  generalize (lg_sl ([.ref (q 0), .int xk]) ++ List.replicate (5 - (lg_sl ([.ref (q 0), .int xk])).length) Slot.unset).toArray = ls at hl ⊢
  have hl : lv_has ls 5 [(0, .ref (q 0)), (1, .int xk)] := hl
  refine lv_iload_n hx hb dX2_chosenAt_0 rfl (lv_at hl 1 rfl) ?_
  refine lv_if_ge (tgt := 6) hx hb dX2_chosenAt_1 (by decide) (fun c1 => ?_) (fun c1 => ?_)
  · skip
    refine lv_iconst (v := nI 0) hx hb dX2_chosenAt_6 (by decide) ?_
    refine lv_istore_n (lv' := [(2, .int (nI 0)), (0, .ref (q 0)), (1, .int xk)]) hx hb dX2_chosenAt_7 rfl hl (by decide) rfl (fun ls hl => ?_)
    refine lv_iconst (v := nI 0) hx hb dX2_chosenAt_8 (by decide) ?_
    refine lv_istore_n (lv' := [(3, .int (nI 0)), (2, .int (nI 0)), (0, .ref (q 0)), (1, .int xk)]) hx hb dX2_chosenAt_9 rfl hl (by decide) rfl (fun ls hl => ?_)
    have LOOP10 : ∀ (n rr : Nat) (ls : Array Slot), rr ≤ S 10 0 → S 10 0 - rr < n → lv_has ls 5 [(0, .ref (q 0)), (1, .int xk), (2, .int (nI (pm_A S rr 30))), (3, .int (nI rr))] → (∀ k, k < 30 → (S 0 k = 1 ∨ S 0 k = 3) → S 3 k ≤ rr → ¬ xk = nI (pm_ahd S k)) → W p l e (headSpec wsX2_chosenAt ({ frames := 1, cells := 0, slots := 0, locals := 21 } : Room)).room s m ([.ref (q 0), .int xk] : List Value).toArray below meth c s.heap [] 0 0 (MQ below (vp_Si (fun r : Int32 => pm_isch S xk r)) ([.ref (q 0), .int xk] : List Value).toArray s 0 0 (fun _ => False)) (F0 m 10 ls []) := by
      intro n
      induction n with
      | zero => intro rr _ hi hn; omega
      | succ n ih2 =>
        intro rr ls hi_rr hn_rr hl hh10_0
        have := hI.rnd
        refine lv_iload_n hx hb dX2_chosenAt_10 rfl (lv_at hl 3 rfl) ?_
        refine lv_aload_n hx hb dX2_chosenAt_11 rfl (lv_at hl 0 rfl) ?_
        refine va_get (D := D) (ci := 2) (v := .int (nI (S 10 0))) (C := RX2) (T := TX2) (N := 15) hx hb hts hin2 hown hK hP 0 rfl rfl 12 (by decide) (hts (.fieldLink RX2 48 "ProofMarks$Sheet" "rounds" "I") (List.mem_of_getElem? (i := 1) rfl)) (fun _ h9 => h9) rfl dX2_chosenAt_12 ?_
        have := hI.rnd
        refine kx_icmp_ge (tgt := 71) hx hb (by omega) (by omega) dX2_chosenAt_15 (by decide) (fun c3 => ?_) (fun c3 => ?_)
        · skip
          refine lv_iconst (v := -1) hx hb dX2_chosenAt_71 (by decide) ?_
          exact W.iret hx hb hr (fun t ht _ => ⟨_, rfl, (Or.inr ⟨fun k hk pk => hh10_0 k hk pk (Nat.le_trans (hI.chi k hk) (by omega)), rfl⟩), ht⟩) (fun _ h => absurd h List.not_mem_nil) dX2_chosenAt_72
        · skip
          refine lv_iconst (v := nI 0) hx hb dX2_chosenAt_18 (by decide) ?_
          refine lv_istore (lv' := [(4, .int (nI 0)), (0, .ref (q 0)), (1, .int xk), (2, .int (nI (pm_A S rr 30))), (3, .int (nI rr))]) hx hb dX2_chosenAt_19 hl (by decide) rfl (fun ls hl => ?_)
          have LOOP21 : ∀ (n ff : Nat) (ls : Array Slot), ff ≤ 30 → 30 - ff < n → lv_has ls 5 [(0, .ref (q 0)), (1, .int xk), (2, .int (nI (pm_A S rr 30 + pm_B S rr ff))), (3, .int (nI rr)), (4, .int (nI ff))] → (∀ k, k < ff → (S 0 k = 1 ∨ S 0 k = 3) → S 3 k = rr + 1 → ¬ xk = nI (pm_ahd S k)) → W p l e (headSpec wsX2_chosenAt ({ frames := 1, cells := 0, slots := 0, locals := 21 } : Room)).room s m ([.ref (q 0), .int xk] : List Value).toArray below meth c s.heap [] 0 0 (MQ below (vp_Si (fun r : Int32 => pm_isch S xk r)) ([.ref (q 0), .int xk] : List Value).toArray s 0 0 (fun _ => False)) (F0 m 21 ls []) := by
            intro n
            induction n with
            | zero => intro ff _ hi hn; omega
            | succ n ih4 =>
              intro ff ls hi_ff hn_ff hl hh21_0
              refine lv_iload hx hb dX2_chosenAt_21 (lv_at hl 4 rfl) ?_
              refine lv_bipush (v := nI 30) hx hb dX2_chosenAt_23 (by decide) ?_
              refine kx_icmp_ge (tgt := 65) hx hb (by omega) (by decide) dX2_chosenAt_25 (by decide) (fun c5 => ?_) (fun c5 => ?_)
              · skip
                refine kx_iinc (a := rr) (lv' := [(3, .int (nI (rr + 1))), (0, .ref (q 0)), (1, .int xk), (2, .int (nI (pm_A S rr 30 + pm_B S rr ff))), (4, .int (nI ff))]) hx hb dX2_chosenAt_65 hl (k := 3) rfl (by decide) rfl (fun ls hl => ?_)
                refine lv_goto (tgt := 10) hx hb dX2_chosenAt_68 (by decide) ?_
                have q6 : (nI (pm_A S (rr + 1) 30) : Int32) = nI (pm_A S rr 30 + pm_B S rr ff) := (by rw [show ff = 30 by omega, pm_AB])
                exact ih2 (rr + 1) ls (by omega) (by omega) (by rw [q6]; exact lv_sub hl [1, 2, 3, 0] rfl) (fun k hk pk h9 => (show S 3 k ≤ rr ∨ S 3 k = rr + 1 by omega).elim (fun z => hh10_0 k hk pk z) (fun z => hh21_0 k (by omega) pk z))
              · skip
                refine lv_aload_n hx hb dX2_chosenAt_28 rfl (lv_at hl 0 rfl) ?_
                refine lv_iload hx hb dX2_chosenAt_29 (lv_at hl 4 rfl) ?_
                refine vp_callSi (W.runV (As := [.int (nI ff)]) (rest := []) ⟨hx, hb, hml, hown, hts⟩ (k_X2_isPicked l D y q S ff hI (by omega)) (cwV 1 hts gX2_chosenAt_X2_isPicked rfl rfl rfl hd_X2_isPicked ⟨Nat.le_of_ble_eq_true rfl, Nat.le_of_ble_eq_true rfl⟩) ⟨pm_ro_blind, va_recv hK hP (ci := 2) (q0 := 0) rfl rfl, pm_ro_pre hP hK⟩ rfl rfl hl.1 rfl (lv_room (Nat.le_of_ble_eq_true rfl)) dX2_chosenAt_31 ⟨Nat.le_of_ble_eq_true rfl, Nat.le_of_ble_eq_true rfl⟩) (fun r7 h8 => ?_)
                rcases (show ((S 0 ff = 1 ∨ S 0 ff = 3) ∧ r7 = nI 1) ∨ (¬ (S 0 ff = 1 ∨ S 0 ff = 3) ∧ r7 = nI 0) from h8) with ⟨hp9, rfl⟩ | ⟨hp9, rfl⟩
                · skip
                  refine lv_if_eq (tgt := 59) hx hb dX2_chosenAt_34 (by decide) (fun c10 => absurd c10 (by decide)) (fun _ => ?_)
                  refine lv_aload_n hx hb dX2_chosenAt_37 rfl (lv_at hl 0 rfl) ?_
                  refine va_get (D := D) (ci := 2) (v := .ref (q 7)) (C := RX2) (T := TX2) (N := 15) hx hb hts hin2 hown hK hP 0 rfl rfl 6 (by decide) (hts (.fieldLink RX2 30 "ProofMarks$Sheet" "chosenIn" "[I") (List.mem_of_getElem? (i := 2) rfl)) (fun _ h9 => h9) rfl dX2_chosenAt_38 ?_
                  refine lv_iload hx hb dX2_chosenAt_41 (lv_at hl 4 rfl) ?_
                  refine kx_iald (v := pm_ci ((S 3) ff)) hx hb hK hP 7 0 rfl rfl (by omega) (by decide) rfl dX2_chosenAt_43 ?_
                  have := hI.pick ff (by omega) hp9
                  have := hI.chi ff (by omega)
                  refine lv_topi (fun x11 e12 => ?_)
                  obtain rfl : x11 = nI (S 3 ff - 1) := e12.trans (pm_ci_p (hI.pick ff (by omega) hp9))
                  refine lv_iload_n hx hb dX2_chosenAt_44 rfl (lv_at hl 3 rfl) ?_
                  refine kx_icmp_ne (tgt := 59) hx hb (by omega) (by omega) dX2_chosenAt_45 (by decide) (fun c13 => ?_) (fun c13 => ?_)
                  · skip
                    refine kx_iinc (a := ff) (lv' := [(4, .int (nI (ff + 1))), (0, .ref (q 0)), (1, .int xk), (2, .int (nI (pm_A S rr 30 + pm_B S rr ff))), (3, .int (nI rr))]) hx hb dX2_chosenAt_59 hl (k := 4) rfl (by decide) rfl (fun ls hl => ?_)
                    refine lv_goto (tgt := 21) hx hb dX2_chosenAt_62 (by decide) ?_
                    have q14 : (nI (pm_A S rr 30 + pm_B S rr (ff + 1)) : Int32) = nI (pm_A S rr 30 + pm_B S rr ff) := (congrArg nI (by have h9 := hI.pick ff (by omega); first | (have e9 : pm_B S rr (ff + 1) = pm_B S rr ff + 1 := pm_num_p (decide_eq_true ⟨pm_pk_t (by assumption), by omega⟩); omega) | (have e9 : pm_B S rr (ff + 1) = pm_B S rr ff + 0 := pm_num_n (decide_eq_false (fun z => absurd (pm_pk_i.mp z.1) (by assumption))); omega) | (have e9 : pm_B S rr (ff + 1) = pm_B S rr ff + 0 := pm_num_n (decide_eq_false (fun z => by omega)); omega)))
                    exact ih4 (ff + 1) ls (by omega) (by omega) (by rw [q14]; exact lv_sub hl [1, 2, 3, 4, 0] rfl) (fun k hk pk h9 => by
                            rcases (show k < ff ∨ k = ff by omega) with z | rfl
                            · exact hh21_0 k z pk h9
                            · first | exact absurd pk (by assumption) | (exfalso; omega) | (rw [pm_ahd_at (by omega) h9]; exact fun z => (by assumption : ¬ nI _ = xk) z.symm))
                  · skip
                    refine lv_iload_n hx hb dX2_chosenAt_48 rfl (lv_at hl 2 rfl) ?_
                    refine lv_iload_n hx hb dX2_chosenAt_49 rfl (lv_at hl 1 rfl) ?_
                    refine lv_icmp_ne (tgt := 56) hx hb dX2_chosenAt_50 (by decide) (fun c15 => ?_) (fun c15 => ?_)
                    · skip
                      refine kx_iinc (a := (pm_A S rr 30 + pm_B S rr ff)) (lv' := [(2, .int (nI (pm_A S rr 30 + pm_B S rr ff + 1))), (0, .ref (q 0)), (1, .int xk), (3, .int (nI rr)), (4, .int (nI ff))]) hx hb dX2_chosenAt_56 hl (k := 2) rfl (by decide) rfl (fun ls hl => ?_)
                      refine kx_iinc (a := ff) (lv' := [(4, .int (nI (ff + 1))), (2, .int (nI (pm_A S rr 30 + pm_B S rr ff + 1))), (0, .ref (q 0)), (1, .int xk), (3, .int (nI rr))]) hx hb dX2_chosenAt_59 hl (k := 4) rfl (by decide) rfl (fun ls hl => ?_)
                      refine lv_goto (tgt := 21) hx hb dX2_chosenAt_62 (by decide) ?_
                      have q16 : (nI (pm_A S rr 30 + pm_B S rr (ff + 1)) : Int32) = nI (pm_A S rr 30 + pm_B S rr ff + 1) := (congrArg nI (by have h9 := hI.pick ff (by omega); first | (have e9 : pm_B S rr (ff + 1) = pm_B S rr ff + 1 := pm_num_p (decide_eq_true ⟨pm_pk_t (by assumption), by omega⟩); omega) | (have e9 : pm_B S rr (ff + 1) = pm_B S rr ff + 0 := pm_num_n (decide_eq_false (fun z => absurd (pm_pk_i.mp z.1) (by assumption))); omega) | (have e9 : pm_B S rr (ff + 1) = pm_B S rr ff + 0 := pm_num_n (decide_eq_false (fun z => by omega)); omega)))
                      exact ih4 (ff + 1) ls (by omega) (by omega) (by rw [q16]; exact lv_sub hl [2, 3, 1, 4, 0] rfl) (fun k hk pk h9 => by
                              rcases (show k < ff ∨ k = ff by omega) with z | rfl
                              · exact hh21_0 k z pk h9
                              · first | exact absurd pk (by assumption) | (exfalso; omega) | (rw [pm_ahd_at (by omega) h9]; exact fun z => (by assumption : ¬ nI _ = xk) z.symm))
                    · skip
                      refine lv_iload hx hb dX2_chosenAt_53 (lv_at hl 4 rfl) ?_
                      exact W.iret hx hb hr (fun t ht _ => ⟨_, rfl, (Or.inl ⟨ff, by omega, hp9, (‹nI _ = xk›).symm.trans (congrArg nI (pm_ahd_at (by omega) (by omega)).symm), rfl⟩), ht⟩) (fun _ h => absurd h List.not_mem_nil) dX2_chosenAt_55
                · skip
                  refine lv_if_eq (tgt := 59) hx hb dX2_chosenAt_34 (by decide) (fun _ => ?_) (fun c17 => (c17 (by decide)).elim)
                  refine kx_iinc (a := ff) (lv' := [(4, .int (nI (ff + 1))), (0, .ref (q 0)), (1, .int xk), (2, .int (nI (pm_A S rr 30 + pm_B S rr ff))), (3, .int (nI rr))]) hx hb dX2_chosenAt_59 hl (k := 4) rfl (by decide) rfl (fun ls hl => ?_)
                  refine lv_goto (tgt := 21) hx hb dX2_chosenAt_62 (by decide) ?_
                  have q18 : (nI (pm_A S rr 30 + pm_B S rr (ff + 1)) : Int32) = nI (pm_A S rr 30 + pm_B S rr ff) := (congrArg nI (by have h9 := hI.pick ff (by omega); first | (have e9 : pm_B S rr (ff + 1) = pm_B S rr ff + 1 := pm_num_p (decide_eq_true ⟨pm_pk_t (by assumption), by omega⟩); omega) | (have e9 : pm_B S rr (ff + 1) = pm_B S rr ff + 0 := pm_num_n (decide_eq_false (fun z => absurd (pm_pk_i.mp z.1) (by assumption))); omega) | (have e9 : pm_B S rr (ff + 1) = pm_B S rr ff + 0 := pm_num_n (decide_eq_false (fun z => by omega)); omega)))
                  exact ih4 (ff + 1) ls (by omega) (by omega) (by rw [q18]; exact lv_sub hl [1, 2, 3, 4, 0] rfl) (fun k hk pk h9 => by
                          rcases (show k < ff ∨ k = ff by omega) with z | rfl
                          · exact hh21_0 k z pk h9
                          · first | exact absurd pk (by assumption) | (exfalso; omega) | (rw [pm_ahd_at (by omega) h9]; exact fun z => (by assumption : ¬ nI _ = xk) z.symm))
          exact LOOP21 (30 + 1) 0 ls (by omega) (by omega) (lv_sub hl [1, 2, 3, 4, 0] rfl) (fun k hk _ _ => absurd hk (Nat.not_lt_zero k))
    exact LOOP10 (S 10 0 + 1) 0 ls (by omega) (by omega) (by rw [pm_A0 hI]; exact lv_sub hl [2, 3, 1, 0] rfl) (fun k hk pk h9 => by have := hI.pick k hk pk; omega)
  · skip
    refine lv_iconst (v := -1) hx hb dX2_chosenAt_4 (by decide) ?_
    exact W.iret hx hb hr (fun t ht _ => ⟨_, rfl, (Or.inr ⟨fun k hk _ e => absurd ((e ▸ nI_pos (show pm_ahd S k < 2 ^ 31 from Nat.lt_of_le_of_lt (pm_ahd_le S k) (by decide)) : ¬ xk < 0)) (fun z => z (Int32.not_le.mp ‹_›)), rfl⟩), ht⟩) (fun _ h => absurd h List.not_mem_nil) dX2_chosenAt_5

