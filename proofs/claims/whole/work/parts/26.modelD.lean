theorem pm_vl1 {a b : Nat} (ha : a < 2 ^ 30) (hb : b < 2 ^ 30) (h : 0 ≤ nI a - nI b) : nI a - nI b = nI (a - b) := by
  by_cases c : a < b
  · exact absurd (pk_sneg hb c) (Int32.not_lt.mpr h)
  · exact pk_sub (by omega)
theorem pm_vl0 {a b : Nat} (ha : a < 2 ^ 30) (hb : b < 2 ^ 30) (h : ¬ 0 ≤ nI a - nI b) : nI 0 = nI (a - b) := by
  by_cases c : a < b
  · rw [show a - b = 0 by omega]
  · rw [pk_sub (by omega)] at h
    exact absurd (nI_pos' (by omega)) h
set_option maxHeartbeats 4000000 in
set_option maxRecDepth 100000 in
theorem k_X4_vetoesLeft (l : Launch) (D : va_G) (y : Nat → ClassId) (q : Nat → Nat) (S : Nat → Nat → Nat) (gp gs : Nat → Int32) (kn ln : Nat) (sv pd : Nat → Nat) (i : Nat) (hI : pm_Inv S) (hi : i < 3) : Met l yX4_vetoesLeft wsX4_vetoesLeft ({ frames := 3, cells := 0, slots := 0, locals := 67 } : Room) (pm_ro D (pm_ty y) [.ref (q 0), .int (nI i)] (pm_mo y q S gp gs kn ln sv pd)) (vp_Si (fun r : Int32 => r = nI (S 9 1 - pm_cnt S i 2 30))) 0 0 (fun _ => False) := by
  refine Met.ofW (cc := cX4_vetoesLeft) (maxL := 3) (ret := (some .int)) (by decide) rfl ?_
  intro p e s m args below meth c s₁ B hml hpre
  obtain ⟨rfl, hP, hK⟩ := hpre
  have hx := B.exec
  have hb := B.bytes
  have hr := B.returns
  have hts := atoms_spec (ws := wsX4_vetoesLeft) B.pre
  have hown : s.vm.findClass RX4 = some m.cls := findClass_of_methodNamed B.named
  have hlocks := B.notSynchronized
  have hin4 : ∀ w ∈ u_ws RX4 TX4 7, w ∈ wsX4_vetoesLeft := fun w h => List.mem_cons_of_mem _ (List.mem_append_right _ h)
  have hP : va_P D vwCl (pm_mo y q S gp gs kn ln sv pd) s.heap := hP
  have hl := lv_entry ([.ref (q 0), .int (nI i)]) (n := 3) (Nat.le_of_ble_eq_true rfl)
  rw [lg_entry_eq]
  generalize (lg_sl ([.ref (q 0), .int (nI i)]) ++ List.replicate (3 - (lg_sl ([.ref (q 0), .int (nI i)])).length) Slot.unset).toArray = ls at hl ⊢
  have hl : lv_has ls 3 [(0, .ref (q 0)), (1, .int (nI i))] := hl
  refine lv_aload_n hx hb dX4_vetoesLeft_0 rfl (lv_at hl 0 rfl) ?_
  refine va_get (D := D) (ci := 4) (v := .ref (q 1)) (C := RX4) (T := TX4) (N := 7) hx hb hts hin4 hown hK hP 0 rfl rfl 0 (by decide) (hts (.fieldLink RX4 7 "ProofMarksModel" "s" "[I") (List.mem_of_getElem? (i := 1) rfl)) (fun _ h9 => h9) rfl dX4_vetoesLeft_1 ?_
  refine lv_sipush (v := nI 163) hx hb dX4_vetoesLeft_4 (by decide) ?_
  refine kx_iald (v := nI (S 9 1)) hx hb hK hP 1 0 rfl rfl (by omega) (by decide) (pm_ms_s (S := S) (k := 1) (by omega)) dX4_vetoesLeft_7 ?_
  have := hI.set9 1 (by omega)
  refine lv_aload_n hx hb dX4_vetoesLeft_8 rfl (lv_at hl 0 rfl) ?_
  refine lv_iload_n hx hb dX4_vetoesLeft_9 rfl (lv_at hl 1 rfl) ?_
  refine lv_iconst (v := nI 2) hx hb dX4_vetoesLeft_10 (by decide) ?_
  refine vp_callSi (W.runV (As := [.int (nI i), .int (nI 2)]) (rest := [.int (nI (S 9 1))]) ⟨hx, hb, hml, hown, hts⟩ (k_X4_marked l D y q S gp gs kn ln sv pd i 2 hI (by omega) (by omega)) (cwV 2 hts gX4_vetoesLeft_X4_marked rfl rfl rfl hd_X4_marked ⟨Nat.le_of_ble_eq_true rfl, Nat.le_of_ble_eq_true rfl⟩) ⟨pm_ro_blind, va_recv hK hP (ci := 4) (q0 := 0) rfl rfl, pm_ro_pre hP hK⟩ rfl rfl hl.1 rfl (lv_room (Nat.le_of_ble_eq_true rfl)) dX4_vetoesLeft_11 ⟨Nat.le_of_ble_eq_true rfl, Nat.le_of_ble_eq_true rfl⟩) (fun r1 h2 => ?_)
  obtain rfl : r1 = nI (pm_cnt S i 2 30) := h2
  have := pm_cnt_le S i 2 30
  refine lv_isub hx hb dX4_vetoesLeft_14 ?_
  refine lv_istore_n (lv' := [(2, .int ((nI (S 9 1)) - (nI (pm_cnt S i 2 30)))), (0, .ref (q 0)), (1, .int (nI i))]) hx hb dX4_vetoesLeft_15 rfl hl (by decide) rfl (fun ls hl => ?_)
  refine lv_iload_n hx hb dX4_vetoesLeft_16 rfl (lv_at hl 0 rfl) ?_
  refine lv_if_ge (tgt := 24) hx hb dX4_vetoesLeft_17 (by decide) (fun c3 => ?_) (fun c3 => ?_)
  · skip
    refine lv_iload_n hx hb dX4_vetoesLeft_24 rfl (lv_at hl 0 rfl) ?_
    exact W.iret hx hb hr (fun t ht _ => ⟨_, rfl, (by first | exact pm_vl1 (by omega) (by omega) (by assumption) | exact pm_vl0 (by omega) (by omega) (by assumption)), ht⟩) (fun _ h => absurd h List.not_mem_nil) dX4_vetoesLeft_25
  · skip
    refine lv_iconst (v := nI 0) hx hb dX4_vetoesLeft_20 (by decide) ?_
    refine lv_goto (tgt := 25) hx hb dX4_vetoesLeft_21 (by decide) ?_
    exact W.iret hx hb hr (fun t ht _ => ⟨_, rfl, (by first | exact pm_vl1 (by omega) (by omega) (by assumption) | exact pm_vl0 (by omega) (by omega) (by assumption)), ht⟩) (fun _ h => absurd h List.not_mem_nil) dX4_vetoesLeft_25

theorem pm_ci_of0 {x : Nat} (hx : x < 2 ^ 31) (h : ¬ 0 ≤ pm_rm x) : (-6 : Int32) = pm_ci x := by
  by_cases c : x = 0
  · rw [pm_ci, if_pos c]
  · exfalso
    obtain ⟨b, rfl⟩ : ∃ b, x = b + 1 := ⟨x - 1, by omega⟩
    apply h
    rw [pm_rm, nI_pred]
    exact nI_pos' (by omega)
theorem pm_ci_of1 {x : Nat} (hx : x < 2 ^ 31) (h : 0 ≤ pm_rm x) : pm_rm x = pm_ci x := by
  by_cases c : x = 0
  · subst c
    exact absurd h (by decide)
  · obtain ⟨b, rfl⟩ : ∃ b, x = b + 1 := ⟨x - 1, by omega⟩
    rw [pm_ci_p (by omega), pm_rm, nI_pred]
    rfl
set_option maxHeartbeats 4000000 in
set_option maxRecDepth 100000 in
theorem k_X4_of (l : Launch) (D : va_G) (y : Nat → ClassId) (q : Nat → Nat) (S : Nat → Nat → Nat) (gp gs : Nat → Int32) (kn ln : Nat) (sv pd : Nat → Nat) (xf xw : Int32) (hI : pm_Inv S) : Met l yX4_of wsX4_of ({ frames := 3, cells := 0, slots := 0, locals := 67 } : Room) (pm_ro D (pm_ty y) [.ref (q 0), .int xf, .int xw] (pm_mo y q S gp gs kn ln sv pd)) (vp_Si (fun r : Int32 => r = pm_of S xf xw)) 0 0 (fun _ => False) := by
  refine Met.ofW (cc := cX4_of) (maxL := 3) (ret := (some .int)) (by decide) rfl ?_
  intro p e s m args below meth c s₁ B hml hpre
  obtain ⟨rfl, hP, hK⟩ := hpre
  have hx := B.exec
  have hb := B.bytes
  have hr := B.returns
  have hts := atoms_spec (ws := wsX4_of) B.pre
  have hown : s.vm.findClass RX4 = some m.cls := findClass_of_methodNamed B.named
  have hlocks := B.notSynchronized
  have hin4 : ∀ w ∈ u_ws RX4 TX4 7, w ∈ wsX4_of := fun w h => List.mem_cons_of_mem _ (List.mem_append_right _ h)
  have hP : va_P D vwCl (pm_mo y q S gp gs kn ln sv pd) s.heap := hP
  have hl := lv_entry ([.ref (q 0), .int xf, .int xw]) (n := 3) (Nat.le_of_ble_eq_true rfl)
  rw [lg_entry_eq]
  generalize (lg_sl ([.ref (q 0), .int xf, .int xw]) ++ List.replicate (3 - (lg_sl ([.ref (q 0), .int xf, .int xw])).length) Slot.unset).toArray = ls at hl ⊢
  have hl : lv_has ls 3 [(0, .ref (q 0)), (1, .int xf), (2, .int xw)] := hl
  refine lv_iload_n hx hb dX4_of_0 rfl (lv_at hl 1 rfl) ?_
  refine vp_callSi (W.runS (As := [.int xf]) (rest := []) ⟨hx, hb, hml, hown, hts⟩ (k_X4_isFrame l xf) (va_cwS 1 hts gX4_of_X4_isFrame rfl rfl rfl hd_X4_isFrame ⟨Nat.le_of_ble_eq_true rfl, Nat.le_of_ble_eq_true rfl⟩) ⟨pm_no_blind, pm_no_pre⟩ rfl rfl hl.1 rfl (lv_room (Nat.le_of_ble_eq_true rfl)) dX4_of_1 ⟨Nat.le_of_ble_eq_true rfl, Nat.le_of_ble_eq_true rfl⟩) (fun r1 h2 => ?_)
  rcases h2 with ⟨j3, hj3, ej3, rfl⟩ | ⟨hnj3, rfl⟩
  · subst ej3
    refine lv_if_ne (tgt := 9) hx hb dX4_of_4 (by decide) (fun _ => ?_) (fun c4 => absurd c4 (by decide))
    refine lv_iload_n hx hb dX4_of_9 rfl (lv_at hl 2 rfl) ?_
    have hsw5 : (xw < 0 ∨ nI 6 ≤ xw) ∨ xw = nI 0 ∨ xw = nI 1 ∨ xw = nI 2 ∨ xw = nI 3 ∨ xw = nI 4 ∨ xw = nI 5 := by
      rcases pm_cases xw (n := 6) (by decide) with h | ⟨j, hj, rfl⟩
      · exact Or.inl h
      · rcases (show j = 0 ∨ j = 1 ∨ j = 2 ∨ j = 3 ∨ j = 4 ∨ j = 5 by omega) with rfl | rfl | rfl | rfl | rfl | rfl <;> simp
    rcases hsw5 with hw | rfl | rfl | rfl | rfl | rfl | rfl
    · skip
      refine lv_tableOut (tgt := 117) hx hb dX4_of_10 (pm_swout (n := 5) (by decide) hw) (by decide) ?_
      refine lv_bipush (v := (-2)) hx hb dX4_of_117 (by decide) ?_
      exact W.iret hx hb hr (fun t ht _ => ⟨_, rfl, (by simp only [pm_of, pm_ix_in hj3 (show (30 : Nat) < 2 ^ 31 by decide), pm_ix_out hw]), ht⟩) (fun _ h => absurd h List.not_mem_nil) dX4_of_119
    · skip
      refine lv_tableIn (off := 38) (tgt := 48) hx hb dX4_of_10 (by decide) (by decide) (by decide) (by decide) ?_
      refine lv_aload_n hx hb dX4_of_48 rfl (lv_at hl 0 rfl) ?_
      refine va_get (D := D) (ci := 4) (v := .ref (q 1)) (C := RX4) (T := TX4) (N := 7) hx hb hts hin4 hown hK hP 0 rfl rfl 0 (by decide) (hts (.fieldLink RX4 7 "ProofMarksModel" "s" "[I") (List.mem_of_getElem? (i := 1) rfl)) (fun _ h9 => h9) rfl dX4_of_49 ?_
      refine lv_iload_n hx hb dX4_of_52 rfl (lv_at hl 1 rfl) ?_
      refine lv_iconst (v := nI 0) hx hb dX4_of_53 (by decide) ?_
      refine vp_callSi (W.runS (As := [.int (nI j3), .int (nI 0)]) (rest := [.ref (q 1)]) ⟨hx, hb, hml, hown, hts⟩ (k_X4_at l j3 0) (va_cwS 2 hts gX4_of_X4_at rfl rfl rfl hd_X4_at ⟨Nat.le_of_ble_eq_true rfl, Nat.le_of_ble_eq_true rfl⟩) ⟨pm_no_blind, pm_no_pre⟩ rfl rfl hl.1 rfl (lv_room (Nat.le_of_ble_eq_true rfl)) dX4_of_54 ⟨Nat.le_of_ble_eq_true rfl, Nat.le_of_ble_eq_true rfl⟩) (fun r6 h7 => ?_)
      obtain rfl : r6 = nI (5 * j3 + 0) := h7
      refine kx_iald (v := nI (S 0 j3)) hx hb hK hP 1 0 rfl rfl (by omega) (by decide) (pm_ms_f (S := S) (f := j3) 0 (by decide) (by decide) (by omega)) dX4_of_57 ?_
      have := hI.how j3 (by omega)
      exact W.iret hx hb hr (fun t ht _ => ⟨_, rfl, (by simp only [pm_of, pm_ix_in hj3 (show (30 : Nat) < 2 ^ 31 by decide), pm_ix_in (show (0 : Nat) < 6 by decide) (show (6 : Nat) < 2 ^ 31 by decide)]), ht⟩) (fun _ h => absurd h List.not_mem_nil) dX4_of_58
    · skip
      refine lv_tableIn (off := 49) (tgt := 59) hx hb dX4_of_10 (by decide) (by decide) (by decide) (by decide) ?_
      refine lv_aload_n hx hb dX4_of_59 rfl (lv_at hl 0 rfl) ?_
      refine lv_iload_n hx hb dX4_of_60 rfl (lv_at hl 1 rfl) ?_
      refine lv_iload_n hx hb dX4_of_61 rfl (lv_at hl 2 rfl) ?_
      refine vp_callSi (W.runV (As := [.int (nI j3), .int (nI 1)]) (rest := []) ⟨hx, hb, hml, hown, hts⟩ (k_X4_withMark l D y q S gp gs kn ln sv pd j3 1 (hI.okm j3 (by omega)) (by omega) (by decide)) (cwV 2 hts gX4_of_X4_withMark rfl rfl rfl hd_X4_withMark ⟨Nat.le_of_ble_eq_true rfl, Nat.le_of_ble_eq_true rfl⟩) ⟨pm_ro_blind, va_recv hK hP (ci := 4) (q0 := 0) rfl rfl, pm_ro_pre hP hK⟩ rfl rfl hl.1 rfl (lv_room (Nat.le_of_ble_eq_true rfl)) dX4_of_62 ⟨Nat.le_of_ble_eq_true rfl, Nat.le_of_ble_eq_true rfl⟩) (fun r8 h9 => ?_)
      obtain rfl : r8 = nI (pm_tk (S 4 j3)) := (show r8 = nI (pm_wm (S 4 j3) 1 3) from h9).trans (congrArg nI (pm_wm_tk _))
      have := pm_tk8 (S 4 j3)
      exact W.iret hx hb hr (fun t ht _ => ⟨_, rfl, (by simp only [pm_of, pm_ix_in hj3 (show (30 : Nat) < 2 ^ 31 by decide), pm_ix_in (show (1 : Nat) < 6 by decide) (show (6 : Nat) < 2 ^ 31 by decide)]), ht⟩) (fun _ h => absurd h List.not_mem_nil) dX4_of_65
    · skip
      refine lv_tableIn (off := 49) (tgt := 59) hx hb dX4_of_10 (by decide) (by decide) (by decide) (by decide) ?_
      refine lv_aload_n hx hb dX4_of_59 rfl (lv_at hl 0 rfl) ?_
      refine lv_iload_n hx hb dX4_of_60 rfl (lv_at hl 1 rfl) ?_
      refine lv_iload_n hx hb dX4_of_61 rfl (lv_at hl 2 rfl) ?_
      refine vp_callSi (W.runV (As := [.int (nI j3), .int (nI 2)]) (rest := []) ⟨hx, hb, hml, hown, hts⟩ (k_X4_withMark l D y q S gp gs kn ln sv pd j3 2 (hI.okm j3 (by omega)) (by omega) (by decide)) (cwV 2 hts gX4_of_X4_withMark rfl rfl rfl hd_X4_withMark ⟨Nat.le_of_ble_eq_true rfl, Nat.le_of_ble_eq_true rfl⟩) ⟨pm_ro_blind, va_recv hK hP (ci := 4) (q0 := 0) rfl rfl, pm_ro_pre hP hK⟩ rfl rfl hl.1 rfl (lv_room (Nat.le_of_ble_eq_true rfl)) dX4_of_62 ⟨Nat.le_of_ble_eq_true rfl, Nat.le_of_ble_eq_true rfl⟩) (fun r10 h11 => ?_)
      obtain rfl : r10 = nI (pm_ck (S 4 j3)) := (show r10 = nI (pm_wm (S 4 j3) 2 3) from h11).trans (congrArg nI (pm_wm_ck _))
      have := pm_ck8 (S 4 j3)
      exact W.iret hx hb hr (fun t ht _ => ⟨_, rfl, (by simp only [pm_of, pm_ix_in hj3 (show (30 : Nat) < 2 ^ 31 by decide), pm_ix_in (show (2 : Nat) < 6 by decide) (show (6 : Nat) < 2 ^ 31 by decide)]), ht⟩) (fun _ h => absurd h List.not_mem_nil) dX4_of_65
    · skip
      refine lv_tableIn (off := 56) (tgt := 66) hx hb dX4_of_10 (by decide) (by decide) (by decide) (by decide) ?_
      refine lv_aload_n hx hb dX4_of_66 rfl (lv_at hl 0 rfl) ?_
      refine va_get (D := D) (ci := 4) (v := .ref (q 1)) (C := RX4) (T := TX4) (N := 7) hx hb hts hin4 hown hK hP 0 rfl rfl 0 (by decide) (hts (.fieldLink RX4 7 "ProofMarksModel" "s" "[I") (List.mem_of_getElem? (i := 1) rfl)) (fun _ h9 => h9) rfl dX4_of_67 ?_
      refine lv_iload_n hx hb dX4_of_70 rfl (lv_at hl 1 rfl) ?_
      refine lv_iconst (v := nI 1) hx hb dX4_of_71 (by decide) ?_
      refine vp_callSi (W.runS (As := [.int (nI j3), .int (nI 1)]) (rest := [.ref (q 1)]) ⟨hx, hb, hml, hown, hts⟩ (k_X4_at l j3 1) (va_cwS 2 hts gX4_of_X4_at rfl rfl rfl hd_X4_at ⟨Nat.le_of_ble_eq_true rfl, Nat.le_of_ble_eq_true rfl⟩) ⟨pm_no_blind, pm_no_pre⟩ rfl rfl hl.1 rfl (lv_room (Nat.le_of_ble_eq_true rfl)) dX4_of_72 ⟨Nat.le_of_ble_eq_true rfl, Nat.le_of_ble_eq_true rfl⟩) (fun r12 h13 => ?_)
      obtain rfl : r12 = nI (5 * j3 + 1) := h13
      refine kx_iald (v := nI (S 1 j3)) hx hb hK hP 1 0 rfl rfl (by omega) (by decide) (pm_ms_f (S := S) (f := j3) 1 (by decide) (by decide) (by omega)) dX4_of_75 ?_
      have := hI.dull j3 (by omega)
      have := hI.rnd
      exact W.iret hx hb hr (fun t ht _ => ⟨_, rfl, (by simp only [pm_of, pm_ix_in hj3 (show (30 : Nat) < 2 ^ 31 by decide), pm_ix_in (show (3 : Nat) < 6 by decide) (show (6 : Nat) < 2 ^ 31 by decide)]), ht⟩) (fun _ h => absurd h List.not_mem_nil) dX4_of_76
    · skip
      refine lv_tableIn (off := 67) (tgt := 77) hx hb dX4_of_10 (by decide) (by decide) (by decide) (by decide) ?_
      refine lv_aload_n hx hb dX4_of_77 rfl (lv_at hl 0 rfl) ?_
      refine va_get (D := D) (ci := 4) (v := .ref (q 1)) (C := RX4) (T := TX4) (N := 7) hx hb hts hin4 hown hK hP 0 rfl rfl 0 (by decide) (hts (.fieldLink RX4 7 "ProofMarksModel" "s" "[I") (List.mem_of_getElem? (i := 1) rfl)) (fun _ h9 => h9) rfl dX4_of_78 ?_
      refine lv_iload_n hx hb dX4_of_81 rfl (lv_at hl 1 rfl) ?_
      refine lv_iconst (v := nI 2) hx hb dX4_of_82 (by decide) ?_
      refine vp_callSi (W.runS (As := [.int (nI j3), .int (nI 2)]) (rest := [.ref (q 1)]) ⟨hx, hb, hml, hown, hts⟩ (k_X4_at l j3 2) (va_cwS 2 hts gX4_of_X4_at rfl rfl rfl hd_X4_at ⟨Nat.le_of_ble_eq_true rfl, Nat.le_of_ble_eq_true rfl⟩) ⟨pm_no_blind, pm_no_pre⟩ rfl rfl hl.1 rfl (lv_room (Nat.le_of_ble_eq_true rfl)) dX4_of_83 ⟨Nat.le_of_ble_eq_true rfl, Nat.le_of_ble_eq_true rfl⟩) (fun r14 h15 => ?_)
      obtain rfl : r14 = nI (5 * j3 + 2) := h15
      refine kx_iald (v := nI (S 2 j3)) hx hb hK hP 1 0 rfl rfl (by omega) (by decide) (pm_ms_f (S := S) (f := j3) 2 (by decide) (by decide) (by omega)) dX4_of_86 ?_
      have := hI.size j3 (by omega)
      exact W.iret hx hb hr (fun t ht _ => ⟨_, rfl, (by simp only [pm_of, pm_ix_in hj3 (show (30 : Nat) < 2 ^ 31 by decide), pm_ix_in (show (4 : Nat) < 6 by decide) (show (6 : Nat) < 2 ^ 31 by decide)]), ht⟩) (fun _ h => absurd h List.not_mem_nil) dX4_of_87
    · skip
      refine lv_tableIn (off := 78) (tgt := 88) hx hb dX4_of_10 (by decide) (by decide) (by decide) (by decide) ?_
      refine lv_aload_n hx hb dX4_of_88 rfl (lv_at hl 0 rfl) ?_
      refine va_get (D := D) (ci := 4) (v := .ref (q 1)) (C := RX4) (T := TX4) (N := 7) hx hb hts hin4 hown hK hP 0 rfl rfl 0 (by decide) (hts (.fieldLink RX4 7 "ProofMarksModel" "s" "[I") (List.mem_of_getElem? (i := 1) rfl)) (fun _ h9 => h9) rfl dX4_of_89 ?_
      refine lv_iload_n hx hb dX4_of_92 rfl (lv_at hl 1 rfl) ?_
      refine lv_iconst (v := nI 3) hx hb dX4_of_93 (by decide) ?_
      refine vp_callSi (W.runS (As := [.int (nI j3), .int (nI 3)]) (rest := [.ref (q 1)]) ⟨hx, hb, hml, hown, hts⟩ (k_X4_at l j3 3) (va_cwS 2 hts gX4_of_X4_at rfl rfl rfl hd_X4_at ⟨Nat.le_of_ble_eq_true rfl, Nat.le_of_ble_eq_true rfl⟩) ⟨pm_no_blind, pm_no_pre⟩ rfl rfl hl.1 rfl (lv_room (Nat.le_of_ble_eq_true rfl)) dX4_of_94 ⟨Nat.le_of_ble_eq_true rfl, Nat.le_of_ble_eq_true rfl⟩) (fun r16 h17 => ?_)
      obtain rfl : r16 = nI (5 * j3 + 3) := h17
      refine kx_iald (v := pm_rm (S 3 j3)) hx hb hK hP 1 0 rfl rfl (by omega) (by decide) (pm_ms_3 (S := S) (f := j3) (by omega)) dX4_of_97 ?_
      refine lv_if_ge (tgt := 106) hx hb dX4_of_98 (by decide) (fun c18 => ?_) (fun c18 => ?_)
      · skip
        refine lv_aload_n hx hb dX4_of_106 rfl (lv_at hl 0 rfl) ?_
        refine va_get (D := D) (ci := 4) (v := .ref (q 1)) (C := RX4) (T := TX4) (N := 7) hx hb hts hin4 hown hK hP 0 rfl rfl 0 (by decide) (hts (.fieldLink RX4 7 "ProofMarksModel" "s" "[I") (List.mem_of_getElem? (i := 1) rfl)) (fun _ h9 => h9) rfl dX4_of_107 ?_
        refine lv_iload_n hx hb dX4_of_110 rfl (lv_at hl 1 rfl) ?_
        refine lv_iconst (v := nI 3) hx hb dX4_of_111 (by decide) ?_
        refine vp_callSi (W.runS (As := [.int (nI j3), .int (nI 3)]) (rest := [.ref (q 1)]) ⟨hx, hb, hml, hown, hts⟩ (k_X4_at l j3 3) (va_cwS 2 hts gX4_of_X4_at rfl rfl rfl hd_X4_at ⟨Nat.le_of_ble_eq_true rfl, Nat.le_of_ble_eq_true rfl⟩) ⟨pm_no_blind, pm_no_pre⟩ rfl rfl hl.1 rfl (lv_room (Nat.le_of_ble_eq_true rfl)) dX4_of_112 ⟨Nat.le_of_ble_eq_true rfl, Nat.le_of_ble_eq_true rfl⟩) (fun r19 h20 => ?_)
        obtain rfl : r19 = nI (5 * j3 + 3) := h20
        refine kx_iald (v := pm_rm (S 3 j3)) hx hb hK hP 1 0 rfl rfl (by omega) (by decide) (pm_ms_3 (S := S) (f := j3) (by omega)) dX4_of_115 ?_
        exact W.iret hx hb hr (fun t ht _ => ⟨_, rfl, (by simp only [pm_of, pm_ix_in hj3 (show (30 : Nat) < 2 ^ 31 by decide), pm_ix_in (show (5 : Nat) < 6 by decide) (show (6 : Nat) < 2 ^ 31 by decide)]; first | exact pm_ci_of0 (Nat.lt_of_le_of_lt (hI.chi j3 hj3) (Nat.lt_of_le_of_lt hI.rnd (by decide))) (by assumption) | exact pm_ci_of1 (Nat.lt_of_le_of_lt (hI.chi j3 hj3) (Nat.lt_of_le_of_lt hI.rnd (by decide))) (by assumption)), ht⟩) (fun _ h => absurd h List.not_mem_nil) dX4_of_116
      · skip
        refine lv_bipush (v := (-6)) hx hb dX4_of_101 (by decide) ?_
        refine lv_goto (tgt := 116) hx hb dX4_of_103 (by decide) ?_
        exact W.iret hx hb hr (fun t ht _ => ⟨_, rfl, (by simp only [pm_of, pm_ix_in hj3 (show (30 : Nat) < 2 ^ 31 by decide), pm_ix_in (show (5 : Nat) < 6 by decide) (show (6 : Nat) < 2 ^ 31 by decide)]; first | exact pm_ci_of0 (Nat.lt_of_le_of_lt (hI.chi j3 hj3) (Nat.lt_of_le_of_lt hI.rnd (by decide))) (by assumption) | exact pm_ci_of1 (Nat.lt_of_le_of_lt (hI.chi j3 hj3) (Nat.lt_of_le_of_lt hI.rnd (by decide))) (by assumption)), ht⟩) (fun _ h => absurd h List.not_mem_nil) dX4_of_116
  · skip
    refine lv_if_ne (tgt := 9) hx hb dX4_of_4 (by decide) (fun c21 => (c21 (by decide)).elim) (fun _ => ?_)
    refine lv_iconst (v := -1) hx hb dX4_of_7 (by decide) ?_
    exact W.iret hx hb hr (fun t ht _ => ⟨_, rfl, (by simp only [pm_of, pm_ix_out hnj3]), ht⟩) (fun _ h => absurd h List.not_mem_nil) dX4_of_8

set_option maxHeartbeats 4000000 in
set_option maxRecDepth 100000 in
theorem k_X4_editor (l : Launch) (D : va_G) (y : Nat → ClassId) (q : Nat → Nat) (S : Nat → Nat → Nat) (gp gs : Nat → Int32) (kn ln : Nat) (sv pd : Nat → Nat) (xe xw : Int32) (hI : pm_Inv S) : Met l yX4_editor wsX4_editor ({ frames := 4, cells := 0, slots := 0, locals := 89 } : Room) (pm_ro D (pm_ty y) [.ref (q 0), .int xe, .int xw] (pm_mo y q S gp gs kn ln sv pd)) (vp_Si (fun r : Int32 => r = pm_ed S xe xw)) 0 0 (fun _ => False) := by
  refine Met.ofW (cc := cX4_editor) (maxL := 3) (ret := (some .int)) (by decide) rfl ?_
  intro p e s m args below meth c s₁ B hml hpre
  obtain ⟨rfl, hP, hK⟩ := hpre
  have hx := B.exec
  have hb := B.bytes
  have hr := B.returns
  have hts := atoms_spec (ws := wsX4_editor) B.pre
  have hown : s.vm.findClass RX4 = some m.cls := findClass_of_methodNamed B.named
  have hlocks := B.notSynchronized
  have hin4 : ∀ w ∈ u_ws RX4 TX4 7, w ∈ wsX4_editor := fun w h => List.mem_cons_of_mem _ (List.mem_append_right _ h)
  have hP : va_P D vwCl (pm_mo y q S gp gs kn ln sv pd) s.heap := hP
  have hl := lv_entry ([.ref (q 0), .int xe, .int xw]) (n := 3) (Nat.le_of_ble_eq_true rfl)
  rw [lg_entry_eq]
  generalize (lg_sl ([.ref (q 0), .int xe, .int xw]) ++ List.replicate (3 - (lg_sl ([.ref (q 0), .int xe, .int xw])).length) Slot.unset).toArray = ls at hl ⊢
  have hl : lv_has ls 3 [(0, .ref (q 0)), (1, .int xe), (2, .int xw)] := hl
  refine lv_iload_n hx hb dX4_editor_0 rfl (lv_at hl 1 rfl) ?_
  refine vp_callSi (W.runS (As := [.int xe]) (rest := []) ⟨hx, hb, hml, hown, hts⟩ (k_X4_isEditor l xe) (va_cwS 1 hts gX4_editor_X4_isEditor rfl rfl rfl hd_X4_isEditor ⟨Nat.le_of_ble_eq_true rfl, Nat.le_of_ble_eq_true rfl⟩) ⟨pm_no_blind, pm_no_pre⟩ rfl rfl hl.1 rfl (lv_room (Nat.le_of_ble_eq_true rfl)) dX4_editor_1 ⟨Nat.le_of_ble_eq_true rfl, Nat.le_of_ble_eq_true rfl⟩) (fun r1 h2 => ?_)
  rcases h2 with ⟨j3, hj3, ej3, rfl⟩ | ⟨hnj3, rfl⟩
  · subst ej3
    refine lv_if_ne (tgt := 9) hx hb dX4_editor_4 (by decide) (fun _ => ?_) (fun c4 => absurd c4 (by decide))
    refine lv_iload_n hx hb dX4_editor_9 rfl (lv_at hl 2 rfl) ?_
    have hsw5 : (xw < 0 ∨ nI 7 ≤ xw) ∨ xw = nI 0 ∨ xw = nI 1 ∨ xw = nI 2 ∨ xw = nI 3 ∨ xw = nI 4 ∨ xw = nI 5 ∨ xw = nI 6 := by
      rcases pm_cases xw (n := 7) (by decide) with h | ⟨j, hj, rfl⟩
      · exact Or.inl h
      · rcases (show j = 0 ∨ j = 1 ∨ j = 2 ∨ j = 3 ∨ j = 4 ∨ j = 5 ∨ j = 6 by omega) with rfl | rfl | rfl | rfl | rfl | rfl | rfl <;> simp
    rcases hsw5 with hw | rfl | rfl | rfl | rfl | rfl | rfl | rfl
    · skip
      refine lv_tableOut (tgt := 89) hx hb dX4_editor_10 (pm_swout (n := 6) (by decide) hw) (by decide) ?_
      refine lv_bipush (v := (-2)) hx hb dX4_editor_89 (by decide) ?_
      exact W.iret hx hb hr (fun t ht _ => ⟨_, rfl, (by simp only [pm_ed, pm_ix_in hj3 (show (3 : Nat) < 2 ^ 31 by decide), pm_ix_out hw]), ht⟩) (fun _ h => absurd h List.not_mem_nil) dX4_editor_91
    · skip
      refine lv_tableIn (off := 42) (tgt := 52) hx hb dX4_editor_10 (by decide) (by decide) (by decide) (by decide) ?_
      refine lv_aload_n hx hb dX4_editor_52 rfl (lv_at hl 0 rfl) ?_
      refine va_get (D := D) (ci := 4) (v := .ref (q 1)) (C := RX4) (T := TX4) (N := 7) hx hb hts hin4 hown hK hP 0 rfl rfl 0 (by decide) (hts (.fieldLink RX4 7 "ProofMarksModel" "s" "[I") (List.mem_of_getElem? (i := 1) rfl)) (fun _ h9 => h9) rfl dX4_editor_53 ?_
      refine lv_iload_n hx hb dX4_editor_56 rfl (lv_at hl 1 rfl) ?_
      refine lv_iconst (v := nI 0) hx hb dX4_editor_57 (by decide) ?_
      refine vp_callSi (W.runS (As := [.int (nI j3), .int (nI 0)]) (rest := [.ref (q 1)]) ⟨hx, hb, hml, hown, hts⟩ (k_X4_of3 l j3 0) (va_cwS 2 hts gX4_editor_X4_of3 rfl rfl rfl hd_X4_of3 ⟨Nat.le_of_ble_eq_true rfl, Nat.le_of_ble_eq_true rfl⟩) ⟨pm_no_blind, pm_no_pre⟩ rfl rfl hl.1 rfl (lv_room (Nat.le_of_ble_eq_true rfl)) dX4_editor_58 ⟨Nat.le_of_ble_eq_true rfl, Nat.le_of_ble_eq_true rfl⟩) (fun r6 h7 => ?_)
      obtain rfl : r6 = nI (150 + 4 * j3 + 0) := h7
      refine kx_iald (v := nI (S 5 j3)) hx hb hK hP 1 0 rfl rfl (by omega) (by decide) (pm_ms_e (S := S) (e := j3) 0 (by decide) (by omega)) dX4_editor_61 ?_
      have := hI.pts j3 (by omega)
      exact W.iret hx hb hr (fun t ht _ => ⟨_, rfl, (by simp only [pm_ed, pm_ix_in hj3 (show (3 : Nat) < 2 ^ 31 by decide), pm_ix_in (show (0 : Nat) < 7 by decide) (show (7 : Nat) < 2 ^ 31 by decide)]), ht⟩) (fun _ h => absurd h List.not_mem_nil) dX4_editor_62
    · skip
      refine lv_tableIn (off := 53) (tgt := 63) hx hb dX4_editor_10 (by decide) (by decide) (by decide) (by decide) ?_
      refine lv_aload_n hx hb dX4_editor_63 rfl (lv_at hl 0 rfl) ?_
      refine lv_iload_n hx hb dX4_editor_64 rfl (lv_at hl 1 rfl) ?_
      refine lv_iload_n hx hb dX4_editor_65 rfl (lv_at hl 2 rfl) ?_
      refine vp_callSi (W.runV (As := [.int (nI j3), .int (nI 1)]) (rest := []) ⟨hx, hb, hml, hown, hts⟩ (k_X4_marked l D y q S gp gs kn ln sv pd j3 1 hI (by omega) (by omega)) (cwV 2 hts gX4_editor_X4_marked rfl rfl rfl hd_X4_marked ⟨Nat.le_of_ble_eq_true rfl, Nat.le_of_ble_eq_true rfl⟩) ⟨pm_ro_blind, va_recv hK hP (ci := 4) (q0 := 0) rfl rfl, pm_ro_pre hP hK⟩ rfl rfl hl.1 rfl (lv_room (Nat.le_of_ble_eq_true rfl)) dX4_editor_66 ⟨Nat.le_of_ble_eq_true rfl, Nat.le_of_ble_eq_true rfl⟩) (fun r8 h9 => ?_)
      obtain rfl : r8 = nI (pm_cnt S j3 1 30) := h9
      have := pm_cnt_le S j3 1 30
      exact W.iret hx hb hr (fun t ht _ => ⟨_, rfl, (by simp only [pm_ed, pm_ix_in hj3 (show (3 : Nat) < 2 ^ 31 by decide), pm_ix_in (show (1 : Nat) < 7 by decide) (show (7 : Nat) < 2 ^ 31 by decide)]), ht⟩) (fun _ h => absurd h List.not_mem_nil) dX4_editor_69
    · skip
      refine lv_tableIn (off := 53) (tgt := 63) hx hb dX4_editor_10 (by decide) (by decide) (by decide) (by decide) ?_
      refine lv_aload_n hx hb dX4_editor_63 rfl (lv_at hl 0 rfl) ?_
      refine lv_iload_n hx hb dX4_editor_64 rfl (lv_at hl 1 rfl) ?_
      refine lv_iload_n hx hb dX4_editor_65 rfl (lv_at hl 2 rfl) ?_
      refine vp_callSi (W.runV (As := [.int (nI j3), .int (nI 2)]) (rest := []) ⟨hx, hb, hml, hown, hts⟩ (k_X4_marked l D y q S gp gs kn ln sv pd j3 2 hI (by omega) (by omega)) (cwV 2 hts gX4_editor_X4_marked rfl rfl rfl hd_X4_marked ⟨Nat.le_of_ble_eq_true rfl, Nat.le_of_ble_eq_true rfl⟩) ⟨pm_ro_blind, va_recv hK hP (ci := 4) (q0 := 0) rfl rfl, pm_ro_pre hP hK⟩ rfl rfl hl.1 rfl (lv_room (Nat.le_of_ble_eq_true rfl)) dX4_editor_66 ⟨Nat.le_of_ble_eq_true rfl, Nat.le_of_ble_eq_true rfl⟩) (fun r10 h11 => ?_)
      obtain rfl : r10 = nI (pm_cnt S j3 2 30) := h11
      have := pm_cnt_le S j3 2 30
      exact W.iret hx hb hr (fun t ht _ => ⟨_, rfl, (by simp only [pm_ed, pm_ix_in hj3 (show (3 : Nat) < 2 ^ 31 by decide), pm_ix_in (show (2 : Nat) < 7 by decide) (show (7 : Nat) < 2 ^ 31 by decide)]), ht⟩) (fun _ h => absurd h List.not_mem_nil) dX4_editor_69
    · skip
      refine lv_tableIn (off := 60) (tgt := 70) hx hb dX4_editor_10 (by decide) (by decide) (by decide) (by decide) ?_
      refine lv_aload_n hx hb dX4_editor_70 rfl (lv_at hl 0 rfl) ?_
      refine lv_iload_n hx hb dX4_editor_71 rfl (lv_at hl 1 rfl) ?_
      refine vp_callSi (W.runV (As := [.int (nI j3)]) (rest := []) ⟨hx, hb, hml, hown, hts⟩ (k_X4_vetoesLeft l D y q S gp gs kn ln sv pd j3 hI (by omega)) (cwV 1 hts gX4_editor_X4_vetoesLeft rfl rfl rfl hd_X4_vetoesLeft ⟨Nat.le_of_ble_eq_true rfl, Nat.le_of_ble_eq_true rfl⟩) ⟨pm_ro_blind, va_recv hK hP (ci := 4) (q0 := 0) rfl rfl, pm_ro_pre hP hK⟩ rfl rfl hl.1 rfl (lv_room (Nat.le_of_ble_eq_true rfl)) dX4_editor_72 ⟨Nat.le_of_ble_eq_true rfl, Nat.le_of_ble_eq_true rfl⟩) (fun r12 h13 => ?_)
      obtain rfl : r12 = nI (S 9 1 - pm_cnt S j3 2 30) := h13
      exact W.iret hx hb hr (fun t ht _ => ⟨_, rfl, (by simp only [pm_ed, pm_ix_in hj3 (show (3 : Nat) < 2 ^ 31 by decide), pm_ix_in (show (3 : Nat) < 7 by decide) (show (7 : Nat) < 2 ^ 31 by decide)]), ht⟩) (fun _ h => absurd h List.not_mem_nil) dX4_editor_75
    · skip
      refine lv_tableIn (off := 66) (tgt := 76) hx hb dX4_editor_10 (by decide) (by decide) (by decide) (by decide) ?_
      refine lv_aload_n hx hb dX4_editor_76 rfl (lv_at hl 0 rfl) ?_
      refine va_get (D := D) (ci := 4) (v := .ref (q 1)) (C := RX4) (T := TX4) (N := 7) hx hb hts hin4 hown hK hP 0 rfl rfl 0 (by decide) (hts (.fieldLink RX4 7 "ProofMarksModel" "s" "[I") (List.mem_of_getElem? (i := 1) rfl)) (fun _ h9 => h9) rfl dX4_editor_77 ?_
      refine lv_iload_n hx hb dX4_editor_80 rfl (lv_at hl 1 rfl) ?_
      refine lv_iload_n hx hb dX4_editor_81 rfl (lv_at hl 2 rfl) ?_
      refine lv_iconst (v := nI 3) hx hb dX4_editor_82 (by decide) ?_
      refine kx_isub hx hb (by omega) dX4_editor_83 ?_
      refine lv_topi (fun x14 e15 => ?_)
      obtain rfl : x14 = nI 1 := e15.trans (rfl)
      refine vp_callSi (W.runS (As := [.int (nI j3), .int (nI 1)]) (rest := [.ref (q 1)]) ⟨hx, hb, hml, hown, hts⟩ (k_X4_of3 l j3 1) (va_cwS 2 hts gX4_editor_X4_of3 rfl rfl rfl hd_X4_of3 ⟨Nat.le_of_ble_eq_true rfl, Nat.le_of_ble_eq_true rfl⟩) ⟨pm_no_blind, pm_no_pre⟩ rfl rfl hl.1 rfl (lv_room (Nat.le_of_ble_eq_true rfl)) dX4_editor_84 ⟨Nat.le_of_ble_eq_true rfl, Nat.le_of_ble_eq_true rfl⟩) (fun r16 h17 => ?_)
      obtain rfl : r16 = nI (150 + 4 * j3 + 1) := h17
      refine kx_iald (v := nI (S 6 j3)) hx hb hK hP 1 0 rfl rfl (by omega) (by decide) (pm_ms_e (S := S) (e := j3) 1 (by decide) (by omega)) dX4_editor_87 ?_
      exact W.iret hx hb hr (fun t ht _ => ⟨_, rfl, (by simp only [pm_ed, pm_ix_in hj3 (show (3 : Nat) < 2 ^ 31 by decide), pm_ix_in (show (4 : Nat) < 7 by decide) (show (7 : Nat) < 2 ^ 31 by decide)]), ht⟩) (fun _ h => absurd h List.not_mem_nil) dX4_editor_88
    · skip
      refine lv_tableIn (off := 66) (tgt := 76) hx hb dX4_editor_10 (by decide) (by decide) (by decide) (by decide) ?_
      refine lv_aload_n hx hb dX4_editor_76 rfl (lv_at hl 0 rfl) ?_
      refine va_get (D := D) (ci := 4) (v := .ref (q 1)) (C := RX4) (T := TX4) (N := 7) hx hb hts hin4 hown hK hP 0 rfl rfl 0 (by decide) (hts (.fieldLink RX4 7 "ProofMarksModel" "s" "[I") (List.mem_of_getElem? (i := 1) rfl)) (fun _ h9 => h9) rfl dX4_editor_77 ?_
      refine lv_iload_n hx hb dX4_editor_80 rfl (lv_at hl 1 rfl) ?_
      refine lv_iload_n hx hb dX4_editor_81 rfl (lv_at hl 2 rfl) ?_
      refine lv_iconst (v := nI 3) hx hb dX4_editor_82 (by decide) ?_
      refine kx_isub hx hb (by omega) dX4_editor_83 ?_
      refine lv_topi (fun x18 e19 => ?_)
      obtain rfl : x18 = nI 2 := e19.trans (rfl)
      refine vp_callSi (W.runS (As := [.int (nI j3), .int (nI 2)]) (rest := [.ref (q 1)]) ⟨hx, hb, hml, hown, hts⟩ (k_X4_of3 l j3 2) (va_cwS 2 hts gX4_editor_X4_of3 rfl rfl rfl hd_X4_of3 ⟨Nat.le_of_ble_eq_true rfl, Nat.le_of_ble_eq_true rfl⟩) ⟨pm_no_blind, pm_no_pre⟩ rfl rfl hl.1 rfl (lv_room (Nat.le_of_ble_eq_true rfl)) dX4_editor_84 ⟨Nat.le_of_ble_eq_true rfl, Nat.le_of_ble_eq_true rfl⟩) (fun r20 h21 => ?_)
      obtain rfl : r20 = nI (150 + 4 * j3 + 2) := h21
      refine kx_iald (v := nI (S 7 j3)) hx hb hK hP 1 0 rfl rfl (by omega) (by decide) (pm_ms_e (S := S) (e := j3) 2 (by decide) (by omega)) dX4_editor_87 ?_
      exact W.iret hx hb hr (fun t ht _ => ⟨_, rfl, (by simp only [pm_ed, pm_ix_in hj3 (show (3 : Nat) < 2 ^ 31 by decide), pm_ix_in (show (5 : Nat) < 7 by decide) (show (7 : Nat) < 2 ^ 31 by decide)]), ht⟩) (fun _ h => absurd h List.not_mem_nil) dX4_editor_88
    · skip
      refine lv_tableIn (off := 66) (tgt := 76) hx hb dX4_editor_10 (by decide) (by decide) (by decide) (by decide) ?_
      refine lv_aload_n hx hb dX4_editor_76 rfl (lv_at hl 0 rfl) ?_
      refine va_get (D := D) (ci := 4) (v := .ref (q 1)) (C := RX4) (T := TX4) (N := 7) hx hb hts hin4 hown hK hP 0 rfl rfl 0 (by decide) (hts (.fieldLink RX4 7 "ProofMarksModel" "s" "[I") (List.mem_of_getElem? (i := 1) rfl)) (fun _ h9 => h9) rfl dX4_editor_77 ?_
      refine lv_iload_n hx hb dX4_editor_80 rfl (lv_at hl 1 rfl) ?_
      refine lv_iload_n hx hb dX4_editor_81 rfl (lv_at hl 2 rfl) ?_
      refine lv_iconst (v := nI 3) hx hb dX4_editor_82 (by decide) ?_
      refine kx_isub hx hb (by omega) dX4_editor_83 ?_
      refine lv_topi (fun x22 e23 => ?_)
      obtain rfl : x22 = nI 3 := e23.trans (rfl)
      refine vp_callSi (W.runS (As := [.int (nI j3), .int (nI 3)]) (rest := [.ref (q 1)]) ⟨hx, hb, hml, hown, hts⟩ (k_X4_of3 l j3 3) (va_cwS 2 hts gX4_editor_X4_of3 rfl rfl rfl hd_X4_of3 ⟨Nat.le_of_ble_eq_true rfl, Nat.le_of_ble_eq_true rfl⟩) ⟨pm_no_blind, pm_no_pre⟩ rfl rfl hl.1 rfl (lv_room (Nat.le_of_ble_eq_true rfl)) dX4_editor_84 ⟨Nat.le_of_ble_eq_true rfl, Nat.le_of_ble_eq_true rfl⟩) (fun r24 h25 => ?_)
      obtain rfl : r24 = nI (150 + 4 * j3 + 3) := h25
      refine kx_iald (v := nI (S 8 j3)) hx hb hK hP 1 0 rfl rfl (by omega) (by decide) (pm_ms_e (S := S) (e := j3) 3 (by decide) (by omega)) dX4_editor_87 ?_
      exact W.iret hx hb hr (fun t ht _ => ⟨_, rfl, (by simp only [pm_ed, pm_ix_in hj3 (show (3 : Nat) < 2 ^ 31 by decide), pm_ix_in (show (6 : Nat) < 7 by decide) (show (7 : Nat) < 2 ^ 31 by decide)]), ht⟩) (fun _ h => absurd h List.not_mem_nil) dX4_editor_88
  · skip
    refine lv_if_ne (tgt := 9) hx hb dX4_editor_4 (by decide) (fun c26 => (c26 (by decide)).elim) (fun _ => ?_)
    refine lv_iconst (v := -1) hx hb dX4_editor_7 (by decide) ?_
    exact W.iret hx hb hr (fun t ht _ => ⟨_, rfl, (by simp only [pm_ed, pm_ix_out hnj3]), ht⟩) (fun _ h => absurd h List.not_mem_nil) dX4_editor_8

set_option maxHeartbeats 4000000 in
set_option maxRecDepth 100000 in
theorem k_X4_howMany (l : Launch) (D : va_G) (y : Nat → ClassId) (q : Nat → Nat) (S : Nat → Nat → Nat) (gp gs : Nat → Int32) (kn ln : Nat) (sv pd : Nat → Nat) (v : Nat) (hI : pm_Inv S) (hv : v < 4) : Met l yX4_howMany wsX4_howMany ({ frames := 1, cells := 0, slots := 0, locals := 21 } : Room) (pm_ro D (pm_ty y) [.ref (q 0), .int (nI v)] (pm_mo y q S gp gs kn ln sv pd)) (vp_Si (fun r : Int32 => r = nI (pm_hm S v 30))) 0 0 (fun _ => False) := by
  refine Met.ofW (cc := cX4_howMany) (maxL := 4) (ret := (some .int)) (by decide) rfl ?_
  intro p e s m args below meth c s₁ B hml hpre
  obtain ⟨rfl, hP, hK⟩ := hpre
  have hx := B.exec
  have hb := B.bytes
  have hr := B.returns
  have hts := atoms_spec (ws := wsX4_howMany) B.pre
  have hown : s.vm.findClass RX4 = some m.cls := findClass_of_methodNamed B.named
  have hlocks := B.notSynchronized
  have hin4 : ∀ w ∈ u_ws RX4 TX4 7, w ∈ wsX4_howMany := fun w h => List.mem_cons_of_mem _ (List.mem_append_right _ h)
  have hP : va_P D vwCl (pm_mo y q S gp gs kn ln sv pd) s.heap := hP
  have hl := lv_entry ([.ref (q 0), .int (nI v)]) (n := 4) (Nat.le_of_ble_eq_true rfl)
  rw [lg_entry_eq]
  generalize (lg_sl ([.ref (q 0), .int (nI v)]) ++ List.replicate (4 - (lg_sl ([.ref (q 0), .int (nI v)])).length) Slot.unset).toArray = ls at hl ⊢
  have hl : lv_has ls 4 [(0, .ref (q 0)), (1, .int (nI v))] := hl
  refine lv_iconst (v := nI 0) hx hb dX4_howMany_0 (by decide) ?_
  refine lv_istore_n (lv' := [(2, .int (nI 0)), (0, .ref (q 0)), (1, .int (nI v))]) hx hb dX4_howMany_1 rfl hl (by decide) rfl (fun ls hl => ?_)
  refine lv_iconst (v := nI 0) hx hb dX4_howMany_2 (by decide) ?_
  refine lv_istore_n (lv' := [(3, .int (nI 0)), (2, .int (nI 0)), (0, .ref (q 0)), (1, .int (nI v))]) hx hb dX4_howMany_3 rfl hl (by decide) rfl (fun ls hl => ?_)
  have LOOP4 : ∀ (n k : Nat) (ls : Array Slot), k ≤ 30 → 30 - k < n → lv_has ls 4 [(0, .ref (q 0)), (1, .int (nI v)), (2, .int (nI (pm_num (fun k => decide (S 0 k = v)) k))), (3, .int (nI k))] → W p l e (headSpec wsX4_howMany ({ frames := 1, cells := 0, slots := 0, locals := 21 } : Room)).room s m ([.ref (q 0), .int (nI v)] : List Value).toArray below meth c s.heap [] 0 0 (MQ below (vp_Si (fun r : Int32 => r = nI (pm_hm S v 30))) ([.ref (q 0), .int (nI v)] : List Value).toArray s 0 0 (fun _ => False)) (F0 m 4 ls []) := by
    intro n
    induction n with
    | zero => intro k _ hi hn; omega
    | succ n ih1 =>
      intro k ls hi_k hn_k hl 
      refine lv_iload_n hx hb dX4_howMany_4 rfl (lv_at hl 3 rfl) ?_
      refine lv_bipush (v := nI 30) hx hb dX4_howMany_5 (by decide) ?_
      refine kx_icmp_ge (tgt := 38) hx hb (by omega) (by decide) dX4_howMany_7 (by decide) (fun c2 => ?_) (fun c2 => ?_)
      · skip
        refine lv_iload_n hx hb dX4_howMany_38 rfl (lv_at hl 2 rfl) ?_
        exact W.iret hx hb hr (fun t ht _ => ⟨_, rfl, (by rw [show k = 30 by omega]; rfl), ht⟩) (fun _ h => absurd h List.not_mem_nil) dX4_howMany_39
      · skip
        refine lv_iload_n hx hb dX4_howMany_10 rfl (lv_at hl 2 rfl) ?_
        refine lv_aload_n hx hb dX4_howMany_11 rfl (lv_at hl 0 rfl) ?_
        refine va_get (D := D) (ci := 4) (v := .ref (q 1)) (C := RX4) (T := TX4) (N := 7) hx hb hts hin4 hown hK hP 0 rfl rfl 0 (by decide) (hts (.fieldLink RX4 7 "ProofMarksModel" "s" "[I") (List.mem_of_getElem? (i := 1) rfl)) (fun _ h9 => h9) rfl dX4_howMany_12 ?_
        refine lv_iload_n hx hb dX4_howMany_15 rfl (lv_at hl 3 rfl) ?_
        refine lv_iconst (v := nI 0) hx hb dX4_howMany_16 (by decide) ?_
        refine vp_callSi (W.runS (As := [.int (nI k), .int (nI 0)]) (rest := [.ref (q 1), .int (nI (pm_num (fun k => decide (S 0 k = v)) k))]) ⟨hx, hb, hml, hown, hts⟩ (k_X4_at l k 0) (va_cwS 2 hts gX4_howMany_X4_at rfl rfl rfl hd_X4_at ⟨Nat.le_of_ble_eq_true rfl, Nat.le_of_ble_eq_true rfl⟩) ⟨pm_no_blind, pm_no_pre⟩ rfl rfl hl.1 rfl (lv_room (Nat.le_of_ble_eq_true rfl)) dX4_howMany_17 ⟨Nat.le_of_ble_eq_true rfl, Nat.le_of_ble_eq_true rfl⟩) (fun r3 h4 => ?_)
        obtain rfl : r3 = nI (5 * k + 0) := h4
        refine kx_iald (v := nI (S 0 k)) hx hb hK hP 1 0 rfl rfl (by omega) (by decide) (pm_ms_f (S := S) (f := k) 0 (by decide) (by decide) (by omega)) dX4_howMany_20 ?_
        have := hI.how k (by omega)
        refine lv_iload_n hx hb dX4_howMany_21 rfl (lv_at hl 1 rfl) ?_
        refine kx_icmp_ne (tgt := 29) hx hb (by omega) (by omega) dX4_howMany_22 (by decide) (fun c5 => ?_) (fun c5 => ?_)
        · skip
          refine lv_iconst (v := nI 0) hx hb dX4_howMany_29 (by decide) ?_
          refine kx_iadd hx hb dX4_howMany_30 ?_
          refine lv_istore_n (lv' := [(2, .int (nI ((pm_num (fun k => decide (S 0 k = v)) k) + 0))), (0, .ref (q 0)), (1, .int (nI v)), (3, .int (nI k))]) hx hb dX4_howMany_31 rfl hl (by decide) rfl (fun ls hl => ?_)
          refine kx_iinc (a := k) (lv' := [(3, .int (nI (k + 1))), (2, .int (nI ((pm_num (fun k => decide (S 0 k = v)) k) + 0))), (0, .ref (q 0)), (1, .int (nI v))]) hx hb dX4_howMany_32 hl (k := 3) rfl (by decide) rfl (fun ls hl => ?_)
          refine lv_goto (tgt := 4) hx hb dX4_howMany_35 (by decide) ?_
          have q6 : (nI (pm_num (fun k => decide (S 0 k = v)) (k + 1)) : Int32) = nI ((pm_num (fun k => decide (S 0 k = v)) k) + 0) := (congrArg nI (by first | exact pm_num_p (decide_eq_true (by omega)) | exact pm_num_n (decide_eq_false (by omega))))
          exact ih1 (k + 1) ls (by omega) (by omega) (by rw [q6]; exact lv_sub hl [2, 3, 1, 0] rfl) 
        · skip
          refine lv_iconst (v := nI 1) hx hb dX4_howMany_25 (by decide) ?_
          refine lv_goto (tgt := 30) hx hb dX4_howMany_26 (by decide) ?_
          refine kx_iadd hx hb dX4_howMany_30 ?_
          refine lv_istore_n (lv' := [(2, .int (nI ((pm_num (fun k => decide (S 0 k = v)) k) + 1))), (0, .ref (q 0)), (1, .int (nI v)), (3, .int (nI k))]) hx hb dX4_howMany_31 rfl hl (by decide) rfl (fun ls hl => ?_)
          refine kx_iinc (a := k) (lv' := [(3, .int (nI (k + 1))), (2, .int (nI ((pm_num (fun k => decide (S 0 k = v)) k) + 1))), (0, .ref (q 0)), (1, .int (nI v))]) hx hb dX4_howMany_32 hl (k := 3) rfl (by decide) rfl (fun ls hl => ?_)
          refine lv_goto (tgt := 4) hx hb dX4_howMany_35 (by decide) ?_
          have q7 : (nI (pm_num (fun k => decide (S 0 k = v)) (k + 1)) : Int32) = nI ((pm_num (fun k => decide (S 0 k = v)) k) + 1) := (congrArg nI (by first | exact pm_num_p (decide_eq_true (by omega)) | exact pm_num_n (decide_eq_false (by omega))))
          exact ih1 (k + 1) ls (by omega) (by omega) (by rw [q7]; exact lv_sub hl [2, 3, 1, 0] rfl) 
  exact LOOP4 (30 + 1) 0 ls (by omega) (by omega) (lv_sub hl [2, 3, 1, 0] rfl) 

set_option maxHeartbeats 4000000 in
set_option maxRecDepth 100000 in
theorem k_X4_longestRow (l : Launch) (D : va_G) (y : Nat → ClassId) (q : Nat → Nat) (S : Nat → Nat → Nat) (gp gs : Nat → Int32) (kn ln : Nat) (sv pd : Nat → Nat) (hI : pm_Inv S) : Met l yX4_longestRow wsX4_longestRow ({ frames := 2, cells := 0, slots := 0, locals := 42 } : Room) (pm_ro D (pm_ty y) [.ref (q 0)] (pm_mo y q S gp gs kn ln sv pd)) (vp_Si (fun r : Int32 => r = nI (pm_lm S 30))) 0 0 (fun _ => False) := by
  refine Met.ofW (cc := cX4_longestRow) (maxL := 4) (ret := (some .int)) (by decide) rfl ?_
  intro p e s m args below meth c s₁ B hml hpre
  obtain ⟨rfl, hP, hK⟩ := hpre
  have hx := B.exec
  have hb := B.bytes
  have hr := B.returns
  have hts := atoms_spec (ws := wsX4_longestRow) B.pre
  have hown : s.vm.findClass RX4 = some m.cls := findClass_of_methodNamed B.named
  have hlocks := B.notSynchronized
  have hin4 : ∀ w ∈ u_ws RX4 TX4 7, w ∈ wsX4_longestRow := fun w h => List.mem_cons_of_mem _ (List.mem_append_right _ h)
  have hP : va_P D vwCl (pm_mo y q S gp gs kn ln sv pd) s.heap := hP
  have hl := lv_entry ([.ref (q 0)]) (n := 4) (Nat.le_of_ble_eq_true rfl)
  rw [lg_entry_eq]
  generalize (lg_sl ([.ref (q 0)]) ++ List.replicate (4 - (lg_sl ([.ref (q 0)])).length) Slot.unset).toArray = ls at hl ⊢
  have hl : lv_has ls 4 [(0, .ref (q 0))] := hl
  refine lv_iconst (v := nI 0) hx hb dX4_longestRow_0 (by decide) ?_
  refine lv_istore_n (lv' := [(1, .int (nI 0)), (0, .ref (q 0))]) hx hb dX4_longestRow_1 rfl hl (by decide) rfl (fun ls hl => ?_)
  refine lv_iconst (v := nI 0) hx hb dX4_longestRow_2 (by decide) ?_
  refine lv_istore_n (lv' := [(2, .int (nI 0)), (1, .int (nI 0)), (0, .ref (q 0))]) hx hb dX4_longestRow_3 rfl hl (by decide) rfl (fun ls hl => ?_)
  refine lv_iconst (v := nI 0) hx hb dX4_longestRow_4 (by decide) ?_
  refine lv_istore_n (lv' := [(3, .int (nI 0)), (2, .int (nI 0)), (1, .int (nI 0)), (0, .ref (q 0))]) hx hb dX4_longestRow_5 rfl hl (by decide) rfl (fun ls hl => ?_)
  have LOOP6 : ∀ (n k : Nat) (ls : Array Slot), k ≤ 30 → 30 - k < n → lv_has ls 4 [(0, .ref (q 0)), (1, .int (nI (pm_lm S k))), (2, .int (nI (pm_rl S k))), (3, .int (nI k))] → W p l e (headSpec wsX4_longestRow ({ frames := 2, cells := 0, slots := 0, locals := 42 } : Room)).room s m ([.ref (q 0)] : List Value).toArray below meth c s.heap [] 0 0 (MQ below (vp_Si (fun r : Int32 => r = nI (pm_lm S 30))) ([.ref (q 0)] : List Value).toArray s 0 0 (fun _ => False)) (F0 m 6 ls []) := by
    intro n
    induction n with
    | zero => intro k _ hi hn; omega
    | succ n ih1 =>
      intro k ls hi_k hn_k hl 
      have := pm_rl_le S k
      have := pm_lm_le S k
      refine lv_iload_n hx hb dX4_longestRow_6 rfl (lv_at hl 3 rfl) ?_
      refine lv_bipush (v := nI 30) hx hb dX4_longestRow_7 (by decide) ?_
      refine kx_icmp_ge (tgt := 56) hx hb (by omega) (by decide) dX4_longestRow_9 (by decide) (fun c2 => ?_) (fun c2 => ?_)
      · skip
        refine lv_iload_n hx hb dX4_longestRow_56 rfl (lv_at hl 1 rfl) ?_
        exact W.iret hx hb hr (fun t ht _ => ⟨_, rfl, (by rw [show k = 30 by omega]), ht⟩) (fun _ h => absurd h List.not_mem_nil) dX4_longestRow_57
      · skip
        refine lv_aload_n hx hb dX4_longestRow_12 rfl (lv_at hl 0 rfl) ?_
        refine lv_iload_n hx hb dX4_longestRow_13 rfl (lv_at hl 3 rfl) ?_
        refine vp_callSi (W.runV (As := [.int (nI k)]) (rest := []) ⟨hx, hb, hml, hown, hts⟩ (k_X4_isTaken l D y q S gp gs kn ln sv pd k hI (by omega)) (cwV 1 hts gX4_longestRow_X4_isTaken rfl rfl rfl hd_X4_isTaken ⟨Nat.le_of_ble_eq_true rfl, Nat.le_of_ble_eq_true rfl⟩) ⟨pm_ro_blind, va_recv hK hP (ci := 4) (q0 := 0) rfl rfl, pm_ro_pre hP hK⟩ rfl rfl hl.1 rfl (lv_room (Nat.le_of_ble_eq_true rfl)) dX4_longestRow_14 ⟨Nat.le_of_ble_eq_true rfl, Nat.le_of_ble_eq_true rfl⟩) (fun r3 h4 => ?_)
        rcases (show ((S 0 k = 1 ∨ S 0 k = 3) ∧ r3 = nI 1) ∨ (¬ (S 0 k = 1 ∨ S 0 k = 3) ∧ r3 = nI 0) from h4) with ⟨hp5, rfl⟩ | ⟨hp5, rfl⟩
        · skip
          refine lv_if_ne (tgt := 24) hx hb dX4_longestRow_17 (by decide) (fun _ => ?_) (fun c6 => absurd c6 (by decide))
          refine lv_iload_n hx hb dX4_longestRow_24 rfl (lv_at hl 3 rfl) ?_
          refine lv_bipush (v := nI 6) hx hb dX4_longestRow_25 (by decide) ?_
          refine kx_irem hx hb (by omega) (by omega) (by omega) dX4_longestRow_27 ?_
          refine kx_if_ne (tgt := 35) hx hb (by omega) dX4_longestRow_28 (by decide) (fun c7 => ?_) (fun c7 => ?_)
          · skip
            refine lv_iload_n hx hb dX4_longestRow_35 rfl (lv_at hl 2 rfl) ?_
            refine lv_iconst (v := nI 1) hx hb dX4_longestRow_36 (by decide) ?_
            refine kx_iadd hx hb dX4_longestRow_37 ?_
            refine lv_topi (fun x8 e9 => ?_)
            obtain rfl : x8 = nI (pm_rl S (k + 1)) := e9.trans (congrArg nI (show _ = pm_rl S (k + 1) from (by rw [pm_rl]; (repeat' split) <;> first | omega | (have hz := pm_pk_i.mp ‹_›; omega) | (exfalso; exact absurd (pm_pk_i.mpr (by assumption)) ‹_›))))
            have := pm_rl_le S (k + 1)
            refine lv_istore_n (lv' := [(2, .int (nI (pm_rl S (k + 1)))), (0, .ref (q 0)), (1, .int (nI (pm_lm S k))), (3, .int (nI k))]) hx hb dX4_longestRow_38 rfl hl (by decide) rfl (fun ls hl => ?_)
            refine lv_iload_n hx hb dX4_longestRow_39 rfl (lv_at hl 0 rfl) ?_
            refine lv_iload_n hx hb dX4_longestRow_40 rfl (lv_at hl 2 rfl) ?_
            refine kx_icmp_le (tgt := 48) hx hb (by omega) (by omega) dX4_longestRow_41 (by decide) (fun c10 => ?_) (fun c10 => ?_)
            · skip
              refine lv_iload_n hx hb dX4_longestRow_48 rfl (lv_at hl 2 rfl) ?_
              refine lv_istore_n (lv' := [(1, .int (nI (pm_lm S k))), (2, .int (nI (pm_rl S (k + 1)))), (0, .ref (q 0)), (3, .int (nI k))]) hx hb dX4_longestRow_49 rfl hl (by decide) rfl (fun ls hl => ?_)
              refine kx_iinc (a := k) (lv' := [(3, .int (nI (k + 1))), (1, .int (nI (pm_lm S k))), (2, .int (nI (pm_rl S (k + 1)))), (0, .ref (q 0))]) hx hb dX4_longestRow_50 hl (k := 3) rfl (by decide) rfl (fun ls hl => ?_)
              refine lv_goto (tgt := 6) hx hb dX4_longestRow_53 (by decide) ?_
              have q11 : (nI (pm_lm S (k + 1)) : Int32) = nI (pm_lm S k) := (congrArg nI (by rw [pm_lm]; first | exact if_pos (by omega) | exact if_neg (by omega)))
              exact ih1 (k + 1) ls (by omega) (by omega) (by rw [q11]; exact lv_sub hl [3, 1, 2, 0] rfl) 
            · skip
              refine lv_iload_n hx hb dX4_longestRow_44 rfl (lv_at hl 0 rfl) ?_
              refine lv_goto (tgt := 49) hx hb dX4_longestRow_45 (by decide) ?_
              refine lv_istore_n (lv' := [(1, .int (nI (pm_rl S (k + 1)))), (2, .int (nI (pm_rl S (k + 1)))), (0, .ref (q 0)), (3, .int (nI k))]) hx hb dX4_longestRow_49 rfl hl (by decide) rfl (fun ls hl => ?_)
              refine kx_iinc (a := k) (lv' := [(3, .int (nI (k + 1))), (1, .int (nI (pm_rl S (k + 1)))), (2, .int (nI (pm_rl S (k + 1)))), (0, .ref (q 0))]) hx hb dX4_longestRow_50 hl (k := 3) rfl (by decide) rfl (fun ls hl => ?_)
              refine lv_goto (tgt := 6) hx hb dX4_longestRow_53 (by decide) ?_
              have q12 : (nI (pm_lm S (k + 1)) : Int32) = nI (pm_rl S (k + 1)) := (congrArg nI (by rw [pm_lm]; first | exact if_pos (by omega) | exact if_neg (by omega)))
              exact ih1 (k + 1) ls (by omega) (by omega) (by rw [q12]; exact lv_sub hl [3, 1, 2, 0] rfl) 
          · skip
            refine lv_iconst (v := nI 1) hx hb dX4_longestRow_31 (by decide) ?_
            refine lv_goto (tgt := 38) hx hb dX4_longestRow_32 (by decide) ?_
            refine lv_topi (fun x13 e14 => ?_)
            obtain rfl : x13 = nI (pm_rl S (k + 1)) := e14.trans (congrArg nI (show _ = pm_rl S (k + 1) from (by rw [pm_rl]; (repeat' split) <;> first | omega | (have hz := pm_pk_i.mp ‹_›; omega) | (exfalso; exact absurd (pm_pk_i.mpr (by assumption)) ‹_›))))
            have := pm_rl_le S (k + 1)
            refine lv_istore_n (lv' := [(2, .int (nI (pm_rl S (k + 1)))), (0, .ref (q 0)), (1, .int (nI (pm_lm S k))), (3, .int (nI k))]) hx hb dX4_longestRow_38 rfl hl (by decide) rfl (fun ls hl => ?_)
            refine lv_iload_n hx hb dX4_longestRow_39 rfl (lv_at hl 0 rfl) ?_
            refine lv_iload_n hx hb dX4_longestRow_40 rfl (lv_at hl 2 rfl) ?_
            refine kx_icmp_le (tgt := 48) hx hb (by omega) (by omega) dX4_longestRow_41 (by decide) (fun c15 => ?_) (fun c15 => ?_)
            · skip
              refine lv_iload_n hx hb dX4_longestRow_48 rfl (lv_at hl 2 rfl) ?_
              refine lv_istore_n (lv' := [(1, .int (nI (pm_lm S k))), (2, .int (nI (pm_rl S (k + 1)))), (0, .ref (q 0)), (3, .int (nI k))]) hx hb dX4_longestRow_49 rfl hl (by decide) rfl (fun ls hl => ?_)
              refine kx_iinc (a := k) (lv' := [(3, .int (nI (k + 1))), (1, .int (nI (pm_lm S k))), (2, .int (nI (pm_rl S (k + 1)))), (0, .ref (q 0))]) hx hb dX4_longestRow_50 hl (k := 3) rfl (by decide) rfl (fun ls hl => ?_)
              refine lv_goto (tgt := 6) hx hb dX4_longestRow_53 (by decide) ?_
              have q16 : (nI (pm_lm S (k + 1)) : Int32) = nI (pm_lm S k) := (congrArg nI (by rw [pm_lm]; first | exact if_pos (by omega) | exact if_neg (by omega)))
              exact ih1 (k + 1) ls (by omega) (by omega) (by rw [q16]; exact lv_sub hl [3, 1, 2, 0] rfl) 
            · skip
              refine lv_iload_n hx hb dX4_longestRow_44 rfl (lv_at hl 0 rfl) ?_
              refine lv_goto (tgt := 49) hx hb dX4_longestRow_45 (by decide) ?_
              refine lv_istore_n (lv' := [(1, .int (nI (pm_rl S (k + 1)))), (2, .int (nI (pm_rl S (k + 1)))), (0, .ref (q 0)), (3, .int (nI k))]) hx hb dX4_longestRow_49 rfl hl (by decide) rfl (fun ls hl => ?_)
              refine kx_iinc (a := k) (lv' := [(3, .int (nI (k + 1))), (1, .int (nI (pm_rl S (k + 1)))), (2, .int (nI (pm_rl S (k + 1)))), (0, .ref (q 0))]) hx hb dX4_longestRow_50 hl (k := 3) rfl (by decide) rfl (fun ls hl => ?_)
              refine lv_goto (tgt := 6) hx hb dX4_longestRow_53 (by decide) ?_
              have q17 : (nI (pm_lm S (k + 1)) : Int32) = nI (pm_rl S (k + 1)) := (congrArg nI (by rw [pm_lm]; first | exact if_pos (by omega) | exact if_neg (by omega)))
              exact ih1 (k + 1) ls (by omega) (by omega) (by rw [q17]; exact lv_sub hl [3, 1, 2, 0] rfl) 
        · skip
          refine lv_if_ne (tgt := 24) hx hb dX4_longestRow_17 (by decide) (fun c18 => (c18 (by decide)).elim) (fun _ => ?_)
          refine lv_iconst (v := nI 0) hx hb dX4_longestRow_20 (by decide) ?_
          refine lv_goto (tgt := 38) hx hb dX4_longestRow_21 (by decide) ?_
          refine lv_topi (fun x19 e20 => ?_)
          obtain rfl : x19 = nI (pm_rl S (k + 1)) := e20.trans (congrArg nI (show _ = pm_rl S (k + 1) from (by rw [pm_rl]; (repeat' split) <;> first | omega | (have hz := pm_pk_i.mp ‹_›; omega) | (exfalso; exact absurd (pm_pk_i.mpr (by assumption)) ‹_›))))
          have := pm_rl_le S (k + 1)
          refine lv_istore_n (lv' := [(2, .int (nI (pm_rl S (k + 1)))), (0, .ref (q 0)), (1, .int (nI (pm_lm S k))), (3, .int (nI k))]) hx hb dX4_longestRow_38 rfl hl (by decide) rfl (fun ls hl => ?_)
          refine lv_iload_n hx hb dX4_longestRow_39 rfl (lv_at hl 0 rfl) ?_
          refine lv_iload_n hx hb dX4_longestRow_40 rfl (lv_at hl 2 rfl) ?_
          refine kx_icmp_le (tgt := 48) hx hb (by omega) (by omega) dX4_longestRow_41 (by decide) (fun c21 => ?_) (fun c21 => ?_)
          · skip
            refine lv_iload_n hx hb dX4_longestRow_48 rfl (lv_at hl 2 rfl) ?_
            refine lv_istore_n (lv' := [(1, .int (nI (pm_lm S k))), (2, .int (nI (pm_rl S (k + 1)))), (0, .ref (q 0)), (3, .int (nI k))]) hx hb dX4_longestRow_49 rfl hl (by decide) rfl (fun ls hl => ?_)
            refine kx_iinc (a := k) (lv' := [(3, .int (nI (k + 1))), (1, .int (nI (pm_lm S k))), (2, .int (nI (pm_rl S (k + 1)))), (0, .ref (q 0))]) hx hb dX4_longestRow_50 hl (k := 3) rfl (by decide) rfl (fun ls hl => ?_)
            refine lv_goto (tgt := 6) hx hb dX4_longestRow_53 (by decide) ?_
            have q22 : (nI (pm_lm S (k + 1)) : Int32) = nI (pm_lm S k) := (congrArg nI (by rw [pm_lm]; first | exact if_pos (by omega) | exact if_neg (by omega)))
            exact ih1 (k + 1) ls (by omega) (by omega) (by rw [q22]; exact lv_sub hl [3, 1, 2, 0] rfl) 
          · skip
            refine lv_iload_n hx hb dX4_longestRow_44 rfl (lv_at hl 0 rfl) ?_
            refine lv_goto (tgt := 49) hx hb dX4_longestRow_45 (by decide) ?_
            refine lv_istore_n (lv' := [(1, .int (nI (pm_rl S (k + 1)))), (2, .int (nI (pm_rl S (k + 1)))), (0, .ref (q 0)), (3, .int (nI k))]) hx hb dX4_longestRow_49 rfl hl (by decide) rfl (fun ls hl => ?_)
            refine kx_iinc (a := k) (lv' := [(3, .int (nI (k + 1))), (1, .int (nI (pm_rl S (k + 1)))), (2, .int (nI (pm_rl S (k + 1)))), (0, .ref (q 0))]) hx hb dX4_longestRow_50 hl (k := 3) rfl (by decide) rfl (fun ls hl => ?_)
            refine lv_goto (tgt := 6) hx hb dX4_longestRow_53 (by decide) ?_
            have q23 : (nI (pm_lm S (k + 1)) : Int32) = nI (pm_rl S (k + 1)) := (congrArg nI (by rw [pm_lm]; first | exact if_pos (by omega) | exact if_neg (by omega)))
            exact ih1 (k + 1) ls (by omega) (by omega) (by rw [q23]; exact lv_sub hl [3, 1, 2, 0] rfl) 
  exact LOOP6 (30 + 1) 0 ls (by omega) (by omega) (lv_sub hl [3, 2, 1, 0] rfl) 

def pm_co2 (S : Nat → Nat → Nat) (ln kn : Nat) (w : Int32) : Int32 := match pm_ix w 17 with
  | none => -2
  | some 15 => nI ln
  | some 16 => nI kn
  | some _ => pm_co S w
theorem pm_outle17 {x : Int32} (h : x < 0 ∨ nI 17 ≤ x) : x < 0 ∨ nI 15 ≤ x := pm_outle (by decide) (by decide) h
set_option maxHeartbeats 4000000 in
set_option maxRecDepth 100000 in
theorem k_X4_count (l : Launch) (D : va_G) (y : Nat → ClassId) (q : Nat → Nat) (S : Nat → Nat → Nat) (gp gs : Nat → Int32) (kn ln : Nat) (sv pd : Nat → Nat) (xw : Int32) (hI : pm_Inv S) : Met l yX4_count wsX4_count ({ frames := 3, cells := 0, slots := 0, locals := 65 } : Room) (pm_ro D (pm_ty y) [.ref (q 0), .int xw] (pm_mo y q S gp gs kn ln sv pd)) (vp_Si (fun r : Int32 => r = pm_co2 S ln kn xw)) 0 0 (fun _ => False) := by
  refine Met.ofW (cc := cX4_count) (maxL := 2) (ret := (some .int)) (by decide) rfl ?_
  intro p e s m args below meth c s₁ B hml hpre
  obtain ⟨rfl, hP, hK⟩ := hpre
  have hx := B.exec
  have hb := B.bytes
  have hr := B.returns
  have hts := atoms_spec (ws := wsX4_count) B.pre
  have hown : s.vm.findClass RX4 = some m.cls := findClass_of_methodNamed B.named
  have hlocks := B.notSynchronized
  have hin4 : ∀ w ∈ u_ws RX4 TX4 7, w ∈ wsX4_count := fun w h => List.mem_cons_of_mem _ (List.mem_append_right _ h)
  have hP : va_P D vwCl (pm_mo y q S gp gs kn ln sv pd) s.heap := hP
  have hl := lv_entry ([.ref (q 0), .int xw]) (n := 2) (Nat.le_of_ble_eq_true rfl)
  rw [lg_entry_eq]
  generalize (lg_sl ([.ref (q 0), .int xw]) ++ List.replicate (2 - (lg_sl ([.ref (q 0), .int xw])).length) Slot.unset).toArray = ls at hl ⊢
  have hl : lv_has ls 2 [(0, .ref (q 0)), (1, .int xw)] := hl
  refine lv_iload_n hx hb dX4_count_0 rfl (lv_at hl 1 rfl) ?_
  have hsw1 : (xw < 0 ∨ nI 17 ≤ xw) ∨ xw = nI 0 ∨ xw = nI 1 ∨ xw = nI 2 ∨ xw = nI 3 ∨ xw = nI 4 ∨ xw = nI 5 ∨ xw = nI 6 ∨ xw = nI 7 ∨ xw = nI 8 ∨ xw = nI 9 ∨ xw = nI 10 ∨ xw = nI 11 ∨ xw = nI 12 ∨ xw = nI 13 ∨ xw = nI 14 ∨ xw = nI 15 ∨ xw = nI 16 := by
    rcases pm_cases xw (n := 17) (by decide) with h | ⟨j, hj, rfl⟩
    · exact Or.inl h
    · rcases (show j = 0 ∨ j = 1 ∨ j = 2 ∨ j = 3 ∨ j = 4 ∨ j = 5 ∨ j = 6 ∨ j = 7 ∨ j = 8 ∨ j = 9 ∨ j = 10 ∨ j = 11 ∨ j = 12 ∨ j = 13 ∨ j = 14 ∨ j = 15 ∨ j = 16 by omega) with rfl | rfl | rfl | rfl | rfl | rfl | rfl | rfl | rfl | rfl | rfl | rfl | rfl | rfl | rfl | rfl | rfl <;> simp
  rcases hsw1 with hw | rfl | rfl | rfl | rfl | rfl | rfl | rfl | rfl | rfl | rfl | rfl | rfl | rfl | rfl | rfl | rfl | rfl
  · skip
    refine lv_tableOut (tgt := 129) hx hb dX4_count_1 (pm_swout (n := 16) (by decide) hw) (by decide) ?_
    refine lv_iload_n hx hb dX4_count_129 rfl (lv_at hl 1 rfl) ?_
    refine lv_bipush (v := nI 11) hx hb dX4_count_130 (by decide) ?_
    refine lv_bipush (v := nI 14) hx hb dX4_count_132 (by decide) ?_
    refine vp_callSi (W.runS (As := [.int xw, .int (nI 11), .int (nI 14)]) (rest := []) ⟨hx, hb, hml, hown, hts⟩ (k_X4_in l xw (nI 11) (nI 14)) (va_cwS 3 hts gX4_count_X4_in rfl rfl rfl hd_X4_in ⟨Nat.le_of_ble_eq_true rfl, Nat.le_of_ble_eq_true rfl⟩) ⟨pm_no_blind, pm_no_pre⟩ rfl rfl hl.1 rfl (lv_room (Nat.le_of_ble_eq_true rfl)) dX4_count_134 ⟨Nat.le_of_ble_eq_true rfl, Nat.le_of_ble_eq_true rfl⟩) (fun r2 h3 => ?_)
    rcases (show ((nI 11 ≤ xw ∧ xw ≤ nI 14) ∧ r2 = nI 1) ∨ (¬ (nI 11 ≤ xw ∧ xw ≤ nI 14) ∧ r2 = nI 0) from h3) with ⟨hp4, rfl⟩ | ⟨hp4, rfl⟩
    · exact (pm_no2 (n := 14) (a := 11) (pm_outle (a := 17) (b := 15) (by decide) (by decide) hw) (by decide) (by decide) hp4).elim
    · skip
      refine lv_if_eq (tgt := 156) hx hb dX4_count_137 (by decide) (fun _ => ?_) (fun c5 => (c5 (by decide)).elim)
      refine lv_bipush (v := (-2)) hx hb dX4_count_156 (by decide) ?_
      exact W.iret hx hb hr (fun t ht _ => ⟨_, rfl, (by simp only [pm_co2, pm_ix_out hw]), ht⟩) (fun _ h => absurd h List.not_mem_nil) dX4_count_158
  · skip
    refine lv_tableIn (off := 83) (tgt := 84) hx hb dX4_count_1 (by decide) (by decide) (by decide) (by decide) ?_
    refine lv_aload_n hx hb dX4_count_84 rfl (lv_at hl 0 rfl) ?_
    refine va_get (D := D) (ci := 4) (v := .ref (q 1)) (C := RX4) (T := TX4) (N := 7) hx hb hts hin4 hown hK hP 0 rfl rfl 0 (by decide) (hts (.fieldLink RX4 7 "ProofMarksModel" "s" "[I") (List.mem_of_getElem? (i := 1) rfl)) (fun _ h9 => h9) rfl dX4_count_85 ?_
    refine lv_sipush (v := nI 166) hx hb dX4_count_88 (by decide) ?_
    refine kx_iald (v := nI (S 10 0)) hx hb hK hP 1 0 rfl rfl (by omega) (by decide) (pm_ms_r (S := S) (k := 0) (by decide)) dX4_count_91 ?_
    have := hI.rnd
    exact W.iret hx hb hr (fun t ht _ => ⟨_, rfl, (by simp only [pm_co2, pm_ix_in (show (0 : Nat) < 17 by decide) (show (17 : Nat) < 2 ^ 31 by decide), pm_co, pm_ix_in (show (0 : Nat) < 15 by decide) (show (15 : Nat) < 2 ^ 31 by decide)]), ht⟩) (fun _ h => absurd h List.not_mem_nil) dX4_count_92
  · skip
    refine lv_tableIn (off := 92) (tgt := 93) hx hb dX4_count_1 (by decide) (by decide) (by decide) (by decide) ?_
    refine lv_aload_n hx hb dX4_count_93 rfl (lv_at hl 0 rfl) ?_
    refine lv_iload_n hx hb dX4_count_94 rfl (lv_at hl 1 rfl) ?_
    refine lv_iconst (v := nI 1) hx hb dX4_count_95 (by decide) ?_
    refine kx_isub hx hb (by omega) dX4_count_96 ?_
    refine lv_topi (fun x6 e7 => ?_)
    obtain rfl : x6 = nI 0 := e7.trans (rfl)
    refine vp_callSi (W.runV (As := [.int (nI 0)]) (rest := []) ⟨hx, hb, hml, hown, hts⟩ (k_X4_howMany l D y q S gp gs kn ln sv pd 0 hI (by omega)) (cwV 1 hts gX4_count_X4_howMany rfl rfl rfl hd_X4_howMany ⟨Nat.le_of_ble_eq_true rfl, Nat.le_of_ble_eq_true rfl⟩) ⟨pm_ro_blind, va_recv hK hP (ci := 4) (q0 := 0) rfl rfl, pm_ro_pre hP hK⟩ rfl rfl hl.1 rfl (lv_room (Nat.le_of_ble_eq_true rfl)) dX4_count_97 ⟨Nat.le_of_ble_eq_true rfl, Nat.le_of_ble_eq_true rfl⟩) (fun r8 h9 => ?_)
    obtain rfl : r8 = nI (pm_hm S 0 30) := h9
    exact W.iret hx hb hr (fun t ht _ => ⟨_, rfl, (by simp only [pm_co2, pm_ix_in (show (1 : Nat) < 17 by decide) (show (17 : Nat) < 2 ^ 31 by decide), pm_co, pm_ix_in (show (1 : Nat) < 15 by decide) (show (15 : Nat) < 2 ^ 31 by decide)]), ht⟩) (fun _ h => absurd h List.not_mem_nil) dX4_count_100
  · skip
    refine lv_tableIn (off := 92) (tgt := 93) hx hb dX4_count_1 (by decide) (by decide) (by decide) (by decide) ?_
    refine lv_aload_n hx hb dX4_count_93 rfl (lv_at hl 0 rfl) ?_
    refine lv_iload_n hx hb dX4_count_94 rfl (lv_at hl 1 rfl) ?_
    refine lv_iconst (v := nI 1) hx hb dX4_count_95 (by decide) ?_
    refine kx_isub hx hb (by omega) dX4_count_96 ?_
    refine lv_topi (fun x10 e11 => ?_)
    obtain rfl : x10 = nI 1 := e11.trans (rfl)
    refine vp_callSi (W.runV (As := [.int (nI 1)]) (rest := []) ⟨hx, hb, hml, hown, hts⟩ (k_X4_howMany l D y q S gp gs kn ln sv pd 1 hI (by omega)) (cwV 1 hts gX4_count_X4_howMany rfl rfl rfl hd_X4_howMany ⟨Nat.le_of_ble_eq_true rfl, Nat.le_of_ble_eq_true rfl⟩) ⟨pm_ro_blind, va_recv hK hP (ci := 4) (q0 := 0) rfl rfl, pm_ro_pre hP hK⟩ rfl rfl hl.1 rfl (lv_room (Nat.le_of_ble_eq_true rfl)) dX4_count_97 ⟨Nat.le_of_ble_eq_true rfl, Nat.le_of_ble_eq_true rfl⟩) (fun r12 h13 => ?_)
    obtain rfl : r12 = nI (pm_hm S 1 30) := h13
    exact W.iret hx hb hr (fun t ht _ => ⟨_, rfl, (by simp only [pm_co2, pm_ix_in (show (2 : Nat) < 17 by decide) (show (17 : Nat) < 2 ^ 31 by decide), pm_co, pm_ix_in (show (2 : Nat) < 15 by decide) (show (15 : Nat) < 2 ^ 31 by decide)]), ht⟩) (fun _ h => absurd h List.not_mem_nil) dX4_count_100
  · skip
    refine lv_tableIn (off := 92) (tgt := 93) hx hb dX4_count_1 (by decide) (by decide) (by decide) (by decide) ?_
    refine lv_aload_n hx hb dX4_count_93 rfl (lv_at hl 0 rfl) ?_
    refine lv_iload_n hx hb dX4_count_94 rfl (lv_at hl 1 rfl) ?_
    refine lv_iconst (v := nI 1) hx hb dX4_count_95 (by decide) ?_
    refine kx_isub hx hb (by omega) dX4_count_96 ?_
    refine lv_topi (fun x14 e15 => ?_)
    obtain rfl : x14 = nI 2 := e15.trans (rfl)
    refine vp_callSi (W.runV (As := [.int (nI 2)]) (rest := []) ⟨hx, hb, hml, hown, hts⟩ (k_X4_howMany l D y q S gp gs kn ln sv pd 2 hI (by omega)) (cwV 1 hts gX4_count_X4_howMany rfl rfl rfl hd_X4_howMany ⟨Nat.le_of_ble_eq_true rfl, Nat.le_of_ble_eq_true rfl⟩) ⟨pm_ro_blind, va_recv hK hP (ci := 4) (q0 := 0) rfl rfl, pm_ro_pre hP hK⟩ rfl rfl hl.1 rfl (lv_room (Nat.le_of_ble_eq_true rfl)) dX4_count_97 ⟨Nat.le_of_ble_eq_true rfl, Nat.le_of_ble_eq_true rfl⟩) (fun r16 h17 => ?_)
    obtain rfl : r16 = nI (pm_hm S 2 30) := h17
    exact W.iret hx hb hr (fun t ht _ => ⟨_, rfl, (by simp only [pm_co2, pm_ix_in (show (3 : Nat) < 17 by decide) (show (17 : Nat) < 2 ^ 31 by decide), pm_co, pm_ix_in (show (3 : Nat) < 15 by decide) (show (15 : Nat) < 2 ^ 31 by decide)]), ht⟩) (fun _ h => absurd h List.not_mem_nil) dX4_count_100
  · skip
    refine lv_tableIn (off := 92) (tgt := 93) hx hb dX4_count_1 (by decide) (by decide) (by decide) (by decide) ?_
    refine lv_aload_n hx hb dX4_count_93 rfl (lv_at hl 0 rfl) ?_
    refine lv_iload_n hx hb dX4_count_94 rfl (lv_at hl 1 rfl) ?_
    refine lv_iconst (v := nI 1) hx hb dX4_count_95 (by decide) ?_
    refine kx_isub hx hb (by omega) dX4_count_96 ?_
    refine lv_topi (fun x18 e19 => ?_)
    obtain rfl : x18 = nI 3 := e19.trans (rfl)
    refine vp_callSi (W.runV (As := [.int (nI 3)]) (rest := []) ⟨hx, hb, hml, hown, hts⟩ (k_X4_howMany l D y q S gp gs kn ln sv pd 3 hI (by omega)) (cwV 1 hts gX4_count_X4_howMany rfl rfl rfl hd_X4_howMany ⟨Nat.le_of_ble_eq_true rfl, Nat.le_of_ble_eq_true rfl⟩) ⟨pm_ro_blind, va_recv hK hP (ci := 4) (q0 := 0) rfl rfl, pm_ro_pre hP hK⟩ rfl rfl hl.1 rfl (lv_room (Nat.le_of_ble_eq_true rfl)) dX4_count_97 ⟨Nat.le_of_ble_eq_true rfl, Nat.le_of_ble_eq_true rfl⟩) (fun r20 h21 => ?_)
    obtain rfl : r20 = nI (pm_hm S 3 30) := h21
    exact W.iret hx hb hr (fun t ht _ => ⟨_, rfl, (by simp only [pm_co2, pm_ix_in (show (4 : Nat) < 17 by decide) (show (17 : Nat) < 2 ^ 31 by decide), pm_co, pm_ix_in (show (4 : Nat) < 15 by decide) (show (15 : Nat) < 2 ^ 31 by decide)]), ht⟩) (fun _ h => absurd h List.not_mem_nil) dX4_count_100
  · skip
    refine lv_tableIn (off := 100) (tgt := 101) hx hb dX4_count_1 (by decide) (by decide) (by decide) (by decide) ?_
    refine lv_aload_n hx hb dX4_count_101 rfl (lv_at hl 0 rfl) ?_
    refine va_get (D := D) (ci := 4) (v := .ref (q 1)) (C := RX4) (T := TX4) (N := 7) hx hb hts hin4 hown hK hP 0 rfl rfl 0 (by decide) (hts (.fieldLink RX4 7 "ProofMarksModel" "s" "[I") (List.mem_of_getElem? (i := 1) rfl)) (fun _ h9 => h9) rfl dX4_count_102 ?_
    refine lv_sipush (v := nI 167) hx hb dX4_count_105 (by decide) ?_
    refine lv_iload_n hx hb dX4_count_108 rfl (lv_at hl 1 rfl) ?_
    refine kx_iadd hx hb dX4_count_109 ?_
    refine lv_topi (fun x22 e23 => ?_)
    obtain rfl : x22 = nI 172 := e23.trans (rfl)
    refine lv_iconst (v := nI 5) hx hb dX4_count_110 (by decide) ?_
    refine kx_isub hx hb (by omega) dX4_count_111 ?_
    refine lv_topi (fun x24 e25 => ?_)
    obtain rfl : x24 = nI 167 := e25.trans (rfl)
    refine kx_iald (v := nI (S 10 1)) hx hb hK hP 1 0 rfl rfl (by omega) (by decide) (pm_ms_r (S := S) (k := 1) (by decide)) dX4_count_112 ?_
    have := hI.pap
    exact W.iret hx hb hr (fun t ht _ => ⟨_, rfl, (by simp only [pm_co2, pm_ix_in (show (5 : Nat) < 17 by decide) (show (17 : Nat) < 2 ^ 31 by decide), pm_co, pm_ix_in (show (5 : Nat) < 15 by decide) (show (15 : Nat) < 2 ^ 31 by decide)]), ht⟩) (fun _ h => absurd h List.not_mem_nil) dX4_count_113
  · skip
    refine lv_tableIn (off := 100) (tgt := 101) hx hb dX4_count_1 (by decide) (by decide) (by decide) (by decide) ?_
    refine lv_aload_n hx hb dX4_count_101 rfl (lv_at hl 0 rfl) ?_
    refine va_get (D := D) (ci := 4) (v := .ref (q 1)) (C := RX4) (T := TX4) (N := 7) hx hb hts hin4 hown hK hP 0 rfl rfl 0 (by decide) (hts (.fieldLink RX4 7 "ProofMarksModel" "s" "[I") (List.mem_of_getElem? (i := 1) rfl)) (fun _ h9 => h9) rfl dX4_count_102 ?_
    refine lv_sipush (v := nI 167) hx hb dX4_count_105 (by decide) ?_
    refine lv_iload_n hx hb dX4_count_108 rfl (lv_at hl 1 rfl) ?_
    refine kx_iadd hx hb dX4_count_109 ?_
    refine lv_topi (fun x26 e27 => ?_)
    obtain rfl : x26 = nI 173 := e27.trans (rfl)
    refine lv_iconst (v := nI 5) hx hb dX4_count_110 (by decide) ?_
    refine kx_isub hx hb (by omega) dX4_count_111 ?_
    refine lv_topi (fun x28 e29 => ?_)
    obtain rfl : x28 = nI 168 := e29.trans (rfl)
    refine kx_iald (v := nI (S 10 2)) hx hb hK hP 1 0 rfl rfl (by omega) (by decide) (pm_ms_r (S := S) (k := 2) (by decide)) dX4_count_112 ?_
    exact W.iret hx hb hr (fun t ht _ => ⟨_, rfl, (by simp only [pm_co2, pm_ix_in (show (6 : Nat) < 17 by decide) (show (17 : Nat) < 2 ^ 31 by decide), pm_co, pm_ix_in (show (6 : Nat) < 15 by decide) (show (15 : Nat) < 2 ^ 31 by decide)]), ht⟩) (fun _ h => absurd h List.not_mem_nil) dX4_count_113
  · skip
    refine lv_tableIn (off := 100) (tgt := 101) hx hb dX4_count_1 (by decide) (by decide) (by decide) (by decide) ?_
    refine lv_aload_n hx hb dX4_count_101 rfl (lv_at hl 0 rfl) ?_
    refine va_get (D := D) (ci := 4) (v := .ref (q 1)) (C := RX4) (T := TX4) (N := 7) hx hb hts hin4 hown hK hP 0 rfl rfl 0 (by decide) (hts (.fieldLink RX4 7 "ProofMarksModel" "s" "[I") (List.mem_of_getElem? (i := 1) rfl)) (fun _ h9 => h9) rfl dX4_count_102 ?_
    refine lv_sipush (v := nI 167) hx hb dX4_count_105 (by decide) ?_
    refine lv_iload_n hx hb dX4_count_108 rfl (lv_at hl 1 rfl) ?_
    refine kx_iadd hx hb dX4_count_109 ?_
    refine lv_topi (fun x30 e31 => ?_)
    obtain rfl : x30 = nI 174 := e31.trans (rfl)
    refine lv_iconst (v := nI 5) hx hb dX4_count_110 (by decide) ?_
    refine kx_isub hx hb (by omega) dX4_count_111 ?_
    refine lv_topi (fun x32 e33 => ?_)
    obtain rfl : x32 = nI 169 := e33.trans (rfl)
    refine kx_iald (v := nI (S 11 1)) hx hb hK hP 1 0 rfl rfl (by omega) (by decide) (pm_ms_p (S := S) (k := 1) (by omega)) dX4_count_112 ?_
    exact W.iret hx hb hr (fun t ht _ => ⟨_, rfl, (by simp only [pm_co2, pm_ix_in (show (7 : Nat) < 17 by decide) (show (17 : Nat) < 2 ^ 31 by decide), pm_co, pm_ix_in (show (7 : Nat) < 15 by decide) (show (15 : Nat) < 2 ^ 31 by decide)]), ht⟩) (fun _ h => absurd h List.not_mem_nil) dX4_count_113
  · skip
    refine lv_tableIn (off := 100) (tgt := 101) hx hb dX4_count_1 (by decide) (by decide) (by decide) (by decide) ?_
    refine lv_aload_n hx hb dX4_count_101 rfl (lv_at hl 0 rfl) ?_
    refine va_get (D := D) (ci := 4) (v := .ref (q 1)) (C := RX4) (T := TX4) (N := 7) hx hb hts hin4 hown hK hP 0 rfl rfl 0 (by decide) (hts (.fieldLink RX4 7 "ProofMarksModel" "s" "[I") (List.mem_of_getElem? (i := 1) rfl)) (fun _ h9 => h9) rfl dX4_count_102 ?_
    refine lv_sipush (v := nI 167) hx hb dX4_count_105 (by decide) ?_
    refine lv_iload_n hx hb dX4_count_108 rfl (lv_at hl 1 rfl) ?_
    refine kx_iadd hx hb dX4_count_109 ?_
    refine lv_topi (fun x34 e35 => ?_)
    obtain rfl : x34 = nI 175 := e35.trans (rfl)
    refine lv_iconst (v := nI 5) hx hb dX4_count_110 (by decide) ?_
    refine kx_isub hx hb (by omega) dX4_count_111 ?_
    refine lv_topi (fun x36 e37 => ?_)
    obtain rfl : x36 = nI 170 := e37.trans (rfl)
    refine kx_iald (v := nI (S 11 2)) hx hb hK hP 1 0 rfl rfl (by omega) (by decide) (pm_ms_p (S := S) (k := 2) (by omega)) dX4_count_112 ?_
    exact W.iret hx hb hr (fun t ht _ => ⟨_, rfl, (by simp only [pm_co2, pm_ix_in (show (8 : Nat) < 17 by decide) (show (17 : Nat) < 2 ^ 31 by decide), pm_co, pm_ix_in (show (8 : Nat) < 15 by decide) (show (15 : Nat) < 2 ^ 31 by decide)]), ht⟩) (fun _ h => absurd h List.not_mem_nil) dX4_count_113
  · skip
    refine lv_tableIn (off := 100) (tgt := 101) hx hb dX4_count_1 (by decide) (by decide) (by decide) (by decide) ?_
    refine lv_aload_n hx hb dX4_count_101 rfl (lv_at hl 0 rfl) ?_
    refine va_get (D := D) (ci := 4) (v := .ref (q 1)) (C := RX4) (T := TX4) (N := 7) hx hb hts hin4 hown hK hP 0 rfl rfl 0 (by decide) (hts (.fieldLink RX4 7 "ProofMarksModel" "s" "[I") (List.mem_of_getElem? (i := 1) rfl)) (fun _ h9 => h9) rfl dX4_count_102 ?_
    refine lv_sipush (v := nI 167) hx hb dX4_count_105 (by decide) ?_
    refine lv_iload_n hx hb dX4_count_108 rfl (lv_at hl 1 rfl) ?_
    refine kx_iadd hx hb dX4_count_109 ?_
    refine lv_topi (fun x38 e39 => ?_)
    obtain rfl : x38 = nI 176 := e39.trans (rfl)
    refine lv_iconst (v := nI 5) hx hb dX4_count_110 (by decide) ?_
    refine kx_isub hx hb (by omega) dX4_count_111 ?_
    refine lv_topi (fun x40 e41 => ?_)
    obtain rfl : x40 = nI 171 := e41.trans (rfl)
    refine kx_iald (v := nI (S 11 3)) hx hb hK hP 1 0 rfl rfl (by omega) (by decide) (pm_ms_p (S := S) (k := 3) (by omega)) dX4_count_112 ?_
    exact W.iret hx hb hr (fun t ht _ => ⟨_, rfl, (by simp only [pm_co2, pm_ix_in (show (9 : Nat) < 17 by decide) (show (17 : Nat) < 2 ^ 31 by decide), pm_co, pm_ix_in (show (9 : Nat) < 15 by decide) (show (15 : Nat) < 2 ^ 31 by decide)]), ht⟩) (fun _ h => absurd h List.not_mem_nil) dX4_count_113
  · skip
    refine lv_tableIn (off := 113) (tgt := 114) hx hb dX4_count_1 (by decide) (by decide) (by decide) (by decide) ?_
    refine lv_aload_n hx hb dX4_count_114 rfl (lv_at hl 0 rfl) ?_
    refine vp_callSi (W.runV (As := []) (rest := []) ⟨hx, hb, hml, hown, hts⟩ (k_X4_longestRow l D y q S gp gs kn ln sv pd hI) (cwV 0 hts gX4_count_X4_longestRow rfl rfl rfl hd_X4_longestRow ⟨Nat.le_of_ble_eq_true rfl, Nat.le_of_ble_eq_true rfl⟩) ⟨pm_ro_blind, va_recv hK hP (ci := 4) (q0 := 0) rfl rfl, pm_ro_pre hP hK⟩ rfl rfl hl.1 rfl (lv_room (Nat.le_of_ble_eq_true rfl)) dX4_count_115 ⟨Nat.le_of_ble_eq_true rfl, Nat.le_of_ble_eq_true rfl⟩) (fun r42 h43 => ?_)
    obtain rfl : r42 = nI (pm_lm S 30) := h43
    exact W.iret hx hb hr (fun t ht _ => ⟨_, rfl, (by simp only [pm_co2, pm_ix_in (show (10 : Nat) < 17 by decide) (show (17 : Nat) < 2 ^ 31 by decide), pm_co, pm_ix_in (show (10 : Nat) < 15 by decide) (show (15 : Nat) < 2 ^ 31 by decide)]), ht⟩) (fun _ h => absurd h List.not_mem_nil) dX4_count_118
  · skip
    refine lv_tableIn (off := 128) (tgt := 129) hx hb dX4_count_1 (by decide) (by decide) (by decide) (by decide) ?_
    refine lv_iload_n hx hb dX4_count_129 rfl (lv_at hl 1 rfl) ?_
    refine lv_bipush (v := nI 11) hx hb dX4_count_130 (by decide) ?_
    refine lv_bipush (v := nI 14) hx hb dX4_count_132 (by decide) ?_
    refine vp_callSi (W.runS (As := [.int (nI 11), .int (nI 11), .int (nI 14)]) (rest := []) ⟨hx, hb, hml, hown, hts⟩ (k_X4_in l (nI 11) (nI 11) (nI 14)) (va_cwS 3 hts gX4_count_X4_in rfl rfl rfl hd_X4_in ⟨Nat.le_of_ble_eq_true rfl, Nat.le_of_ble_eq_true rfl⟩) ⟨pm_no_blind, pm_no_pre⟩ rfl rfl hl.1 rfl (lv_room (Nat.le_of_ble_eq_true rfl)) dX4_count_134 ⟨Nat.le_of_ble_eq_true rfl, Nat.le_of_ble_eq_true rfl⟩) (fun r44 h45 => ?_)
    rcases (show ((nI 11 ≤ nI 11 ∧ nI 11 ≤ nI 14) ∧ r44 = nI 1) ∨ (¬ (nI 11 ≤ nI 11 ∧ nI 11 ≤ nI 14) ∧ r44 = nI 0) from h45) with ⟨hp46, rfl⟩ | ⟨hp46, rfl⟩
    · skip
      refine lv_if_eq (tgt := 156) hx hb dX4_count_137 (by decide) (fun c47 => absurd c47 (by decide)) (fun _ => ?_)
      refine lv_aload_n hx hb dX4_count_140 rfl (lv_at hl 0 rfl) ?_
      refine va_get (D := D) (ci := 4) (v := .ref (q 1)) (C := RX4) (T := TX4) (N := 7) hx hb hts hin4 hown hK hP 0 rfl rfl 0 (by decide) (hts (.fieldLink RX4 7 "ProofMarksModel" "s" "[I") (List.mem_of_getElem? (i := 1) rfl)) (fun _ h9 => h9) rfl dX4_count_141 ?_
      refine lv_sipush (v := nI 162) hx hb dX4_count_144 (by decide) ?_
      refine lv_iload_n hx hb dX4_count_147 rfl (lv_at hl 1 rfl) ?_
      refine kx_iadd hx hb dX4_count_148 ?_
      refine lv_topi (fun x48 e49 => ?_)
      obtain rfl : x48 = nI 173 := e49.trans (rfl)
      refine lv_bipush (v := nI 11) hx hb dX4_count_149 (by decide) ?_
      refine kx_isub hx hb (by omega) dX4_count_151 ?_
      refine lv_topi (fun x50 e51 => ?_)
      obtain rfl : x50 = nI 162 := e51.trans (rfl)
      refine kx_iald (v := nI (S 9 0)) hx hb hK hP 1 0 rfl rfl (by omega) (by decide) (pm_ms_s (S := S) (k := 0) (by omega)) dX4_count_152 ?_
      have := hI.set9 0 (by omega)
      refine lv_goto (tgt := 158) hx hb dX4_count_153 (by decide) ?_
      exact W.iret hx hb hr (fun t ht _ => ⟨_, rfl, (by simp only [pm_co2, pm_ix_in (show (11 : Nat) < 17 by decide) (show (17 : Nat) < 2 ^ 31 by decide), pm_co, pm_ix_in (show (11 : Nat) < 15 by decide) (show (15 : Nat) < 2 ^ 31 by decide)]), ht⟩) (fun _ h => absurd h List.not_mem_nil) dX4_count_158
    · exact absurd (by decide) hp46
  · skip
    refine lv_tableIn (off := 128) (tgt := 129) hx hb dX4_count_1 (by decide) (by decide) (by decide) (by decide) ?_
    refine lv_iload_n hx hb dX4_count_129 rfl (lv_at hl 1 rfl) ?_
    refine lv_bipush (v := nI 11) hx hb dX4_count_130 (by decide) ?_
    refine lv_bipush (v := nI 14) hx hb dX4_count_132 (by decide) ?_
    refine vp_callSi (W.runS (As := [.int (nI 12), .int (nI 11), .int (nI 14)]) (rest := []) ⟨hx, hb, hml, hown, hts⟩ (k_X4_in l (nI 12) (nI 11) (nI 14)) (va_cwS 3 hts gX4_count_X4_in rfl rfl rfl hd_X4_in ⟨Nat.le_of_ble_eq_true rfl, Nat.le_of_ble_eq_true rfl⟩) ⟨pm_no_blind, pm_no_pre⟩ rfl rfl hl.1 rfl (lv_room (Nat.le_of_ble_eq_true rfl)) dX4_count_134 ⟨Nat.le_of_ble_eq_true rfl, Nat.le_of_ble_eq_true rfl⟩) (fun r52 h53 => ?_)
    rcases (show ((nI 11 ≤ nI 12 ∧ nI 12 ≤ nI 14) ∧ r52 = nI 1) ∨ (¬ (nI 11 ≤ nI 12 ∧ nI 12 ≤ nI 14) ∧ r52 = nI 0) from h53) with ⟨hp54, rfl⟩ | ⟨hp54, rfl⟩
    · skip
      refine lv_if_eq (tgt := 156) hx hb dX4_count_137 (by decide) (fun c55 => absurd c55 (by decide)) (fun _ => ?_)
      refine lv_aload_n hx hb dX4_count_140 rfl (lv_at hl 0 rfl) ?_
      refine va_get (D := D) (ci := 4) (v := .ref (q 1)) (C := RX4) (T := TX4) (N := 7) hx hb hts hin4 hown hK hP 0 rfl rfl 0 (by decide) (hts (.fieldLink RX4 7 "ProofMarksModel" "s" "[I") (List.mem_of_getElem? (i := 1) rfl)) (fun _ h9 => h9) rfl dX4_count_141 ?_
      refine lv_sipush (v := nI 162) hx hb dX4_count_144 (by decide) ?_
      refine lv_iload_n hx hb dX4_count_147 rfl (lv_at hl 1 rfl) ?_
      refine kx_iadd hx hb dX4_count_148 ?_
      refine lv_topi (fun x56 e57 => ?_)
      obtain rfl : x56 = nI 174 := e57.trans (rfl)
      refine lv_bipush (v := nI 11) hx hb dX4_count_149 (by decide) ?_
      refine kx_isub hx hb (by omega) dX4_count_151 ?_
      refine lv_topi (fun x58 e59 => ?_)
      obtain rfl : x58 = nI 163 := e59.trans (rfl)
      refine kx_iald (v := nI (S 9 1)) hx hb hK hP 1 0 rfl rfl (by omega) (by decide) (pm_ms_s (S := S) (k := 1) (by omega)) dX4_count_152 ?_
      have := hI.set9 1 (by omega)
      refine lv_goto (tgt := 158) hx hb dX4_count_153 (by decide) ?_
      exact W.iret hx hb hr (fun t ht _ => ⟨_, rfl, (by simp only [pm_co2, pm_ix_in (show (12 : Nat) < 17 by decide) (show (17 : Nat) < 2 ^ 31 by decide), pm_co, pm_ix_in (show (12 : Nat) < 15 by decide) (show (15 : Nat) < 2 ^ 31 by decide)]), ht⟩) (fun _ h => absurd h List.not_mem_nil) dX4_count_158
    · exact absurd (by decide) hp54
  · skip
    refine lv_tableIn (off := 128) (tgt := 129) hx hb dX4_count_1 (by decide) (by decide) (by decide) (by decide) ?_
    refine lv_iload_n hx hb dX4_count_129 rfl (lv_at hl 1 rfl) ?_
    refine lv_bipush (v := nI 11) hx hb dX4_count_130 (by decide) ?_
    refine lv_bipush (v := nI 14) hx hb dX4_count_132 (by decide) ?_
    refine vp_callSi (W.runS (As := [.int (nI 13), .int (nI 11), .int (nI 14)]) (rest := []) ⟨hx, hb, hml, hown, hts⟩ (k_X4_in l (nI 13) (nI 11) (nI 14)) (va_cwS 3 hts gX4_count_X4_in rfl rfl rfl hd_X4_in ⟨Nat.le_of_ble_eq_true rfl, Nat.le_of_ble_eq_true rfl⟩) ⟨pm_no_blind, pm_no_pre⟩ rfl rfl hl.1 rfl (lv_room (Nat.le_of_ble_eq_true rfl)) dX4_count_134 ⟨Nat.le_of_ble_eq_true rfl, Nat.le_of_ble_eq_true rfl⟩) (fun r60 h61 => ?_)
    rcases (show ((nI 11 ≤ nI 13 ∧ nI 13 ≤ nI 14) ∧ r60 = nI 1) ∨ (¬ (nI 11 ≤ nI 13 ∧ nI 13 ≤ nI 14) ∧ r60 = nI 0) from h61) with ⟨hp62, rfl⟩ | ⟨hp62, rfl⟩
    · skip
      refine lv_if_eq (tgt := 156) hx hb dX4_count_137 (by decide) (fun c63 => absurd c63 (by decide)) (fun _ => ?_)
      refine lv_aload_n hx hb dX4_count_140 rfl (lv_at hl 0 rfl) ?_
      refine va_get (D := D) (ci := 4) (v := .ref (q 1)) (C := RX4) (T := TX4) (N := 7) hx hb hts hin4 hown hK hP 0 rfl rfl 0 (by decide) (hts (.fieldLink RX4 7 "ProofMarksModel" "s" "[I") (List.mem_of_getElem? (i := 1) rfl)) (fun _ h9 => h9) rfl dX4_count_141 ?_
      refine lv_sipush (v := nI 162) hx hb dX4_count_144 (by decide) ?_
      refine lv_iload_n hx hb dX4_count_147 rfl (lv_at hl 1 rfl) ?_
      refine kx_iadd hx hb dX4_count_148 ?_
      refine lv_topi (fun x64 e65 => ?_)
      obtain rfl : x64 = nI 175 := e65.trans (rfl)
      refine lv_bipush (v := nI 11) hx hb dX4_count_149 (by decide) ?_
      refine kx_isub hx hb (by omega) dX4_count_151 ?_
      refine lv_topi (fun x66 e67 => ?_)
      obtain rfl : x66 = nI 164 := e67.trans (rfl)
      refine kx_iald (v := nI (S 9 2)) hx hb hK hP 1 0 rfl rfl (by omega) (by decide) (pm_ms_s (S := S) (k := 2) (by omega)) dX4_count_152 ?_
      have := hI.set9 2 (by omega)
      refine lv_goto (tgt := 158) hx hb dX4_count_153 (by decide) ?_
      exact W.iret hx hb hr (fun t ht _ => ⟨_, rfl, (by simp only [pm_co2, pm_ix_in (show (13 : Nat) < 17 by decide) (show (17 : Nat) < 2 ^ 31 by decide), pm_co, pm_ix_in (show (13 : Nat) < 15 by decide) (show (15 : Nat) < 2 ^ 31 by decide)]), ht⟩) (fun _ h => absurd h List.not_mem_nil) dX4_count_158
    · exact absurd (by decide) hp62
  · skip
    refine lv_tableIn (off := 128) (tgt := 129) hx hb dX4_count_1 (by decide) (by decide) (by decide) (by decide) ?_
    refine lv_iload_n hx hb dX4_count_129 rfl (lv_at hl 1 rfl) ?_
    refine lv_bipush (v := nI 11) hx hb dX4_count_130 (by decide) ?_
    refine lv_bipush (v := nI 14) hx hb dX4_count_132 (by decide) ?_
    refine vp_callSi (W.runS (As := [.int (nI 14), .int (nI 11), .int (nI 14)]) (rest := []) ⟨hx, hb, hml, hown, hts⟩ (k_X4_in l (nI 14) (nI 11) (nI 14)) (va_cwS 3 hts gX4_count_X4_in rfl rfl rfl hd_X4_in ⟨Nat.le_of_ble_eq_true rfl, Nat.le_of_ble_eq_true rfl⟩) ⟨pm_no_blind, pm_no_pre⟩ rfl rfl hl.1 rfl (lv_room (Nat.le_of_ble_eq_true rfl)) dX4_count_134 ⟨Nat.le_of_ble_eq_true rfl, Nat.le_of_ble_eq_true rfl⟩) (fun r68 h69 => ?_)
    rcases (show ((nI 11 ≤ nI 14 ∧ nI 14 ≤ nI 14) ∧ r68 = nI 1) ∨ (¬ (nI 11 ≤ nI 14 ∧ nI 14 ≤ nI 14) ∧ r68 = nI 0) from h69) with ⟨hp70, rfl⟩ | ⟨hp70, rfl⟩
    · skip
      refine lv_if_eq (tgt := 156) hx hb dX4_count_137 (by decide) (fun c71 => absurd c71 (by decide)) (fun _ => ?_)
      refine lv_aload_n hx hb dX4_count_140 rfl (lv_at hl 0 rfl) ?_
      refine va_get (D := D) (ci := 4) (v := .ref (q 1)) (C := RX4) (T := TX4) (N := 7) hx hb hts hin4 hown hK hP 0 rfl rfl 0 (by decide) (hts (.fieldLink RX4 7 "ProofMarksModel" "s" "[I") (List.mem_of_getElem? (i := 1) rfl)) (fun _ h9 => h9) rfl dX4_count_141 ?_
      refine lv_sipush (v := nI 162) hx hb dX4_count_144 (by decide) ?_
      refine lv_iload_n hx hb dX4_count_147 rfl (lv_at hl 1 rfl) ?_
      refine kx_iadd hx hb dX4_count_148 ?_
      refine lv_topi (fun x72 e73 => ?_)
      obtain rfl : x72 = nI 176 := e73.trans (rfl)
      refine lv_bipush (v := nI 11) hx hb dX4_count_149 (by decide) ?_
      refine kx_isub hx hb (by omega) dX4_count_151 ?_
      refine lv_topi (fun x74 e75 => ?_)
      obtain rfl : x74 = nI 165 := e75.trans (rfl)
      refine kx_iald (v := nI (S 9 3)) hx hb hK hP 1 0 rfl rfl (by omega) (by decide) (pm_ms_s (S := S) (k := 3) (by omega)) dX4_count_152 ?_
      have := hI.set9 3 (by omega)
      refine lv_goto (tgt := 158) hx hb dX4_count_153 (by decide) ?_
      exact W.iret hx hb hr (fun t ht _ => ⟨_, rfl, (by simp only [pm_co2, pm_ix_in (show (14 : Nat) < 17 by decide) (show (17 : Nat) < 2 ^ 31 by decide), pm_co, pm_ix_in (show (14 : Nat) < 15 by decide) (show (15 : Nat) < 2 ^ 31 by decide)]), ht⟩) (fun _ h => absurd h List.not_mem_nil) dX4_count_158
    · exact absurd (by decide) hp70
  · skip
    refine lv_tableIn (off := 118) (tgt := 119) hx hb dX4_count_1 (by decide) (by decide) (by decide) (by decide) ?_
    refine lv_aload_n hx hb dX4_count_119 rfl (lv_at hl 0 rfl) ?_
    refine va_get (D := D) (ci := 4) (v := .int (nI ln)) (C := RX4) (T := TX4) (N := 7) hx hb hts hin4 hown hK hP 0 rfl rfl 6 (by decide) (hts (.fieldLink RX4 126 "ProofMarksModel" "length" "I") (List.mem_of_getElem? (i := 2) rfl)) (fun _ h9 => h9) rfl dX4_count_120 ?_
    exact W.iret hx hb hr (fun t ht _ => ⟨_, rfl, (by simp only [pm_co2, pm_ix_in (show (15 : Nat) < 17 by decide) (show (17 : Nat) < 2 ^ 31 by decide)]), ht⟩) (fun _ h => absurd h List.not_mem_nil) dX4_count_123
  · skip
    refine lv_tableIn (off := 123) (tgt := 124) hx hb dX4_count_1 (by decide) (by decide) (by decide) (by decide) ?_
    refine lv_aload_n hx hb dX4_count_124 rfl (lv_at hl 0 rfl) ?_
    refine va_get (D := D) (ci := 4) (v := .int (nI kn)) (C := RX4) (T := TX4) (N := 7) hx hb hts hin4 hown hK hP 0 rfl rfl 2 (by decide) (hts (.fieldLink RX4 37 "ProofMarksModel" "known" "I") (List.mem_of_getElem? (i := 3) rfl)) (fun _ h9 => h9) rfl dX4_count_125 ?_
    exact W.iret hx hb hr (fun t ht _ => ⟨_, rfl, (by simp only [pm_co2, pm_ix_in (show (16 : Nat) < 17 by decide) (show (17 : Nat) < 2 ^ 31 by decide)]), ht⟩) (fun _ h => absurd h List.not_mem_nil) dX4_count_128

set_option maxHeartbeats 4000000 in
set_option maxRecDepth 100000 in
theorem k_X4_reason (l : Launch) (D : va_G) (y : Nat → ClassId) (q : Nat → Nat) (S : Nat → Nat → Nat) (gp gs : Nat → Int32) (kn ln : Nat) (sv pd : Nat → Nat) (f : Nat) (ho : pm_okb (S 4 f) = true) (hh : S 0 f < 4) (hs : S 9 0 ≤ 9) (hf : f < 30) : Met l yX4_reason wsX4_reason ({ frames := 3, cells := 0, slots := 0, locals := 67 } : Room) (pm_ro D (pm_ty y) [.ref (q 0), .int (nI f)] (pm_mo y q S gp gs kn ln sv pd)) (vp_Si (fun r : Int32 => r = nI (if S 0 f ≠ 0 then 1 else if pm_ck (S 4 f) ≠ 0 then 2 else if S 9 0 ≤ pm_tc (S 4 f) then 0 else 3))) 0 0 (fun _ => False) := by
  refine Met.ofW (cc := cX4_reason) (maxL := 2) (ret := (some .int)) (by decide) rfl ?_
  intro p e s m args below meth c s₁ B hml hpre
  obtain ⟨rfl, hP, hK⟩ := hpre
  have hx := B.exec
  have hb := B.bytes
  have hr := B.returns
  have hts := atoms_spec (ws := wsX4_reason) B.pre
  have hown : s.vm.findClass RX4 = some m.cls := findClass_of_methodNamed B.named
  have hlocks := B.notSynchronized
  have hin4 : ∀ w ∈ u_ws RX4 TX4 7, w ∈ wsX4_reason := fun w h => List.mem_cons_of_mem _ (List.mem_append_right _ h)
  have hP : va_P D vwCl (pm_mo y q S gp gs kn ln sv pd) s.heap := hP
  have hl := lv_entry ([.ref (q 0), .int (nI f)]) (n := 2) (Nat.le_of_ble_eq_true rfl)
  rw [lg_entry_eq]
  generalize (lg_sl ([.ref (q 0), .int (nI f)]) ++ List.replicate (2 - (lg_sl ([.ref (q 0), .int (nI f)])).length) Slot.unset).toArray = ls at hl ⊢
  have hl : lv_has ls 2 [(0, .ref (q 0)), (1, .int (nI f))] := hl
  refine lv_aload_n hx hb dX4_reason_0 rfl (lv_at hl 0 rfl) ?_
  refine lv_iload_n hx hb dX4_reason_1 rfl (lv_at hl 1 rfl) ?_
  refine vp_callSi (W.runV (As := [.int (nI f)]) (rest := []) ⟨hx, hb, hml, hown, hts⟩ (k_X4_isOpen l D y q S gp gs kn ln sv pd f hh (by omega)) (cwV 1 hts gX4_reason_X4_isOpen rfl rfl rfl hd_X4_isOpen ⟨Nat.le_of_ble_eq_true rfl, Nat.le_of_ble_eq_true rfl⟩) ⟨pm_ro_blind, va_recv hK hP (ci := 4) (q0 := 0) rfl rfl, pm_ro_pre hP hK⟩ rfl rfl hl.1 rfl (lv_room (Nat.le_of_ble_eq_true rfl)) dX4_reason_2 ⟨Nat.le_of_ble_eq_true rfl, Nat.le_of_ble_eq_true rfl⟩) (fun r1 h2 => ?_)
  rcases (show ((S 0 f = 0) ∧ r1 = nI 1) ∨ (¬ (S 0 f = 0) ∧ r1 = nI 0) from h2) with ⟨hp3, rfl⟩ | ⟨hp3, rfl⟩
  · skip
    refine lv_if_ne (tgt := 10) hx hb dX4_reason_5 (by decide) (fun _ => ?_) (fun c4 => absurd c4 (by decide))
    refine lv_aload_n hx hb dX4_reason_10 rfl (lv_at hl 0 rfl) ?_
    refine lv_iload_n hx hb dX4_reason_11 rfl (lv_at hl 1 rfl) ?_
    refine lv_iconst (v := nI 2) hx hb dX4_reason_12 (by decide) ?_
    refine vp_callSi (W.runV (As := [.int (nI f), .int (nI 2)]) (rest := []) ⟨hx, hb, hml, hown, hts⟩ (k_X4_withMark l D y q S gp gs kn ln sv pd f 2 ho (by omega) (by decide)) (cwV 2 hts gX4_reason_X4_withMark rfl rfl rfl hd_X4_withMark ⟨Nat.le_of_ble_eq_true rfl, Nat.le_of_ble_eq_true rfl⟩) ⟨pm_ro_blind, va_recv hK hP (ci := 4) (q0 := 0) rfl rfl, pm_ro_pre hP hK⟩ rfl rfl hl.1 rfl (lv_room (Nat.le_of_ble_eq_true rfl)) dX4_reason_13 ⟨Nat.le_of_ble_eq_true rfl, Nat.le_of_ble_eq_true rfl⟩) (fun r5 h6 => ?_)
    obtain rfl : r5 = nI (pm_ck (S 4 f)) := (show r5 = nI (pm_wm (S 4 f) 2 3) from h6).trans (congrArg nI (pm_wm_ck _))
    have := pm_ck8 (S 4 f)
    refine kx_if_eq (tgt := 23) hx hb (by omega) dX4_reason_16 (by decide) (fun c7 => ?_) (fun c7 => ?_)
    · skip
      refine lv_aload_n hx hb dX4_reason_23 rfl (lv_at hl 0 rfl) ?_
      refine lv_iload_n hx hb dX4_reason_24 rfl (lv_at hl 1 rfl) ?_
      refine lv_iconst (v := nI 1) hx hb dX4_reason_25 (by decide) ?_
      refine vp_callSi (W.runV (As := [.int (nI f), .int (nI 1)]) (rest := []) ⟨hx, hb, hml, hown, hts⟩ (k_X4_withMark l D y q S gp gs kn ln sv pd f 1 ho (by omega) (by decide)) (cwV 2 hts gX4_reason_X4_withMark rfl rfl rfl hd_X4_withMark ⟨Nat.le_of_ble_eq_true rfl, Nat.le_of_ble_eq_true rfl⟩) ⟨pm_ro_blind, va_recv hK hP (ci := 4) (q0 := 0) rfl rfl, pm_ro_pre hP hK⟩ rfl rfl hl.1 rfl (lv_room (Nat.le_of_ble_eq_true rfl)) dX4_reason_26 ⟨Nat.le_of_ble_eq_true rfl, Nat.le_of_ble_eq_true rfl⟩) (fun r8 h9 => ?_)
      obtain rfl : r8 = nI (pm_tk (S 4 f)) := (show r8 = nI (pm_wm (S 4 f) 1 3) from h9).trans (congrArg nI (pm_wm_tk _))
      have := pm_tk8 (S 4 f)
      refine vp_callSi (W.runS (As := [.int (nI (pm_tk (S 4 f)))]) (rest := []) ⟨hx, hb, hml, hown, hts⟩ (k_X4_ones l (pm_tk (S 4 f)) (by omega)) (va_cwS 1 hts gX4_reason_X4_ones rfl rfl rfl hd_X4_ones ⟨Nat.le_of_ble_eq_true rfl, Nat.le_of_ble_eq_true rfl⟩) ⟨pm_no_blind, pm_no_pre⟩ rfl rfl hl.1 rfl (lv_room (Nat.le_of_ble_eq_true rfl)) dX4_reason_29 ⟨Nat.le_of_ble_eq_true rfl, Nat.le_of_ble_eq_true rfl⟩) (fun r10 h11 => ?_)
      obtain rfl : r10 = nI (pm_pc (pm_tk (S 4 f))) := h11
      have := pm_pc4 (pm_tk (S 4 f))
      refine lv_aload_n hx hb dX4_reason_32 rfl (lv_at hl 0 rfl) ?_
      refine va_get (D := D) (ci := 4) (v := .ref (q 1)) (C := RX4) (T := TX4) (N := 7) hx hb hts hin4 hown hK hP 0 rfl rfl 0 (by decide) (hts (.fieldLink RX4 7 "ProofMarksModel" "s" "[I") (List.mem_of_getElem? (i := 1) rfl)) (fun _ h9 => h9) rfl dX4_reason_33 ?_
      refine lv_sipush (v := nI 162) hx hb dX4_reason_36 (by decide) ?_
      refine kx_iald (v := nI (S 9 0)) hx hb hK hP 1 0 rfl rfl (by omega) (by decide) (pm_ms_s (S := S) (k := 0) (by omega)) dX4_reason_39 ?_
      refine kx_icmp_ge (tgt := 47) hx hb (by omega) (by omega) dX4_reason_40 (by decide) (fun c12 => ?_) (fun c12 => ?_)
      · skip
        refine lv_iconst (v := nI 0) hx hb dX4_reason_47 (by decide) ?_
        exact W.iret hx hb hr (fun t ht _ => ⟨_, rfl, (congrArg nI (by unfold pm_tc; (repeat' split) <;> omega)), ht⟩) (fun _ h => absurd h List.not_mem_nil) dX4_reason_48
      · skip
        refine lv_iconst (v := nI 3) hx hb dX4_reason_43 (by decide) ?_
        refine lv_goto (tgt := 48) hx hb dX4_reason_44 (by decide) ?_
        exact W.iret hx hb hr (fun t ht _ => ⟨_, rfl, (congrArg nI (by unfold pm_tc; (repeat' split) <;> omega)), ht⟩) (fun _ h => absurd h List.not_mem_nil) dX4_reason_48
    · skip
      refine lv_iconst (v := nI 2) hx hb dX4_reason_19 (by decide) ?_
      refine lv_goto (tgt := 48) hx hb dX4_reason_20 (by decide) ?_
      exact W.iret hx hb hr (fun t ht _ => ⟨_, rfl, (congrArg nI (by unfold pm_tc; (repeat' split) <;> omega)), ht⟩) (fun _ h => absurd h List.not_mem_nil) dX4_reason_48
  · skip
    refine lv_if_ne (tgt := 10) hx hb dX4_reason_5 (by decide) (fun c13 => (c13 (by decide)).elim) (fun _ => ?_)
    refine lv_iconst (v := nI 1) hx hb dX4_reason_8 (by decide) ?_
    exact W.iret hx hb hr (fun t ht _ => ⟨_, rfl, (congrArg nI (by unfold pm_tc; (repeat' split) <;> omega)), ht⟩) (fun _ h => absurd h List.not_mem_nil) dX4_reason_9

set_option maxHeartbeats 4000000 in
set_option maxRecDepth 100000 in
theorem k_X4_why (l : Launch) (D : va_G) (y : Nat → ClassId) (q : Nat → Nat) (S : Nat → Nat → Nat) (gp gs : Nat → Int32) (kn ln : Nat) (sv pd : Nat → Nat) (xf : Int32) (hI : pm_Inv S) : Met l yX4_why wsX4_why ({ frames := 4, cells := 0, slots := 0, locals := 88 } : Room) (pm_ro D (pm_ty y) [.ref (q 0), .int xf] (pm_mo y q S gp gs kn ln sv pd)) (vp_Si (fun r : Int32 => r = pm_why S xf)) 0 0 (fun _ => False) := by
  refine Met.ofW (cc := cX4_why) (maxL := 2) (ret := (some .int)) (by decide) rfl ?_
  intro p e s m args below meth c s₁ B hml hpre
  obtain ⟨rfl, hP, hK⟩ := hpre
  have hx := B.exec
  have hb := B.bytes
  have hr := B.returns
  have hts := atoms_spec (ws := wsX4_why) B.pre
  have hown : s.vm.findClass RX4 = some m.cls := findClass_of_methodNamed B.named
  have hlocks := B.notSynchronized
  have hin4 : ∀ w ∈ u_ws RX4 TX4 7, w ∈ wsX4_why := fun w h => List.mem_cons_of_mem _ (List.mem_append_right _ h)
  have hP : va_P D vwCl (pm_mo y q S gp gs kn ln sv pd) s.heap := hP
  have hl := lv_entry ([.ref (q 0), .int xf]) (n := 2) (Nat.le_of_ble_eq_true rfl)
  rw [lg_entry_eq]
  generalize (lg_sl ([.ref (q 0), .int xf]) ++ List.replicate (2 - (lg_sl ([.ref (q 0), .int xf])).length) Slot.unset).toArray = ls at hl ⊢
  have hl : lv_has ls 2 [(0, .ref (q 0)), (1, .int xf)] := hl
  refine lv_iload_n hx hb dX4_why_0 rfl (lv_at hl 1 rfl) ?_
  refine vp_callSi (W.runS (As := [.int xf]) (rest := []) ⟨hx, hb, hml, hown, hts⟩ (k_X4_isFrame l xf) (va_cwS 1 hts gX4_why_X4_isFrame rfl rfl rfl hd_X4_isFrame ⟨Nat.le_of_ble_eq_true rfl, Nat.le_of_ble_eq_true rfl⟩) ⟨pm_no_blind, pm_no_pre⟩ rfl rfl hl.1 rfl (lv_room (Nat.le_of_ble_eq_true rfl)) dX4_why_1 ⟨Nat.le_of_ble_eq_true rfl, Nat.le_of_ble_eq_true rfl⟩) (fun r1 h2 => ?_)
  rcases h2 with ⟨j3, hj3, ej3, rfl⟩ | ⟨hnj3, rfl⟩
  · subst ej3
    refine lv_if_eq (tgt := 15) hx hb dX4_why_4 (by decide) (fun c4 => absurd c4 (by decide)) (fun _ => ?_)
    refine lv_aload_n hx hb dX4_why_7 rfl (lv_at hl 0 rfl) ?_
    refine lv_iload_n hx hb dX4_why_8 rfl (lv_at hl 1 rfl) ?_
    refine vp_callSi (W.runV (As := [.int (nI j3)]) (rest := []) ⟨hx, hb, hml, hown, hts⟩ (k_X4_reason l D y q S gp gs kn ln sv pd j3 (hI.okm j3 (by omega)) (hI.how j3 (by omega)) (hI.set9 0 (by decide)) (by omega)) (cwV 1 hts gX4_why_X4_reason rfl rfl rfl hd_X4_reason ⟨Nat.le_of_ble_eq_true rfl, Nat.le_of_ble_eq_true rfl⟩) ⟨pm_ro_blind, va_recv hK hP (ci := 4) (q0 := 0) rfl rfl, pm_ro_pre hP hK⟩ rfl rfl hl.1 rfl (lv_room (Nat.le_of_ble_eq_true rfl)) dX4_why_9 ⟨Nat.le_of_ble_eq_true rfl, Nat.le_of_ble_eq_true rfl⟩) (fun r5 h6 => ?_)
    obtain rfl : r5 = nI (if S 0 j3 ≠ 0 then 1 else if pm_ck (S 4 j3) ≠ 0 then 2 else if S 9 0 ≤ pm_tc (S 4 j3) then 0 else 3) := h6
    refine lv_goto (tgt := 16) hx hb dX4_why_12 (by decide) ?_
    exact W.iret hx hb hr (fun t ht _ => ⟨_, rfl, (by simp only [pm_why, pm_ix_in hj3 (show (30 : Nat) < 2 ^ 31 by decide)] <;> ((repeat' split) <;> rfl)), ht⟩) (fun _ h => absurd h List.not_mem_nil) dX4_why_16
  · skip
    refine lv_if_eq (tgt := 15) hx hb dX4_why_4 (by decide) (fun _ => ?_) (fun c7 => (c7 (by decide)).elim)
    refine lv_iconst (v := -1) hx hb dX4_why_15 (by decide) ?_
    exact W.iret hx hb hr (fun t ht _ => ⟨_, rfl, (by simp only [pm_why, pm_ix_out hnj3] <;> ((repeat' split) <;> rfl)), ht⟩) (fun _ h => absurd h List.not_mem_nil) dX4_why_16

set_option maxHeartbeats 4000000 in
set_option maxRecDepth 100000 in
theorem k_X4_ifRound (l : Launch) (D : va_G) (y : Nat → ClassId) (q : Nat → Nat) (S : Nat → Nat → Nat) (gp gs : Nat → Int32) (kn ln : Nat) (sv pd : Nat → Nat) (xw : Int32) (hI : pm_Inv S) : Met l yX4_ifRound wsX4_ifRound ({ frames := 4, cells := 0, slots := 0, locals := 91 } : Room) (pm_ro D (pm_ty y) [.ref (q 0), .int xw] (pm_mo y q S gp gs kn ln sv pd)) (vp_Si (fun r : Int32 => r = pm_ifr S xw)) 0 0 (fun _ => False) := by
  refine Met.ofW (cc := cX4_ifRound) (maxL := 5) (ret := (some .int)) (by decide) rfl ?_
  intro p e s m args below meth c s₁ B hml hpre
  obtain ⟨rfl, hP, hK⟩ := hpre
  have hx := B.exec
  have hb := B.bytes
  have hr := B.returns
  have hts := atoms_spec (ws := wsX4_ifRound) B.pre
  have hown : s.vm.findClass RX4 = some m.cls := findClass_of_methodNamed B.named
  have hlocks := B.notSynchronized
  have hin4 : ∀ w ∈ u_ws RX4 TX4 7, w ∈ wsX4_ifRound := fun w h => List.mem_cons_of_mem _ (List.mem_append_right _ h)
  have hP : va_P D vwCl (pm_mo y q S gp gs kn ln sv pd) s.heap := hP
  have hl := lv_entry ([.ref (q 0), .int xw]) (n := 5) (Nat.le_of_ble_eq_true rfl)
  rw [lg_entry_eq]
  generalize (lg_sl ([.ref (q 0), .int xw]) ++ List.replicate (5 - (lg_sl ([.ref (q 0), .int xw])).length) Slot.unset).toArray = ls at hl ⊢
  have hl : lv_has ls 5 [(0, .ref (q 0)), (1, .int xw)] := hl
  rcases pm_cases xw (n := 3) (by decide) with hnj1 | ⟨j1, hj1, rfl⟩
  · skip
    refine lv_iload_n hx hb dX4_ifRound_0 rfl (lv_at hl 1 rfl) ?_
    refine lv_iconst (v := nI 0) hx hb dX4_ifRound_1 (by decide) ?_
    refine lv_iconst (v := nI 2) hx hb dX4_ifRound_2 (by decide) ?_
    refine vp_callSi (W.runS (As := [.int xw, .int (nI 0), .int (nI 2)]) (rest := []) ⟨hx, hb, hml, hown, hts⟩ (k_X4_in l xw (nI 0) (nI 2)) (va_cwS 3 hts gX4_ifRound_X4_in rfl rfl rfl hd_X4_in ⟨Nat.le_of_ble_eq_true rfl, Nat.le_of_ble_eq_true rfl⟩) ⟨pm_no_blind, pm_no_pre⟩ rfl rfl hl.1 rfl (lv_room (Nat.le_of_ble_eq_true rfl)) dX4_ifRound_3 ⟨Nat.le_of_ble_eq_true rfl, Nat.le_of_ble_eq_true rfl⟩) (fun r2 h3 => ?_)
    rcases (show ((nI 0 ≤ xw ∧ xw ≤ nI 2) ∧ r2 = nI 1) ∨ (¬ (nI 0 ≤ xw ∧ xw ≤ nI 2) ∧ r2 = nI 0) from h3) with ⟨hp4, rfl⟩ | ⟨hp4, rfl⟩
    · exact (pm_no2 (n := 2) (a := 0) hnj1 (by decide) (by decide) hp4).elim
    · skip
      refine lv_if_ne (tgt := 12) hx hb dX4_ifRound_6 (by decide) (fun c5 => (c5 (by decide)).elim) (fun _ => ?_)
      refine lv_bipush (v := (-2)) hx hb dX4_ifRound_9 (by decide) ?_
      exact W.iret hx hb hr (fun t ht _ => ⟨_, rfl, (by simp only [pm_ifr, pm_ix_out hnj1]), ht⟩) (fun _ h => absurd h List.not_mem_nil) dX4_ifRound_11
  · skip
    refine lv_iload_n hx hb dX4_ifRound_0 rfl (lv_at hl 1 rfl) ?_
    refine lv_iconst (v := nI 0) hx hb dX4_ifRound_1 (by decide) ?_
    refine lv_iconst (v := nI 2) hx hb dX4_ifRound_2 (by decide) ?_
    refine vp_callSi (W.runS (As := [.int (nI j1), .int (nI 0), .int (nI 2)]) (rest := []) ⟨hx, hb, hml, hown, hts⟩ (k_X4_in l (nI j1) (nI 0) (nI 2)) (va_cwS 3 hts gX4_ifRound_X4_in rfl rfl rfl hd_X4_in ⟨Nat.le_of_ble_eq_true rfl, Nat.le_of_ble_eq_true rfl⟩) ⟨pm_no_blind, pm_no_pre⟩ rfl rfl hl.1 rfl (lv_room (Nat.le_of_ble_eq_true rfl)) dX4_ifRound_3 ⟨Nat.le_of_ble_eq_true rfl, Nat.le_of_ble_eq_true rfl⟩) (fun r6 h7 => ?_)
    rcases (show ((nI 0 ≤ nI j1 ∧ nI j1 ≤ nI 2) ∧ r6 = nI 1) ∨ (¬ (nI 0 ≤ nI j1 ∧ nI j1 ≤ nI 2) ∧ r6 = nI 0) from h7) with ⟨hp8, rfl⟩ | ⟨hp8, rfl⟩
    · replace hp8 := (pm_in_n (by omega) (by decide) (by decide)).mp hp8
      refine lv_if_ne (tgt := 12) hx hb dX4_ifRound_6 (by decide) (fun _ => ?_) (fun c9 => absurd c9 (by decide))
      refine lv_iload_n hx hb dX4_ifRound_12 rfl (lv_at hl 1 rfl) ?_
      refine kx_if_ne (tgt := 20) hx hb (by omega) dX4_ifRound_13 (by decide) (fun c10 => ?_) (fun c10 => ?_)
      · skip
        refine lv_iload_n hx hb dX4_ifRound_20 rfl (lv_at hl 1 rfl) ?_
        refine lv_iconst (v := nI 1) hx hb dX4_ifRound_21 (by decide) ?_
        refine kx_icmp_ne (tgt := 29) hx hb (by omega) (by decide) dX4_ifRound_22 (by decide) (fun c11 => ?_) (fun c11 => ?_)
        · skip
          refine lv_iconst (v := nI 0) hx hb dX4_ifRound_29 (by decide) ?_
          refine lv_istore_n (lv' := [(2, .int (nI 0)), (0, .ref (q 0)), (1, .int (nI j1))]) hx hb dX4_ifRound_30 rfl hl (by decide) rfl (fun ls hl => ?_)
          refine lv_iconst (v := nI 0) hx hb dX4_ifRound_31 (by decide) ?_
          refine lv_istore_n (lv' := [(3, .int (nI 0)), (2, .int (nI 0)), (0, .ref (q 0)), (1, .int (nI j1))]) hx hb dX4_ifRound_32 rfl hl (by decide) rfl (fun ls hl => ?_)
          refine lv_iconst (v := nI 0) hx hb dX4_ifRound_33 (by decide) ?_
          refine lv_istore (lv' := [(4, .int (nI 0)), (3, .int (nI 0)), (2, .int (nI 0)), (0, .ref (q 0)), (1, .int (nI j1))]) hx hb dX4_ifRound_34 hl (by decide) rfl (fun ls hl => ?_)
          have LOOP36 : ∀ (n k : Nat) (ls : Array Slot), k ≤ 30 → 30 - k < n → lv_has ls 5 [(0, .ref (q 0)), (1, .int (nI j1)), (2, .int (nI 0)), (3, .int (nI (pm_num (fun k => decide (S 0 k = 0 ∧ pm_aft S k = 0)) k))), (4, .int (nI k))] → W p l e (headSpec wsX4_ifRound ({ frames := 4, cells := 0, slots := 0, locals := 91 } : Room)).room s m ([.ref (q 0), .int (nI j1)] : List Value).toArray below meth c s.heap [] 0 0 (MQ below (vp_Si (fun r : Int32 => r = pm_ifr S (nI j1))) ([.ref (q 0), .int (nI j1)] : List Value).toArray s 0 0 (fun _ => False)) (F0 m 36 ls []) := by
            intro n
            induction n with
            | zero => intro k _ hi hn; omega
            | succ n ih12 =>
              intro k ls hi_k hn_k hl 
              refine lv_iload hx hb dX4_ifRound_36 (lv_at hl 4 rfl) ?_
              refine lv_bipush (v := nI 30) hx hb dX4_ifRound_38 (by decide) ?_
              refine kx_icmp_ge (tgt := 76) hx hb (by omega) (by decide) dX4_ifRound_40 (by decide) (fun c13 => ?_) (fun c13 => ?_)
              · skip
                refine lv_iload_n hx hb dX4_ifRound_76 rfl (lv_at hl 3 rfl) ?_
                exact W.iret hx hb hr (fun t ht _ => ⟨_, rfl, (by obtain rfl : j1 = 2 := (by omega); rw [show k = 30 by omega]; simp only [pm_ifr, pm_ix_in (show (2 : Nat) < 3 by decide) (show (3 : Nat) < 2 ^ 31 by decide)]; rfl), ht⟩) (fun _ h => absurd h List.not_mem_nil) dX4_ifRound_77
              · skip
                refine lv_iload_n hx hb dX4_ifRound_43 rfl (lv_at hl 3 rfl) ?_
                refine lv_aload_n hx hb dX4_ifRound_44 rfl (lv_at hl 0 rfl) ?_
                refine lv_iload hx hb dX4_ifRound_45 (lv_at hl 4 rfl) ?_
                refine vp_callSi (W.runV (As := [.int (nI k)]) (rest := [.int (nI (pm_num (fun k => decide (S 0 k = 0 ∧ pm_aft S k = 0)) k))]) ⟨hx, hb, hml, hown, hts⟩ (k_X4_isOpen l D y q S gp gs kn ln sv pd k (hI.how k (by omega)) (by omega)) (cwV 1 hts gX4_ifRound_X4_isOpen rfl rfl rfl hd_X4_isOpen ⟨Nat.le_of_ble_eq_true rfl, Nat.le_of_ble_eq_true rfl⟩) ⟨pm_ro_blind, va_recv hK hP (ci := 4) (q0 := 0) rfl rfl, pm_ro_pre hP hK⟩ rfl rfl hl.1 rfl (lv_room (Nat.le_of_ble_eq_true rfl)) dX4_ifRound_47 ⟨Nat.le_of_ble_eq_true rfl, Nat.le_of_ble_eq_true rfl⟩) (fun r14 h15 => ?_)
                rcases (show ((S 0 k = 0) ∧ r14 = nI 1) ∨ (¬ (S 0 k = 0) ∧ r14 = nI 0) from h15) with ⟨hp16, rfl⟩ | ⟨hp16, rfl⟩
                · skip
                  refine lv_if_eq (tgt := 67) hx hb dX4_ifRound_50 (by decide) (fun c17 => absurd c17 (by decide)) (fun _ => ?_)
                  refine lv_aload_n hx hb dX4_ifRound_53 rfl (lv_at hl 0 rfl) ?_
                  refine lv_iload hx hb dX4_ifRound_54 (lv_at hl 4 rfl) ?_
                  refine vp_callSi (W.runV (As := [.int (nI k)]) (rest := [.int (nI (pm_num (fun k => decide (S 0 k = 0 ∧ pm_aft S k = 0)) k))]) ⟨hx, hb, hml, hown, hts⟩ (k_X4_then l D y q S gp gs kn ln sv pd k (hI.okm k (by omega)) (hI.set9 0 (by decide)) (hI.set9 3 (by decide)) (Nat.le_trans (hI.dull k (by omega)) hI.rnd) (by omega)) (cwV 1 hts gX4_ifRound_X4_then rfl rfl rfl hd_X4_then ⟨Nat.le_of_ble_eq_true rfl, Nat.le_of_ble_eq_true rfl⟩) ⟨pm_ro_blind, va_recv hK hP (ci := 4) (q0 := 0) rfl rfl, pm_ro_pre hP hK⟩ rfl rfl hl.1 rfl (lv_room (Nat.le_of_ble_eq_true rfl)) dX4_ifRound_56 ⟨Nat.le_of_ble_eq_true rfl, Nat.le_of_ble_eq_true rfl⟩) (fun r18 h19 => ?_)
                  obtain rfl : r18 = nI (pm_aft S k) := h19
                  have := pm_aft3 S k
                  refine lv_iload_n hx hb dX4_ifRound_59 rfl (lv_at hl 2 rfl) ?_
                  refine kx_icmp_ne (tgt := 67) hx hb (by omega) (by decide) dX4_ifRound_60 (by decide) (fun c20 => ?_) (fun c20 => ?_)
                  · skip
                    refine lv_iconst (v := nI 0) hx hb dX4_ifRound_67 (by decide) ?_
                    refine kx_iadd hx hb dX4_ifRound_68 ?_
                    refine lv_istore_n (lv' := [(3, .int (nI ((pm_num (fun k => decide (S 0 k = 0 ∧ pm_aft S k = 0)) k) + 0))), (0, .ref (q 0)), (1, .int (nI j1)), (2, .int (nI 0)), (4, .int (nI k))]) hx hb dX4_ifRound_69 rfl hl (by decide) rfl (fun ls hl => ?_)
                    refine kx_iinc (a := k) (lv' := [(4, .int (nI (k + 1))), (3, .int (nI ((pm_num (fun k => decide (S 0 k = 0 ∧ pm_aft S k = 0)) k) + 0))), (0, .ref (q 0)), (1, .int (nI j1)), (2, .int (nI 0))]) hx hb dX4_ifRound_70 hl (k := 4) rfl (by decide) rfl (fun ls hl => ?_)
                    refine lv_goto (tgt := 36) hx hb dX4_ifRound_73 (by decide) ?_
                    have q21 : (nI (pm_num (fun k => decide (S 0 k = 0 ∧ pm_aft S k = 0)) (k + 1)) : Int32) = nI ((pm_num (fun k => decide (S 0 k = 0 ∧ pm_aft S k = 0)) k) + 0) := (congrArg nI (by first | exact pm_num_p (decide_eq_true (by omega)) | exact pm_num_n (decide_eq_false (by omega))))
                    exact ih12 (k + 1) ls (by omega) (by omega) (by rw [q21]; exact lv_sub hl [2, 3, 4, 1, 0] rfl) 
                  · skip
                    refine lv_iconst (v := nI 1) hx hb dX4_ifRound_63 (by decide) ?_
                    refine lv_goto (tgt := 68) hx hb dX4_ifRound_64 (by decide) ?_
                    refine kx_iadd hx hb dX4_ifRound_68 ?_
                    refine lv_istore_n (lv' := [(3, .int (nI ((pm_num (fun k => decide (S 0 k = 0 ∧ pm_aft S k = 0)) k) + 1))), (0, .ref (q 0)), (1, .int (nI j1)), (2, .int (nI 0)), (4, .int (nI k))]) hx hb dX4_ifRound_69 rfl hl (by decide) rfl (fun ls hl => ?_)
                    refine kx_iinc (a := k) (lv' := [(4, .int (nI (k + 1))), (3, .int (nI ((pm_num (fun k => decide (S 0 k = 0 ∧ pm_aft S k = 0)) k) + 1))), (0, .ref (q 0)), (1, .int (nI j1)), (2, .int (nI 0))]) hx hb dX4_ifRound_70 hl (k := 4) rfl (by decide) rfl (fun ls hl => ?_)
                    refine lv_goto (tgt := 36) hx hb dX4_ifRound_73 (by decide) ?_
                    have q22 : (nI (pm_num (fun k => decide (S 0 k = 0 ∧ pm_aft S k = 0)) (k + 1)) : Int32) = nI ((pm_num (fun k => decide (S 0 k = 0 ∧ pm_aft S k = 0)) k) + 1) := (congrArg nI (by first | exact pm_num_p (decide_eq_true (by omega)) | exact pm_num_n (decide_eq_false (by omega))))
                    exact ih12 (k + 1) ls (by omega) (by omega) (by rw [q22]; exact lv_sub hl [2, 3, 4, 1, 0] rfl) 
                · skip
                  refine lv_if_eq (tgt := 67) hx hb dX4_ifRound_50 (by decide) (fun _ => ?_) (fun c23 => (c23 (by decide)).elim)
                  refine lv_iconst (v := nI 0) hx hb dX4_ifRound_67 (by decide) ?_
                  refine kx_iadd hx hb dX4_ifRound_68 ?_
                  refine lv_istore_n (lv' := [(3, .int (nI ((pm_num (fun k => decide (S 0 k = 0 ∧ pm_aft S k = 0)) k) + 0))), (0, .ref (q 0)), (1, .int (nI j1)), (2, .int (nI 0)), (4, .int (nI k))]) hx hb dX4_ifRound_69 rfl hl (by decide) rfl (fun ls hl => ?_)
                  refine kx_iinc (a := k) (lv' := [(4, .int (nI (k + 1))), (3, .int (nI ((pm_num (fun k => decide (S 0 k = 0 ∧ pm_aft S k = 0)) k) + 0))), (0, .ref (q 0)), (1, .int (nI j1)), (2, .int (nI 0))]) hx hb dX4_ifRound_70 hl (k := 4) rfl (by decide) rfl (fun ls hl => ?_)
                  refine lv_goto (tgt := 36) hx hb dX4_ifRound_73 (by decide) ?_
                  have q24 : (nI (pm_num (fun k => decide (S 0 k = 0 ∧ pm_aft S k = 0)) (k + 1)) : Int32) = nI ((pm_num (fun k => decide (S 0 k = 0 ∧ pm_aft S k = 0)) k) + 0) := (congrArg nI (by first | exact pm_num_p (decide_eq_true (by omega)) | exact pm_num_n (decide_eq_false (by omega))))
                  exact ih12 (k + 1) ls (by omega) (by omega) (by rw [q24]; exact lv_sub hl [2, 3, 4, 1, 0] rfl) 
          exact LOOP36 (30 + 1) 0 ls (by omega) (by omega) (lv_sub hl [3, 4, 2, 1, 0] rfl) 
        · skip
          refine lv_iconst (v := nI 2) hx hb dX4_ifRound_25 (by decide) ?_
          refine lv_goto (tgt := 30) hx hb dX4_ifRound_26 (by decide) ?_
          refine lv_istore_n (lv' := [(2, .int (nI 2)), (0, .ref (q 0)), (1, .int (nI j1))]) hx hb dX4_ifRound_30 rfl hl (by decide) rfl (fun ls hl => ?_)
          refine lv_iconst (v := nI 0) hx hb dX4_ifRound_31 (by decide) ?_
          refine lv_istore_n (lv' := [(3, .int (nI 0)), (2, .int (nI 2)), (0, .ref (q 0)), (1, .int (nI j1))]) hx hb dX4_ifRound_32 rfl hl (by decide) rfl (fun ls hl => ?_)
          refine lv_iconst (v := nI 0) hx hb dX4_ifRound_33 (by decide) ?_
          refine lv_istore (lv' := [(4, .int (nI 0)), (3, .int (nI 0)), (2, .int (nI 2)), (0, .ref (q 0)), (1, .int (nI j1))]) hx hb dX4_ifRound_34 hl (by decide) rfl (fun ls hl => ?_)
          have LOOP36 : ∀ (n k : Nat) (ls : Array Slot), k ≤ 30 → 30 - k < n → lv_has ls 5 [(0, .ref (q 0)), (1, .int (nI j1)), (2, .int (nI 2)), (3, .int (nI (pm_num (fun k => decide (S 0 k = 0 ∧ pm_aft S k = 2)) k))), (4, .int (nI k))] → W p l e (headSpec wsX4_ifRound ({ frames := 4, cells := 0, slots := 0, locals := 91 } : Room)).room s m ([.ref (q 0), .int (nI j1)] : List Value).toArray below meth c s.heap [] 0 0 (MQ below (vp_Si (fun r : Int32 => r = pm_ifr S (nI j1))) ([.ref (q 0), .int (nI j1)] : List Value).toArray s 0 0 (fun _ => False)) (F0 m 36 ls []) := by
            intro n
            induction n with
            | zero => intro k _ hi hn; omega
            | succ n ih25 =>
              intro k ls hi_k hn_k hl 
              refine lv_iload hx hb dX4_ifRound_36 (lv_at hl 4 rfl) ?_
              refine lv_bipush (v := nI 30) hx hb dX4_ifRound_38 (by decide) ?_
              refine kx_icmp_ge (tgt := 76) hx hb (by omega) (by decide) dX4_ifRound_40 (by decide) (fun c26 => ?_) (fun c26 => ?_)
              · skip
                refine lv_iload_n hx hb dX4_ifRound_76 rfl (lv_at hl 3 rfl) ?_
                exact W.iret hx hb hr (fun t ht _ => ⟨_, rfl, (by obtain rfl : j1 = 1 := (by omega); rw [show k = 30 by omega]; simp only [pm_ifr, pm_ix_in (show (1 : Nat) < 3 by decide) (show (3 : Nat) < 2 ^ 31 by decide)]; rfl), ht⟩) (fun _ h => absurd h List.not_mem_nil) dX4_ifRound_77
              · skip
                refine lv_iload_n hx hb dX4_ifRound_43 rfl (lv_at hl 3 rfl) ?_
                refine lv_aload_n hx hb dX4_ifRound_44 rfl (lv_at hl 0 rfl) ?_
                refine lv_iload hx hb dX4_ifRound_45 (lv_at hl 4 rfl) ?_
                refine vp_callSi (W.runV (As := [.int (nI k)]) (rest := [.int (nI (pm_num (fun k => decide (S 0 k = 0 ∧ pm_aft S k = 2)) k))]) ⟨hx, hb, hml, hown, hts⟩ (k_X4_isOpen l D y q S gp gs kn ln sv pd k (hI.how k (by omega)) (by omega)) (cwV 1 hts gX4_ifRound_X4_isOpen rfl rfl rfl hd_X4_isOpen ⟨Nat.le_of_ble_eq_true rfl, Nat.le_of_ble_eq_true rfl⟩) ⟨pm_ro_blind, va_recv hK hP (ci := 4) (q0 := 0) rfl rfl, pm_ro_pre hP hK⟩ rfl rfl hl.1 rfl (lv_room (Nat.le_of_ble_eq_true rfl)) dX4_ifRound_47 ⟨Nat.le_of_ble_eq_true rfl, Nat.le_of_ble_eq_true rfl⟩) (fun r27 h28 => ?_)
                rcases (show ((S 0 k = 0) ∧ r27 = nI 1) ∨ (¬ (S 0 k = 0) ∧ r27 = nI 0) from h28) with ⟨hp29, rfl⟩ | ⟨hp29, rfl⟩
                · skip
                  refine lv_if_eq (tgt := 67) hx hb dX4_ifRound_50 (by decide) (fun c30 => absurd c30 (by decide)) (fun _ => ?_)
                  refine lv_aload_n hx hb dX4_ifRound_53 rfl (lv_at hl 0 rfl) ?_
                  refine lv_iload hx hb dX4_ifRound_54 (lv_at hl 4 rfl) ?_
                  refine vp_callSi (W.runV (As := [.int (nI k)]) (rest := [.int (nI (pm_num (fun k => decide (S 0 k = 0 ∧ pm_aft S k = 2)) k))]) ⟨hx, hb, hml, hown, hts⟩ (k_X4_then l D y q S gp gs kn ln sv pd k (hI.okm k (by omega)) (hI.set9 0 (by decide)) (hI.set9 3 (by decide)) (Nat.le_trans (hI.dull k (by omega)) hI.rnd) (by omega)) (cwV 1 hts gX4_ifRound_X4_then rfl rfl rfl hd_X4_then ⟨Nat.le_of_ble_eq_true rfl, Nat.le_of_ble_eq_true rfl⟩) ⟨pm_ro_blind, va_recv hK hP (ci := 4) (q0 := 0) rfl rfl, pm_ro_pre hP hK⟩ rfl rfl hl.1 rfl (lv_room (Nat.le_of_ble_eq_true rfl)) dX4_ifRound_56 ⟨Nat.le_of_ble_eq_true rfl, Nat.le_of_ble_eq_true rfl⟩) (fun r31 h32 => ?_)
                  obtain rfl : r31 = nI (pm_aft S k) := h32
                  have := pm_aft3 S k
                  refine lv_iload_n hx hb dX4_ifRound_59 rfl (lv_at hl 2 rfl) ?_
                  refine kx_icmp_ne (tgt := 67) hx hb (by omega) (by decide) dX4_ifRound_60 (by decide) (fun c33 => ?_) (fun c33 => ?_)
                  · skip
                    refine lv_iconst (v := nI 0) hx hb dX4_ifRound_67 (by decide) ?_
                    refine kx_iadd hx hb dX4_ifRound_68 ?_
                    refine lv_istore_n (lv' := [(3, .int (nI ((pm_num (fun k => decide (S 0 k = 0 ∧ pm_aft S k = 2)) k) + 0))), (0, .ref (q 0)), (1, .int (nI j1)), (2, .int (nI 2)), (4, .int (nI k))]) hx hb dX4_ifRound_69 rfl hl (by decide) rfl (fun ls hl => ?_)
                    refine kx_iinc (a := k) (lv' := [(4, .int (nI (k + 1))), (3, .int (nI ((pm_num (fun k => decide (S 0 k = 0 ∧ pm_aft S k = 2)) k) + 0))), (0, .ref (q 0)), (1, .int (nI j1)), (2, .int (nI 2))]) hx hb dX4_ifRound_70 hl (k := 4) rfl (by decide) rfl (fun ls hl => ?_)
                    refine lv_goto (tgt := 36) hx hb dX4_ifRound_73 (by decide) ?_
                    have q34 : (nI (pm_num (fun k => decide (S 0 k = 0 ∧ pm_aft S k = 2)) (k + 1)) : Int32) = nI ((pm_num (fun k => decide (S 0 k = 0 ∧ pm_aft S k = 2)) k) + 0) := (congrArg nI (by first | exact pm_num_p (decide_eq_true (by omega)) | exact pm_num_n (decide_eq_false (by omega))))
                    exact ih25 (k + 1) ls (by omega) (by omega) (by rw [q34]; exact lv_sub hl [2, 3, 4, 1, 0] rfl) 
                  · skip
                    refine lv_iconst (v := nI 1) hx hb dX4_ifRound_63 (by decide) ?_
                    refine lv_goto (tgt := 68) hx hb dX4_ifRound_64 (by decide) ?_
                    refine kx_iadd hx hb dX4_ifRound_68 ?_
                    refine lv_istore_n (lv' := [(3, .int (nI ((pm_num (fun k => decide (S 0 k = 0 ∧ pm_aft S k = 2)) k) + 1))), (0, .ref (q 0)), (1, .int (nI j1)), (2, .int (nI 2)), (4, .int (nI k))]) hx hb dX4_ifRound_69 rfl hl (by decide) rfl (fun ls hl => ?_)
                    refine kx_iinc (a := k) (lv' := [(4, .int (nI (k + 1))), (3, .int (nI ((pm_num (fun k => decide (S 0 k = 0 ∧ pm_aft S k = 2)) k) + 1))), (0, .ref (q 0)), (1, .int (nI j1)), (2, .int (nI 2))]) hx hb dX4_ifRound_70 hl (k := 4) rfl (by decide) rfl (fun ls hl => ?_)
                    refine lv_goto (tgt := 36) hx hb dX4_ifRound_73 (by decide) ?_
                    have q35 : (nI (pm_num (fun k => decide (S 0 k = 0 ∧ pm_aft S k = 2)) (k + 1)) : Int32) = nI ((pm_num (fun k => decide (S 0 k = 0 ∧ pm_aft S k = 2)) k) + 1) := (congrArg nI (by first | exact pm_num_p (decide_eq_true (by omega)) | exact pm_num_n (decide_eq_false (by omega))))
                    exact ih25 (k + 1) ls (by omega) (by omega) (by rw [q35]; exact lv_sub hl [2, 3, 4, 1, 0] rfl) 
                · skip
                  refine lv_if_eq (tgt := 67) hx hb dX4_ifRound_50 (by decide) (fun _ => ?_) (fun c36 => (c36 (by decide)).elim)
                  refine lv_iconst (v := nI 0) hx hb dX4_ifRound_67 (by decide) ?_
                  refine kx_iadd hx hb dX4_ifRound_68 ?_
                  refine lv_istore_n (lv' := [(3, .int (nI ((pm_num (fun k => decide (S 0 k = 0 ∧ pm_aft S k = 2)) k) + 0))), (0, .ref (q 0)), (1, .int (nI j1)), (2, .int (nI 2)), (4, .int (nI k))]) hx hb dX4_ifRound_69 rfl hl (by decide) rfl (fun ls hl => ?_)
                  refine kx_iinc (a := k) (lv' := [(4, .int (nI (k + 1))), (3, .int (nI ((pm_num (fun k => decide (S 0 k = 0 ∧ pm_aft S k = 2)) k) + 0))), (0, .ref (q 0)), (1, .int (nI j1)), (2, .int (nI 2))]) hx hb dX4_ifRound_70 hl (k := 4) rfl (by decide) rfl (fun ls hl => ?_)
                  refine lv_goto (tgt := 36) hx hb dX4_ifRound_73 (by decide) ?_
                  have q37 : (nI (pm_num (fun k => decide (S 0 k = 0 ∧ pm_aft S k = 2)) (k + 1)) : Int32) = nI ((pm_num (fun k => decide (S 0 k = 0 ∧ pm_aft S k = 2)) k) + 0) := (congrArg nI (by first | exact pm_num_p (decide_eq_true (by omega)) | exact pm_num_n (decide_eq_false (by omega))))
                  exact ih25 (k + 1) ls (by omega) (by omega) (by rw [q37]; exact lv_sub hl [2, 3, 4, 1, 0] rfl) 
          exact LOOP36 (30 + 1) 0 ls (by omega) (by omega) (lv_sub hl [3, 4, 2, 1, 0] rfl) 
      · skip
        refine lv_iconst (v := nI 1) hx hb dX4_ifRound_16 (by decide) ?_
        refine lv_goto (tgt := 30) hx hb dX4_ifRound_17 (by decide) ?_
        refine lv_istore_n (lv' := [(2, .int (nI 1)), (0, .ref (q 0)), (1, .int (nI j1))]) hx hb dX4_ifRound_30 rfl hl (by decide) rfl (fun ls hl => ?_)
        refine lv_iconst (v := nI 0) hx hb dX4_ifRound_31 (by decide) ?_
        refine lv_istore_n (lv' := [(3, .int (nI 0)), (2, .int (nI 1)), (0, .ref (q 0)), (1, .int (nI j1))]) hx hb dX4_ifRound_32 rfl hl (by decide) rfl (fun ls hl => ?_)
        refine lv_iconst (v := nI 0) hx hb dX4_ifRound_33 (by decide) ?_
        refine lv_istore (lv' := [(4, .int (nI 0)), (3, .int (nI 0)), (2, .int (nI 1)), (0, .ref (q 0)), (1, .int (nI j1))]) hx hb dX4_ifRound_34 hl (by decide) rfl (fun ls hl => ?_)
        have LOOP36 : ∀ (n k : Nat) (ls : Array Slot), k ≤ 30 → 30 - k < n → lv_has ls 5 [(0, .ref (q 0)), (1, .int (nI j1)), (2, .int (nI 1)), (3, .int (nI (pm_num (fun k => decide (S 0 k = 0 ∧ pm_aft S k = 1)) k))), (4, .int (nI k))] → W p l e (headSpec wsX4_ifRound ({ frames := 4, cells := 0, slots := 0, locals := 91 } : Room)).room s m ([.ref (q 0), .int (nI j1)] : List Value).toArray below meth c s.heap [] 0 0 (MQ below (vp_Si (fun r : Int32 => r = pm_ifr S (nI j1))) ([.ref (q 0), .int (nI j1)] : List Value).toArray s 0 0 (fun _ => False)) (F0 m 36 ls []) := by
          intro n
          induction n with
          | zero => intro k _ hi hn; omega
          | succ n ih38 =>
            intro k ls hi_k hn_k hl 
            refine lv_iload hx hb dX4_ifRound_36 (lv_at hl 4 rfl) ?_
            refine lv_bipush (v := nI 30) hx hb dX4_ifRound_38 (by decide) ?_
            refine kx_icmp_ge (tgt := 76) hx hb (by omega) (by decide) dX4_ifRound_40 (by decide) (fun c39 => ?_) (fun c39 => ?_)
            · skip
              refine lv_iload_n hx hb dX4_ifRound_76 rfl (lv_at hl 3 rfl) ?_
              exact W.iret hx hb hr (fun t ht _ => ⟨_, rfl, (by obtain rfl : j1 = 0 := (by omega); rw [show k = 30 by omega]; simp only [pm_ifr, pm_ix_in (show (0 : Nat) < 3 by decide) (show (3 : Nat) < 2 ^ 31 by decide)]; rfl), ht⟩) (fun _ h => absurd h List.not_mem_nil) dX4_ifRound_77
            · skip
              refine lv_iload_n hx hb dX4_ifRound_43 rfl (lv_at hl 3 rfl) ?_
              refine lv_aload_n hx hb dX4_ifRound_44 rfl (lv_at hl 0 rfl) ?_
              refine lv_iload hx hb dX4_ifRound_45 (lv_at hl 4 rfl) ?_
              refine vp_callSi (W.runV (As := [.int (nI k)]) (rest := [.int (nI (pm_num (fun k => decide (S 0 k = 0 ∧ pm_aft S k = 1)) k))]) ⟨hx, hb, hml, hown, hts⟩ (k_X4_isOpen l D y q S gp gs kn ln sv pd k (hI.how k (by omega)) (by omega)) (cwV 1 hts gX4_ifRound_X4_isOpen rfl rfl rfl hd_X4_isOpen ⟨Nat.le_of_ble_eq_true rfl, Nat.le_of_ble_eq_true rfl⟩) ⟨pm_ro_blind, va_recv hK hP (ci := 4) (q0 := 0) rfl rfl, pm_ro_pre hP hK⟩ rfl rfl hl.1 rfl (lv_room (Nat.le_of_ble_eq_true rfl)) dX4_ifRound_47 ⟨Nat.le_of_ble_eq_true rfl, Nat.le_of_ble_eq_true rfl⟩) (fun r40 h41 => ?_)
              rcases (show ((S 0 k = 0) ∧ r40 = nI 1) ∨ (¬ (S 0 k = 0) ∧ r40 = nI 0) from h41) with ⟨hp42, rfl⟩ | ⟨hp42, rfl⟩
              · skip
                refine lv_if_eq (tgt := 67) hx hb dX4_ifRound_50 (by decide) (fun c43 => absurd c43 (by decide)) (fun _ => ?_)
                refine lv_aload_n hx hb dX4_ifRound_53 rfl (lv_at hl 0 rfl) ?_
                refine lv_iload hx hb dX4_ifRound_54 (lv_at hl 4 rfl) ?_
                refine vp_callSi (W.runV (As := [.int (nI k)]) (rest := [.int (nI (pm_num (fun k => decide (S 0 k = 0 ∧ pm_aft S k = 1)) k))]) ⟨hx, hb, hml, hown, hts⟩ (k_X4_then l D y q S gp gs kn ln sv pd k (hI.okm k (by omega)) (hI.set9 0 (by decide)) (hI.set9 3 (by decide)) (Nat.le_trans (hI.dull k (by omega)) hI.rnd) (by omega)) (cwV 1 hts gX4_ifRound_X4_then rfl rfl rfl hd_X4_then ⟨Nat.le_of_ble_eq_true rfl, Nat.le_of_ble_eq_true rfl⟩) ⟨pm_ro_blind, va_recv hK hP (ci := 4) (q0 := 0) rfl rfl, pm_ro_pre hP hK⟩ rfl rfl hl.1 rfl (lv_room (Nat.le_of_ble_eq_true rfl)) dX4_ifRound_56 ⟨Nat.le_of_ble_eq_true rfl, Nat.le_of_ble_eq_true rfl⟩) (fun r44 h45 => ?_)
                obtain rfl : r44 = nI (pm_aft S k) := h45
                have := pm_aft3 S k
                refine lv_iload_n hx hb dX4_ifRound_59 rfl (lv_at hl 2 rfl) ?_
                refine kx_icmp_ne (tgt := 67) hx hb (by omega) (by decide) dX4_ifRound_60 (by decide) (fun c46 => ?_) (fun c46 => ?_)
                · skip
                  refine lv_iconst (v := nI 0) hx hb dX4_ifRound_67 (by decide) ?_
                  refine kx_iadd hx hb dX4_ifRound_68 ?_
                  refine lv_istore_n (lv' := [(3, .int (nI ((pm_num (fun k => decide (S 0 k = 0 ∧ pm_aft S k = 1)) k) + 0))), (0, .ref (q 0)), (1, .int (nI j1)), (2, .int (nI 1)), (4, .int (nI k))]) hx hb dX4_ifRound_69 rfl hl (by decide) rfl (fun ls hl => ?_)
                  refine kx_iinc (a := k) (lv' := [(4, .int (nI (k + 1))), (3, .int (nI ((pm_num (fun k => decide (S 0 k = 0 ∧ pm_aft S k = 1)) k) + 0))), (0, .ref (q 0)), (1, .int (nI j1)), (2, .int (nI 1))]) hx hb dX4_ifRound_70 hl (k := 4) rfl (by decide) rfl (fun ls hl => ?_)
                  refine lv_goto (tgt := 36) hx hb dX4_ifRound_73 (by decide) ?_
                  have q47 : (nI (pm_num (fun k => decide (S 0 k = 0 ∧ pm_aft S k = 1)) (k + 1)) : Int32) = nI ((pm_num (fun k => decide (S 0 k = 0 ∧ pm_aft S k = 1)) k) + 0) := (congrArg nI (by first | exact pm_num_p (decide_eq_true (by omega)) | exact pm_num_n (decide_eq_false (by omega))))
                  exact ih38 (k + 1) ls (by omega) (by omega) (by rw [q47]; exact lv_sub hl [2, 3, 4, 1, 0] rfl) 
                · skip
                  refine lv_iconst (v := nI 1) hx hb dX4_ifRound_63 (by decide) ?_
                  refine lv_goto (tgt := 68) hx hb dX4_ifRound_64 (by decide) ?_
                  refine kx_iadd hx hb dX4_ifRound_68 ?_
                  refine lv_istore_n (lv' := [(3, .int (nI ((pm_num (fun k => decide (S 0 k = 0 ∧ pm_aft S k = 1)) k) + 1))), (0, .ref (q 0)), (1, .int (nI j1)), (2, .int (nI 1)), (4, .int (nI k))]) hx hb dX4_ifRound_69 rfl hl (by decide) rfl (fun ls hl => ?_)
                  refine kx_iinc (a := k) (lv' := [(4, .int (nI (k + 1))), (3, .int (nI ((pm_num (fun k => decide (S 0 k = 0 ∧ pm_aft S k = 1)) k) + 1))), (0, .ref (q 0)), (1, .int (nI j1)), (2, .int (nI 1))]) hx hb dX4_ifRound_70 hl (k := 4) rfl (by decide) rfl (fun ls hl => ?_)
                  refine lv_goto (tgt := 36) hx hb dX4_ifRound_73 (by decide) ?_
                  have q48 : (nI (pm_num (fun k => decide (S 0 k = 0 ∧ pm_aft S k = 1)) (k + 1)) : Int32) = nI ((pm_num (fun k => decide (S 0 k = 0 ∧ pm_aft S k = 1)) k) + 1) := (congrArg nI (by first | exact pm_num_p (decide_eq_true (by omega)) | exact pm_num_n (decide_eq_false (by omega))))
                  exact ih38 (k + 1) ls (by omega) (by omega) (by rw [q48]; exact lv_sub hl [2, 3, 4, 1, 0] rfl) 
              · skip
                refine lv_if_eq (tgt := 67) hx hb dX4_ifRound_50 (by decide) (fun _ => ?_) (fun c49 => (c49 (by decide)).elim)
                refine lv_iconst (v := nI 0) hx hb dX4_ifRound_67 (by decide) ?_
                refine kx_iadd hx hb dX4_ifRound_68 ?_
                refine lv_istore_n (lv' := [(3, .int (nI ((pm_num (fun k => decide (S 0 k = 0 ∧ pm_aft S k = 1)) k) + 0))), (0, .ref (q 0)), (1, .int (nI j1)), (2, .int (nI 1)), (4, .int (nI k))]) hx hb dX4_ifRound_69 rfl hl (by decide) rfl (fun ls hl => ?_)
                refine kx_iinc (a := k) (lv' := [(4, .int (nI (k + 1))), (3, .int (nI ((pm_num (fun k => decide (S 0 k = 0 ∧ pm_aft S k = 1)) k) + 0))), (0, .ref (q 0)), (1, .int (nI j1)), (2, .int (nI 1))]) hx hb dX4_ifRound_70 hl (k := 4) rfl (by decide) rfl (fun ls hl => ?_)
                refine lv_goto (tgt := 36) hx hb dX4_ifRound_73 (by decide) ?_
                have q50 : (nI (pm_num (fun k => decide (S 0 k = 0 ∧ pm_aft S k = 1)) (k + 1)) : Int32) = nI ((pm_num (fun k => decide (S 0 k = 0 ∧ pm_aft S k = 1)) k) + 0) := (congrArg nI (by first | exact pm_num_p (decide_eq_true (by omega)) | exact pm_num_n (decide_eq_false (by omega))))
                exact ih38 (k + 1) ls (by omega) (by omega) (by rw [q50]; exact lv_sub hl [2, 3, 4, 1, 0] rfl) 
        exact LOOP36 (30 + 1) 0 ls (by omega) (by omega) (lv_sub hl [3, 4, 2, 1, 0] rfl) 
    · replace hp8 := mt (pm_in_n (by omega) (by decide) (by decide)).mpr hp8
      refine lv_if_ne (tgt := 12) hx hb dX4_ifRound_6 (by decide) (fun c51 => (c51 (by decide)).elim) (fun _ => ?_)
      refine lv_bipush (v := (-2)) hx hb dX4_ifRound_9 (by decide) ?_
      exact W.iret hx hb hr (fun t ht _ => ⟨_, rfl, (by exfalso; omega), ht⟩) (fun _ h => absurd h List.not_mem_nil) dX4_ifRound_11

theorem pm_rmd {a b : Nat} (ha : a ≤ 99) (hb : b ≤ 99) : (pm_rm a - pm_rm b < 0 ↔ a < b) ∧ (pm_rm a - pm_rm b = 0 ↔ a = b) := by
  have e : pm_rm a - pm_rm b = nI a - nI b := by
    unfold pm_rm
    apply Int32.toBitVec_inj.mp
    simp only [Int32.toBitVec_sub]
    generalize (nI a).toBitVec = x
    generalize (nI b).toBitVec = y
    have : (1 : Int32).toBitVec = 1#32 := rfl
    rw [this]
    grind
  rw [e]
  have t := pk_sub_toInt (a := a) (b := b) (by omega) (by omega)
  constructor
  · rw [Int32.lt_iff_toInt_lt, t]
    have z : (0 : Int32).toInt = 0 := rfl
    rw [z]
    omega
  · rw [← Int32.toInt_inj, t]
    have z : (0 : Int32).toInt = 0 := rfl
    rw [z]
    omega
set_option maxHeartbeats 4000000 in
set_option maxRecDepth 100000 in
theorem k_X4_ahead (l : Launch) (D : va_G) (y : Nat → ClassId) (q : Nat → Nat) (S : Nat → Nat → Nat) (gp gs : Nat → Int32) (kn ln : Nat) (sv pd : Nat → Nat) (f : Nat) (hI : pm_Inv S) (hf : f < 30) : Met l yX4_ahead wsX4_ahead ({ frames := 2, cells := 0, slots := 0, locals := 42 } : Room) (pm_ro D (pm_ty y) [.ref (q 0), .int (nI f)] (pm_mo y q S gp gs kn ln sv pd)) (vp_Si (fun r : Int32 => r = nI (pm_ahd S f))) 0 0 (fun _ => False) := by
  refine Met.ofW (cc := cX4_ahead) (maxL := 5) (ret := (some .int)) (by decide) rfl ?_
  intro p e s m args below meth c s₁ B hml hpre
  obtain ⟨rfl, hP, hK⟩ := hpre
  have hx := B.exec
  have hb := B.bytes
  have hr := B.returns
  have hts := atoms_spec (ws := wsX4_ahead) B.pre
  have hown : s.vm.findClass RX4 = some m.cls := findClass_of_methodNamed B.named
  have hlocks := B.notSynchronized
  have hin4 : ∀ w ∈ u_ws RX4 TX4 7, w ∈ wsX4_ahead := fun w h => List.mem_cons_of_mem _ (List.mem_append_right _ h)
  have hP : va_P D vwCl (pm_mo y q S gp gs kn ln sv pd) s.heap := hP
  have hl := lv_entry ([.ref (q 0), .int (nI f)]) (n := 5) (Nat.le_of_ble_eq_true rfl)
  rw [lg_entry_eq]
  generalize (lg_sl ([.ref (q 0), .int (nI f)]) ++ List.replicate (5 - (lg_sl ([.ref (q 0), .int (nI f)])).length) Slot.unset).toArray = ls at hl ⊢
  have hl : lv_has ls 5 [(0, .ref (q 0)), (1, .int (nI f))] := hl
  refine lv_iconst (v := nI 0) hx hb dX4_ahead_0 (by decide) ?_
  refine lv_istore_n (lv' := [(2, .int (nI 0)), (0, .ref (q 0)), (1, .int (nI f))]) hx hb dX4_ahead_1 rfl hl (by decide) rfl (fun ls hl => ?_)
  refine lv_iconst (v := nI 0) hx hb dX4_ahead_2 (by decide) ?_
  refine lv_istore_n (lv' := [(3, .int (nI 0)), (2, .int (nI 0)), (0, .ref (q 0)), (1, .int (nI f))]) hx hb dX4_ahead_3 rfl hl (by decide) rfl (fun ls hl => ?_)
  have LOOP4 : ∀ (n k : Nat) (ls : Array Slot), k ≤ 30 → 30 - k < n → lv_has ls 5 [(0, .ref (q 0)), (1, .int (nI f)), (2, .int (nI (pm_num (fun k => decide (pm_pk S k = true ∧ (S 3 k < S 3 f ∨ (S 3 k = S 3 f ∧ k < f)))) k))), (3, .int (nI k))] → W p l e (headSpec wsX4_ahead ({ frames := 2, cells := 0, slots := 0, locals := 42 } : Room)).room s m ([.ref (q 0), .int (nI f)] : List Value).toArray below meth c s.heap [] 0 0 (MQ below (vp_Si (fun r : Int32 => r = nI (pm_ahd S f))) ([.ref (q 0), .int (nI f)] : List Value).toArray s 0 0 (fun _ => False)) (F0 m 4 ls []) := by
    intro n
    induction n with
    | zero => intro k _ hi hn; omega
    | succ n ih1 =>
      intro k ls hi_k hn_k hl 
      have hbk : k < 30 → S 3 k ≤ 99 := fun h => Nat.le_trans (hI.chi k h) hI.rnd
      have hbf : S 3 f ≤ 99 := Nat.le_trans (hI.chi f hf) hI.rnd
      refine lv_iload_n hx hb dX4_ahead_4 rfl (lv_at hl 3 rfl) ?_
      refine lv_bipush (v := nI 30) hx hb dX4_ahead_5 (by decide) ?_
      refine kx_icmp_ge (tgt := 70) hx hb (by omega) (by decide) dX4_ahead_7 (by decide) (fun c2 => ?_) (fun c2 => ?_)
      · skip
        refine lv_iload_n hx hb dX4_ahead_70 rfl (lv_at hl 2 rfl) ?_
        exact W.iret hx hb hr (fun t ht _ => ⟨_, rfl, (by rw [show k = 30 by omega]; rfl), ht⟩) (fun _ h => absurd h List.not_mem_nil) dX4_ahead_71
      · skip
        refine lv_aload_n hx hb dX4_ahead_10 rfl (lv_at hl 0 rfl) ?_
        refine va_get (D := D) (ci := 4) (v := .ref (q 1)) (C := RX4) (T := TX4) (N := 7) hx hb hts hin4 hown hK hP 0 rfl rfl 0 (by decide) (hts (.fieldLink RX4 7 "ProofMarksModel" "s" "[I") (List.mem_of_getElem? (i := 1) rfl)) (fun _ h9 => h9) rfl dX4_ahead_11 ?_
        refine lv_iload_n hx hb dX4_ahead_14 rfl (lv_at hl 3 rfl) ?_
        refine lv_iconst (v := nI 3) hx hb dX4_ahead_15 (by decide) ?_
        refine vp_callSi (W.runS (As := [.int (nI k), .int (nI 3)]) (rest := [.ref (q 1)]) ⟨hx, hb, hml, hown, hts⟩ (k_X4_at l k 3) (va_cwS 2 hts gX4_ahead_X4_at rfl rfl rfl hd_X4_at ⟨Nat.le_of_ble_eq_true rfl, Nat.le_of_ble_eq_true rfl⟩) ⟨pm_no_blind, pm_no_pre⟩ rfl rfl hl.1 rfl (lv_room (Nat.le_of_ble_eq_true rfl)) dX4_ahead_16 ⟨Nat.le_of_ble_eq_true rfl, Nat.le_of_ble_eq_true rfl⟩) (fun r3 h4 => ?_)
        obtain rfl : r3 = nI (5 * k + 3) := h4
        refine kx_iald (v := pm_rm (S 3 k)) hx hb hK hP 1 0 rfl rfl (by omega) (by decide) (pm_ms_3 (S := S) (f := k) (by omega)) dX4_ahead_19 ?_
        refine lv_aload_n hx hb dX4_ahead_20 rfl (lv_at hl 0 rfl) ?_
        refine va_get (D := D) (ci := 4) (v := .ref (q 1)) (C := RX4) (T := TX4) (N := 7) hx hb hts hin4 hown hK hP 0 rfl rfl 0 (by decide) (hts (.fieldLink RX4 7 "ProofMarksModel" "s" "[I") (List.mem_of_getElem? (i := 1) rfl)) (fun _ h9 => h9) rfl dX4_ahead_21 ?_
        refine lv_iload_n hx hb dX4_ahead_24 rfl (lv_at hl 1 rfl) ?_
        refine lv_iconst (v := nI 3) hx hb dX4_ahead_25 (by decide) ?_
        refine vp_callSi (W.runS (As := [.int (nI f), .int (nI 3)]) (rest := [.ref (q 1), .int (pm_rm (S 3 k))]) ⟨hx, hb, hml, hown, hts⟩ (k_X4_at l f 3) (va_cwS 2 hts gX4_ahead_X4_at rfl rfl rfl hd_X4_at ⟨Nat.le_of_ble_eq_true rfl, Nat.le_of_ble_eq_true rfl⟩) ⟨pm_no_blind, pm_no_pre⟩ rfl rfl hl.1 rfl (lv_room (Nat.le_of_ble_eq_true rfl)) dX4_ahead_26 ⟨Nat.le_of_ble_eq_true rfl, Nat.le_of_ble_eq_true rfl⟩) (fun r5 h6 => ?_)
        obtain rfl : r5 = nI (5 * f + 3) := h6
        refine kx_iald (v := pm_rm (S 3 f)) hx hb hK hP 1 0 rfl rfl (by omega) (by decide) (pm_ms_3 (S := S) (f := f) (by omega)) dX4_ahead_29 ?_
        refine lv_isub hx hb dX4_ahead_30 ?_
        refine lv_istore (lv' := [(4, .int ((pm_rm (S 3 k)) - (pm_rm (S 3 f)))), (0, .ref (q 0)), (1, .int (nI f)), (2, .int (nI (pm_num (fun k => decide (pm_pk S k = true ∧ (S 3 k < S 3 f ∨ (S 3 k = S 3 f ∧ k < f)))) k))), (3, .int (nI k))]) hx hb dX4_ahead_31 hl (by decide) rfl (fun ls hl => ?_)
        refine lv_iload_n hx hb dX4_ahead_33 rfl (lv_at hl 3 rfl) ?_
        refine lv_aload_n hx hb dX4_ahead_34 rfl (lv_at hl 1 rfl) ?_
        refine lv_iload_n hx hb dX4_ahead_35 rfl (lv_at hl 4 rfl) ?_
        refine vp_callSi (W.runV (As := [.int (nI k)]) (rest := [.int (nI (pm_num (fun k => decide (pm_pk S k = true ∧ (S 3 k < S 3 f ∨ (S 3 k = S 3 f ∧ k < f)))) k))]) ⟨hx, hb, hml, hown, hts⟩ (k_X4_isTaken l D y q S gp gs kn ln sv pd k hI (by omega)) (cwV 1 hts gX4_ahead_X4_isTaken rfl rfl rfl hd_X4_isTaken ⟨Nat.le_of_ble_eq_true rfl, Nat.le_of_ble_eq_true rfl⟩) ⟨pm_ro_blind, va_recv hK hP (ci := 4) (q0 := 0) rfl rfl, pm_ro_pre hP hK⟩ rfl rfl hl.1 rfl (lv_room (Nat.le_of_ble_eq_true rfl)) dX4_ahead_36 ⟨Nat.le_of_ble_eq_true rfl, Nat.le_of_ble_eq_true rfl⟩) (fun r7 h8 => ?_)
        rcases (show ((S 0 k = 1 ∨ S 0 k = 3) ∧ r7 = nI 1) ∨ (¬ (S 0 k = 1 ∨ S 0 k = 3) ∧ r7 = nI 0) from h8) with ⟨hp9, rfl⟩ | ⟨hp9, rfl⟩
        · skip
          refine lv_if_eq (tgt := 61) hx hb dX4_ahead_39 (by decide) (fun c10 => absurd c10 (by decide)) (fun _ => ?_)
          refine lv_iload hx hb dX4_ahead_42 (lv_at hl 0 rfl) ?_
          refine lv_if_lt (tgt := 57) hx hb dX4_ahead_44 (by decide) (fun c11 => ?_) (fun c11 => ?_)
          · replace c11 := (pm_rmd (hbk (by omega)) hbf).1.mp c11
            refine lv_iconst (v := nI 1) hx hb dX4_ahead_57 (by decide) ?_
            refine lv_goto (tgt := 62) hx hb dX4_ahead_58 (by decide) ?_
            refine kx_iadd hx hb dX4_ahead_62 ?_
            refine lv_istore_n (lv' := [(2, .int (nI ((pm_num (fun k => decide (pm_pk S k = true ∧ (S 3 k < S 3 f ∨ (S 3 k = S 3 f ∧ k < f)))) k) + 1))), (4, .int ((pm_rm (S 3 k)) - (pm_rm (S 3 f)))), (0, .ref (q 0)), (1, .int (nI f)), (3, .int (nI k))]) hx hb dX4_ahead_63 rfl hl (by decide) rfl (fun ls hl => ?_)
            refine kx_iinc (a := k) (lv' := [(3, .int (nI (k + 1))), (2, .int (nI ((pm_num (fun k => decide (pm_pk S k = true ∧ (S 3 k < S 3 f ∨ (S 3 k = S 3 f ∧ k < f)))) k) + 1))), (4, .int ((pm_rm (S 3 k)) - (pm_rm (S 3 f)))), (0, .ref (q 0)), (1, .int (nI f))]) hx hb dX4_ahead_64 hl (k := 4) rfl (by decide) rfl (fun ls hl => ?_)
            refine lv_goto (tgt := 4) hx hb dX4_ahead_67 (by decide) ?_
            have q12 : (nI (pm_num (fun k => decide (pm_pk S k = true ∧ (S 3 k < S 3 f ∨ (S 3 k = S 3 f ∧ k < f)))) (k + 1)) : Int32) = nI ((pm_num (fun k => decide (pm_pk S k = true ∧ (S 3 k < S 3 f ∨ (S 3 k = S 3 f ∧ k < f)))) k) + 1) := (congrArg nI (by first | exact pm_num_p (decide_eq_true ⟨pm_pk_t (by assumption), by omega⟩) | exact pm_num_n (decide_eq_false (fun z => absurd (pm_pk_i.mp z.1) (by assumption))) | exact pm_num_n (decide_eq_false (fun z => by omega))))
            exact ih1 (k + 1) ls (by omega) (by omega) (by rw [q12]; exact lv_sub hl [3, 4, 1, 0] rfl) 
          · replace c11 := mt (pm_rmd (hbk (by omega)) hbf).1.mpr c11
            refine lv_iload hx hb dX4_ahead_47 (lv_at hl 0 rfl) ?_
            refine lv_if_ne (tgt := 61) hx hb dX4_ahead_49 (by decide) (fun c13 => ?_) (fun c13 => ?_)
            · replace c13 := mt (pm_rmd (hbk (by omega)) hbf).2.mpr c13
              refine lv_iconst (v := nI 0) hx hb dX4_ahead_61 (by decide) ?_
              refine kx_iadd hx hb dX4_ahead_62 ?_
              refine lv_istore_n (lv' := [(2, .int (nI ((pm_num (fun k => decide (pm_pk S k = true ∧ (S 3 k < S 3 f ∨ (S 3 k = S 3 f ∧ k < f)))) k) + 0))), (4, .int ((pm_rm (S 3 k)) - (pm_rm (S 3 f)))), (0, .ref (q 0)), (1, .int (nI f)), (3, .int (nI k))]) hx hb dX4_ahead_63 rfl hl (by decide) rfl (fun ls hl => ?_)
              refine kx_iinc (a := k) (lv' := [(3, .int (nI (k + 1))), (2, .int (nI ((pm_num (fun k => decide (pm_pk S k = true ∧ (S 3 k < S 3 f ∨ (S 3 k = S 3 f ∧ k < f)))) k) + 0))), (4, .int ((pm_rm (S 3 k)) - (pm_rm (S 3 f)))), (0, .ref (q 0)), (1, .int (nI f))]) hx hb dX4_ahead_64 hl (k := 4) rfl (by decide) rfl (fun ls hl => ?_)
              refine lv_goto (tgt := 4) hx hb dX4_ahead_67 (by decide) ?_
              have q14 : (nI (pm_num (fun k => decide (pm_pk S k = true ∧ (S 3 k < S 3 f ∨ (S 3 k = S 3 f ∧ k < f)))) (k + 1)) : Int32) = nI ((pm_num (fun k => decide (pm_pk S k = true ∧ (S 3 k < S 3 f ∨ (S 3 k = S 3 f ∧ k < f)))) k) + 0) := (congrArg nI (by first | exact pm_num_p (decide_eq_true ⟨pm_pk_t (by assumption), by omega⟩) | exact pm_num_n (decide_eq_false (fun z => absurd (pm_pk_i.mp z.1) (by assumption))) | exact pm_num_n (decide_eq_false (fun z => by omega))))
              exact ih1 (k + 1) ls (by omega) (by omega) (by rw [q14]; exact lv_sub hl [3, 4, 1, 0] rfl) 
            · replace c13 := (pm_rmd (hbk (by omega)) hbf).2.mp c13
              refine lv_iload_n hx hb dX4_ahead_52 rfl (lv_at hl 4 rfl) ?_
              refine lv_iload_n hx hb dX4_ahead_53 rfl (lv_at hl 2 rfl) ?_
              refine kx_icmp_ge (tgt := 61) hx hb (by omega) (by omega) dX4_ahead_54 (by decide) (fun c15 => ?_) (fun c15 => ?_)
              · skip
                refine lv_iconst (v := nI 0) hx hb dX4_ahead_61 (by decide) ?_
                refine kx_iadd hx hb dX4_ahead_62 ?_
                refine lv_istore_n (lv' := [(2, .int (nI ((pm_num (fun k => decide (pm_pk S k = true ∧ (S 3 k < S 3 f ∨ (S 3 k = S 3 f ∧ k < f)))) k) + 0))), (4, .int ((pm_rm (S 3 k)) - (pm_rm (S 3 f)))), (0, .ref (q 0)), (1, .int (nI f)), (3, .int (nI k))]) hx hb dX4_ahead_63 rfl hl (by decide) rfl (fun ls hl => ?_)
                refine kx_iinc (a := k) (lv' := [(3, .int (nI (k + 1))), (2, .int (nI ((pm_num (fun k => decide (pm_pk S k = true ∧ (S 3 k < S 3 f ∨ (S 3 k = S 3 f ∧ k < f)))) k) + 0))), (4, .int ((pm_rm (S 3 k)) - (pm_rm (S 3 f)))), (0, .ref (q 0)), (1, .int (nI f))]) hx hb dX4_ahead_64 hl (k := 4) rfl (by decide) rfl (fun ls hl => ?_)
                refine lv_goto (tgt := 4) hx hb dX4_ahead_67 (by decide) ?_
                have q16 : (nI (pm_num (fun k => decide (pm_pk S k = true ∧ (S 3 k < S 3 f ∨ (S 3 k = S 3 f ∧ k < f)))) (k + 1)) : Int32) = nI ((pm_num (fun k => decide (pm_pk S k = true ∧ (S 3 k < S 3 f ∨ (S 3 k = S 3 f ∧ k < f)))) k) + 0) := (congrArg nI (by first | exact pm_num_p (decide_eq_true ⟨pm_pk_t (by assumption), by omega⟩) | exact pm_num_n (decide_eq_false (fun z => absurd (pm_pk_i.mp z.1) (by assumption))) | exact pm_num_n (decide_eq_false (fun z => by omega))))
                exact ih1 (k + 1) ls (by omega) (by omega) (by rw [q16]; exact lv_sub hl [3, 4, 1, 0] rfl) 
              · skip
                refine lv_iconst (v := nI 1) hx hb dX4_ahead_57 (by decide) ?_
                refine lv_goto (tgt := 62) hx hb dX4_ahead_58 (by decide) ?_
                refine kx_iadd hx hb dX4_ahead_62 ?_
                refine lv_istore_n (lv' := [(2, .int (nI ((pm_num (fun k => decide (pm_pk S k = true ∧ (S 3 k < S 3 f ∨ (S 3 k = S 3 f ∧ k < f)))) k) + 1))), (4, .int ((pm_rm (S 3 k)) - (pm_rm (S 3 f)))), (0, .ref (q 0)), (1, .int (nI f)), (3, .int (nI k))]) hx hb dX4_ahead_63 rfl hl (by decide) rfl (fun ls hl => ?_)
                refine kx_iinc (a := k) (lv' := [(3, .int (nI (k + 1))), (2, .int (nI ((pm_num (fun k => decide (pm_pk S k = true ∧ (S 3 k < S 3 f ∨ (S 3 k = S 3 f ∧ k < f)))) k) + 1))), (4, .int ((pm_rm (S 3 k)) - (pm_rm (S 3 f)))), (0, .ref (q 0)), (1, .int (nI f))]) hx hb dX4_ahead_64 hl (k := 4) rfl (by decide) rfl (fun ls hl => ?_)
                refine lv_goto (tgt := 4) hx hb dX4_ahead_67 (by decide) ?_
                have q17 : (nI (pm_num (fun k => decide (pm_pk S k = true ∧ (S 3 k < S 3 f ∨ (S 3 k = S 3 f ∧ k < f)))) (k + 1)) : Int32) = nI ((pm_num (fun k => decide (pm_pk S k = true ∧ (S 3 k < S 3 f ∨ (S 3 k = S 3 f ∧ k < f)))) k) + 1) := (congrArg nI (by first | exact pm_num_p (decide_eq_true ⟨pm_pk_t (by assumption), by omega⟩) | exact pm_num_n (decide_eq_false (fun z => absurd (pm_pk_i.mp z.1) (by assumption))) | exact pm_num_n (decide_eq_false (fun z => by omega))))
                exact ih1 (k + 1) ls (by omega) (by omega) (by rw [q17]; exact lv_sub hl [3, 4, 1, 0] rfl) 
        · skip
          refine lv_if_eq (tgt := 61) hx hb dX4_ahead_39 (by decide) (fun _ => ?_) (fun c18 => (c18 (by decide)).elim)
          refine lv_iconst (v := nI 0) hx hb dX4_ahead_61 (by decide) ?_
          refine kx_iadd hx hb dX4_ahead_62 ?_
          refine lv_istore_n (lv' := [(2, .int (nI ((pm_num (fun k => decide (pm_pk S k = true ∧ (S 3 k < S 3 f ∨ (S 3 k = S 3 f ∧ k < f)))) k) + 0))), (4, .int ((pm_rm (S 3 k)) - (pm_rm (S 3 f)))), (0, .ref (q 0)), (1, .int (nI f)), (3, .int (nI k))]) hx hb dX4_ahead_63 rfl hl (by decide) rfl (fun ls hl => ?_)
          refine kx_iinc (a := k) (lv' := [(3, .int (nI (k + 1))), (2, .int (nI ((pm_num (fun k => decide (pm_pk S k = true ∧ (S 3 k < S 3 f ∨ (S 3 k = S 3 f ∧ k < f)))) k) + 0))), (4, .int ((pm_rm (S 3 k)) - (pm_rm (S 3 f)))), (0, .ref (q 0)), (1, .int (nI f))]) hx hb dX4_ahead_64 hl (k := 4) rfl (by decide) rfl (fun ls hl => ?_)
          refine lv_goto (tgt := 4) hx hb dX4_ahead_67 (by decide) ?_
          have q19 : (nI (pm_num (fun k => decide (pm_pk S k = true ∧ (S 3 k < S 3 f ∨ (S 3 k = S 3 f ∧ k < f)))) (k + 1)) : Int32) = nI ((pm_num (fun k => decide (pm_pk S k = true ∧ (S 3 k < S 3 f ∨ (S 3 k = S 3 f ∧ k < f)))) k) + 0) := (congrArg nI (by first | exact pm_num_p (decide_eq_true ⟨pm_pk_t (by assumption), by omega⟩) | exact pm_num_n (decide_eq_false (fun z => absurd (pm_pk_i.mp z.1) (by assumption))) | exact pm_num_n (decide_eq_false (fun z => by omega))))
          exact ih1 (k + 1) ls (by omega) (by omega) (by rw [q19]; exact lv_sub hl [3, 4, 1, 0] rfl) 
  exact LOOP4 (30 + 1) 0 ls (by omega) (by omega) (lv_sub hl [2, 3, 1, 0] rfl) 

set_option maxHeartbeats 4000000 in
set_option maxRecDepth 100000 in
theorem k_X4_chosen (l : Launch) (D : va_G) (y : Nat → ClassId) (q : Nat → Nat) (S : Nat → Nat → Nat) (gp gs : Nat → Int32) (kn ln : Nat) (sv pd : Nat → Nat) (xk : Int32) (hI : pm_Inv S) : Met l yX4_chosen wsX4_chosen ({ frames := 3, cells := 0, slots := 0, locals := 66 } : Room) (pm_ro D (pm_ty y) [.ref (q 0), .int xk] (pm_mo y q S gp gs kn ln sv pd)) (vp_Si (fun r : Int32 => pm_isch S xk r)) 0 0 (fun _ => False) := by
  refine Met.ofW (cc := cX4_chosen) (maxL := 3) (ret := (some .int)) (by decide) rfl ?_
  intro p e s m args below meth c s₁ B hml hpre
  obtain ⟨rfl, hP, hK⟩ := hpre
  have hx := B.exec
  have hb := B.bytes
  have hr := B.returns
  have hts := atoms_spec (ws := wsX4_chosen) B.pre
  have hown : s.vm.findClass RX4 = some m.cls := findClass_of_methodNamed B.named
  have hlocks := B.notSynchronized
  have hin4 : ∀ w ∈ u_ws RX4 TX4 7, w ∈ wsX4_chosen := fun w h => List.mem_cons_of_mem _ (List.mem_append_right _ h)
  have hP : va_P D vwCl (pm_mo y q S gp gs kn ln sv pd) s.heap := hP
  have hl := lv_entry ([.ref (q 0), .int xk]) (n := 3) (Nat.le_of_ble_eq_true rfl)
  rw [lg_entry_eq]
  generalize (lg_sl ([.ref (q 0), .int xk]) ++ List.replicate (3 - (lg_sl ([.ref (q 0), .int xk])).length) Slot.unset).toArray = ls at hl ⊢
  have hl : lv_has ls 3 [(0, .ref (q 0)), (1, .int xk)] := hl
  refine lv_iconst (v := nI 0) hx hb dX4_chosen_0 (by decide) ?_
  refine lv_istore_n (lv' := [(2, .int (nI 0)), (0, .ref (q 0)), (1, .int xk)]) hx hb dX4_chosen_1 rfl hl (by decide) rfl (fun ls hl => ?_)
  have LOOP2 : ∀ (n ff : Nat) (ls : Array Slot), ff ≤ 30 → 30 - ff < n → lv_has ls 3 [(0, .ref (q 0)), (1, .int xk), (2, .int (nI ff))] → (∀ k, k < ff → (S 0 k = 1 ∨ S 0 k = 3) → ¬ xk = nI (pm_ahd S k)) → W p l e (headSpec wsX4_chosen ({ frames := 3, cells := 0, slots := 0, locals := 66 } : Room)).room s m ([.ref (q 0), .int xk] : List Value).toArray below meth c s.heap [] 0 0 (MQ below (vp_Si (fun r : Int32 => pm_isch S xk r)) ([.ref (q 0), .int xk] : List Value).toArray s 0 0 (fun _ => False)) (F0 m 2 ls []) := by
    intro n
    induction n with
    | zero => intro ff _ hi hn; omega
    | succ n ih1 =>
      intro ff ls hi_ff hn_ff hl hh2_0
      refine lv_iload_n hx hb dX4_chosen_2 rfl (lv_at hl 2 rfl) ?_
      refine lv_bipush (v := nI 30) hx hb dX4_chosen_3 (by decide) ?_
      refine kx_icmp_ge (tgt := 33) hx hb (by omega) (by decide) dX4_chosen_5 (by decide) (fun c2 => ?_) (fun c2 => ?_)
      · skip
        refine lv_iconst (v := -1) hx hb dX4_chosen_33 (by decide) ?_
        exact W.iret hx hb hr (fun t ht _ => ⟨_, rfl, (Or.inr ⟨fun k hk pk => hh2_0 k (by omega) pk, rfl⟩), ht⟩) (fun _ h => absurd h List.not_mem_nil) dX4_chosen_34
      · skip
        refine lv_aload_n hx hb dX4_chosen_8 rfl (lv_at hl 0 rfl) ?_
        refine lv_iload_n hx hb dX4_chosen_9 rfl (lv_at hl 2 rfl) ?_
        refine vp_callSi (W.runV (As := [.int (nI ff)]) (rest := []) ⟨hx, hb, hml, hown, hts⟩ (k_X4_isTaken l D y q S gp gs kn ln sv pd ff hI (by omega)) (cwV 1 hts gX4_chosen_X4_isTaken rfl rfl rfl hd_X4_isTaken ⟨Nat.le_of_ble_eq_true rfl, Nat.le_of_ble_eq_true rfl⟩) ⟨pm_ro_blind, va_recv hK hP (ci := 4) (q0 := 0) rfl rfl, pm_ro_pre hP hK⟩ rfl rfl hl.1 rfl (lv_room (Nat.le_of_ble_eq_true rfl)) dX4_chosen_10 ⟨Nat.le_of_ble_eq_true rfl, Nat.le_of_ble_eq_true rfl⟩) (fun r3 h4 => ?_)
        rcases (show ((S 0 ff = 1 ∨ S 0 ff = 3) ∧ r3 = nI 1) ∨ (¬ (S 0 ff = 1 ∨ S 0 ff = 3) ∧ r3 = nI 0) from h4) with ⟨hp5, rfl⟩ | ⟨hp5, rfl⟩
        · skip
          refine lv_if_eq (tgt := 27) hx hb dX4_chosen_13 (by decide) (fun c6 => absurd c6 (by decide)) (fun _ => ?_)
          refine lv_aload_n hx hb dX4_chosen_16 rfl (lv_at hl 0 rfl) ?_
          refine lv_iload_n hx hb dX4_chosen_17 rfl (lv_at hl 2 rfl) ?_
          refine vp_callSi (W.runV (As := [.int (nI ff)]) (rest := []) ⟨hx, hb, hml, hown, hts⟩ (k_X4_ahead l D y q S gp gs kn ln sv pd ff hI (by omega)) (cwV 1 hts gX4_chosen_X4_ahead rfl rfl rfl hd_X4_ahead ⟨Nat.le_of_ble_eq_true rfl, Nat.le_of_ble_eq_true rfl⟩) ⟨pm_ro_blind, va_recv hK hP (ci := 4) (q0 := 0) rfl rfl, pm_ro_pre hP hK⟩ rfl rfl hl.1 rfl (lv_room (Nat.le_of_ble_eq_true rfl)) dX4_chosen_18 ⟨Nat.le_of_ble_eq_true rfl, Nat.le_of_ble_eq_true rfl⟩) (fun r7 h8 => ?_)
          obtain rfl : r7 = nI (pm_ahd S ff) := h8
          have := pm_ahd_le S ff
          refine lv_iload_n hx hb dX4_chosen_21 rfl (lv_at hl 1 rfl) ?_
          refine lv_icmp_ne (tgt := 27) hx hb dX4_chosen_22 (by decide) (fun c9 => ?_) (fun c9 => ?_)
          · skip
            refine kx_iinc (a := ff) (lv' := [(2, .int (nI (ff + 1))), (0, .ref (q 0)), (1, .int xk)]) hx hb dX4_chosen_27 hl (k := 2) rfl (by decide) rfl (fun ls hl => ?_)
            refine lv_goto (tgt := 2) hx hb dX4_chosen_30 (by decide) ?_
            exact ih1 (ff + 1) ls (by omega) (by omega) (by exact lv_sub hl [1, 2, 0] rfl) (fun k hk pk => by
                    rcases (show k < ff ∨ k = ff by omega) with z | rfl
                    · exact hh2_0 k z pk
                    · first | exact absurd pk (by assumption) | exact fun z => (by assumption : ¬ nI _ = xk) z.symm)
          · skip
            refine lv_iload_n hx hb dX4_chosen_25 rfl (lv_at hl 2 rfl) ?_
            exact W.iret hx hb hr (fun t ht _ => ⟨_, rfl, (Or.inl ⟨ff, by omega, hp5, (‹nI _ = xk›).symm, rfl⟩), ht⟩) (fun _ h => absurd h List.not_mem_nil) dX4_chosen_26
        · skip
          refine lv_if_eq (tgt := 27) hx hb dX4_chosen_13 (by decide) (fun _ => ?_) (fun c10 => (c10 (by decide)).elim)
          refine kx_iinc (a := ff) (lv' := [(2, .int (nI (ff + 1))), (0, .ref (q 0)), (1, .int xk)]) hx hb dX4_chosen_27 hl (k := 2) rfl (by decide) rfl (fun ls hl => ?_)
          refine lv_goto (tgt := 2) hx hb dX4_chosen_30 (by decide) ?_
          exact ih1 (ff + 1) ls (by omega) (by omega) (by exact lv_sub hl [1, 2, 0] rfl) (fun k hk pk => by
                  rcases (show k < ff ∨ k = ff by omega) with z | rfl
                  · exact hh2_0 k z pk
                  · first | exact absurd pk (by assumption) | exact fun z => (by assumption : ¬ nI _ = xk) z.symm)
  exact LOOP2 (30 + 1) 0 ls (by omega) (by omega) (lv_sub hl [1, 2, 0] rfl) (fun k hk _ => absurd hk (Nat.not_lt_zero k))

theorem pm_mk0 (i : Nat) : pm_mk 0 i = 0 := by simp [pm_mk]
set_option maxHeartbeats 4000000 in
set_option maxRecDepth 100000 in
theorem k_X4_agree (l : Launch) (D : va_G) (y : Nat → ClassId) (q : Nat → Nat) (S : Nat → Nat → Nat) (gp gs : Nat → Int32) (kn ln : Nat) (sv pd : Nat → Nat) (xe xo : Int32) (hI : pm_Inv S) : Met l yX4_agree wsX4_agree ({ frames := 2, cells := 0, slots := 0, locals := 43 } : Room) (pm_ro D (pm_ty y) [.ref (q 0), .int xe, .int xo] (pm_mo y q S gp gs kn ln sv pd)) (vp_Si (fun r : Int32 => r = pm_agr S xe xo)) 0 0 (fun _ => False) := by
  refine Met.ofW (cc := cX4_agree) (maxL := 7) (ret := (some .int)) (by decide) rfl ?_
  intro p e s m args below meth c s₁ B hml hpre
  obtain ⟨rfl, hP, hK⟩ := hpre
  have hx := B.exec
  have hb := B.bytes
  have hr := B.returns
  have hts := atoms_spec (ws := wsX4_agree) B.pre
  have hown : s.vm.findClass RX4 = some m.cls := findClass_of_methodNamed B.named
  have hlocks := B.notSynchronized
  have hin4 : ∀ w ∈ u_ws RX4 TX4 7, w ∈ wsX4_agree := fun w h => List.mem_cons_of_mem _ (List.mem_append_right _ h)
  have hP : va_P D vwCl (pm_mo y q S gp gs kn ln sv pd) s.heap := hP
  have hl := lv_entry ([.ref (q 0), .int xe, .int xo]) (n := 7) (Nat.le_of_ble_eq_true rfl)
  rw [lg_entry_eq]
  generalize (lg_sl ([.ref (q 0), .int xe, .int xo]) ++ List.replicate (7 - (lg_sl ([.ref (q 0), .int xe, .int xo])).length) Slot.unset).toArray = ls at hl ⊢
  have hl : lv_has ls 7 [(0, .ref (q 0)), (1, .int xe), (2, .int xo)] := hl
  refine lv_iload_n hx hb dX4_agree_0 rfl (lv_at hl 1 rfl) ?_
  refine vp_callSi (W.runS (As := [.int xe]) (rest := []) ⟨hx, hb, hml, hown, hts⟩ (k_X4_isEditor l xe) (va_cwS 1 hts gX4_agree_X4_isEditor rfl rfl rfl hd_X4_isEditor ⟨Nat.le_of_ble_eq_true rfl, Nat.le_of_ble_eq_true rfl⟩) ⟨pm_no_blind, pm_no_pre⟩ rfl rfl hl.1 rfl (lv_room (Nat.le_of_ble_eq_true rfl)) dX4_agree_1 ⟨Nat.le_of_ble_eq_true rfl, Nat.le_of_ble_eq_true rfl⟩) (fun r1 h2 => ?_)
  rcases h2 with ⟨j3, hj3, ej3, rfl⟩ | ⟨hnj3, rfl⟩
  · subst ej3
    refine lv_if_eq (tgt := 14) hx hb dX4_agree_4 (by decide) (fun c4 => absurd c4 (by decide)) (fun _ => ?_)
    refine lv_iload_n hx hb dX4_agree_7 rfl (lv_at hl 2 rfl) ?_
    refine vp_callSi (W.runS (As := [.int xo]) (rest := []) ⟨hx, hb, hml, hown, hts⟩ (k_X4_isEditor l xo) (va_cwS 1 hts gX4_agree_X4_isEditor rfl rfl rfl hd_X4_isEditor ⟨Nat.le_of_ble_eq_true rfl, Nat.le_of_ble_eq_true rfl⟩) ⟨pm_no_blind, pm_no_pre⟩ rfl rfl hl.1 rfl (lv_room (Nat.le_of_ble_eq_true rfl)) dX4_agree_8 ⟨Nat.le_of_ble_eq_true rfl, Nat.le_of_ble_eq_true rfl⟩) (fun r5 h6 => ?_)
    rcases h6 with ⟨j7, hj7, ej7, rfl⟩ | ⟨hnj7, rfl⟩
    · subst ej7
      refine lv_if_ne (tgt := 16) hx hb dX4_agree_11 (by decide) (fun _ => ?_) (fun c8 => absurd c8 (by decide))
      refine lv_iconst (v := nI 0) hx hb dX4_agree_16 (by decide) ?_
      refine lv_istore_n (lv' := [(3, .int (nI 0)), (0, .ref (q 0)), (1, .int (nI j3)), (2, .int (nI j7))]) hx hb dX4_agree_17 rfl hl (by decide) rfl (fun ls hl => ?_)
      refine lv_iconst (v := nI 0) hx hb dX4_agree_18 (by decide) ?_
      refine lv_istore (lv' := [(4, .int (nI 0)), (3, .int (nI 0)), (0, .ref (q 0)), (1, .int (nI j3)), (2, .int (nI j7))]) hx hb dX4_agree_19 hl (by decide) rfl (fun ls hl => ?_)
      refine lv_iconst (v := nI 0) hx hb dX4_agree_21 (by decide) ?_
      refine lv_istore (lv' := [(5, .int (nI 0)), (4, .int (nI 0)), (3, .int (nI 0)), (0, .ref (q 0)), (1, .int (nI j3)), (2, .int (nI j7))]) hx hb dX4_agree_22 hl (by decide) rfl (fun ls hl => ?_)
      have LOOP24 : ∀ (n k : Nat) (ls : Array Slot), k ≤ 30 → 30 - k < n → lv_has ls 7 [(0, .ref (q 0)), (1, .int (nI j3)), (2, .int (nI j7)), (3, .int (nI (pm_bo S j3 j7 k))), (4, .int (nI (pm_sa S j3 j7 k))), (5, .int (nI k))] → W p l e (headSpec wsX4_agree ({ frames := 2, cells := 0, slots := 0, locals := 43 } : Room)).room s m ([.ref (q 0), .int (nI j3), .int (nI j7)] : List Value).toArray below meth c s.heap [] 0 0 (MQ below (vp_Si (fun r : Int32 => r = pm_agr S (nI j3) (nI j7))) ([.ref (q 0), .int (nI j3), .int (nI j7)] : List Value).toArray s 0 0 (fun _ => False)) (F0 m 24 ls []) := by
        intro n
        induction n with
        | zero => intro k _ hi hn; omega
        | succ n ih9 =>
          intro k ls hi_k hn_k hl 
          have := pm_num_le (fun k => decide (¬ pm_mk (S 4 k) j3 = 0 ∧ ¬ pm_mk (S 4 k) j7 = 0)) k
          have hbo : pm_bo S j3 j7 k ≤ k := this
          have := pm_num_le (fun k => decide ((¬ pm_mk (S 4 k) j3 = 0 ∧ ¬ pm_mk (S 4 k) j7 = 0) ∧ pm_mk (S 4 k) j3 = pm_mk (S 4 k) j7)) k
          have hsa : pm_sa S j3 j7 k ≤ k := this
          have hno : k < 30 → ¬ S 0 k = 0 → pm_mk (S 4 k) j3 = 0 := fun h z => by rw [hI.nom k h z]; exact pm_mk0 _
          refine lv_iload hx hb dX4_agree_24 (lv_at hl 5 rfl) ?_
          refine lv_bipush (v := nI 30) hx hb dX4_agree_26 (by decide) ?_
          refine kx_icmp_ge (tgt := 118) hx hb (by omega) (by decide) dX4_agree_28 (by decide) (fun c10 => ?_) (fun c10 => ?_)
          · skip
            refine lv_iload_n hx hb dX4_agree_118 rfl (lv_at hl 3 rfl) ?_
            refine kx_if_ne (tgt := 127) hx hb (by omega) dX4_agree_119 (by decide) (fun c11 => ?_) (fun c11 => ?_)
            · skip
              refine lv_bipush (v := nI 100) hx hb dX4_agree_127 (by decide) ?_
              refine lv_iload hx hb dX4_agree_129 (lv_at hl 4 rfl) ?_
              refine kx_imul hx hb dX4_agree_131 ?_
              refine lv_iload_n hx hb dX4_agree_132 rfl (lv_at hl 3 rfl) ?_
              refine kx_idiv hx hb (by omega) (by omega) (by omega) dX4_agree_133 ?_
              exact W.iret hx hb hr (fun t ht _ => ⟨_, rfl, (by have h9 : k = 30 := (by omega); subst h9; simp only [pm_agr, pm_ix_in hj3 (show (3 : Nat) < 2 ^ 31 by decide), pm_ix_in hj7 (show (3 : Nat) < 2 ^ 31 by decide)] <;> (first | rw [if_pos (by assumption)] | rw [if_neg (by assumption)])), ht⟩) (fun _ h => absurd h List.not_mem_nil) dX4_agree_134
            · skip
              refine lv_bipush (v := nI 100) hx hb dX4_agree_122 (by decide) ?_
              refine lv_goto (tgt := 134) hx hb dX4_agree_124 (by decide) ?_
              exact W.iret hx hb hr (fun t ht _ => ⟨_, rfl, (by have h9 : k = 30 := (by omega); subst h9; simp only [pm_agr, pm_ix_in hj3 (show (3 : Nat) < 2 ^ 31 by decide), pm_ix_in hj7 (show (3 : Nat) < 2 ^ 31 by decide)] <;> (first | rw [if_pos (by assumption)] | rw [if_neg (by assumption)])), ht⟩) (fun _ h => absurd h List.not_mem_nil) dX4_agree_134
          · skip
            refine lv_aload_n hx hb dX4_agree_31 rfl (lv_at hl 0 rfl) ?_
            refine lv_iload hx hb dX4_agree_32 (lv_at hl 5 rfl) ?_
            refine vp_callSi (W.runV (As := [.int (nI k)]) (rest := []) ⟨hx, hb, hml, hown, hts⟩ (k_X4_isOpen l D y q S gp gs kn ln sv pd k (hI.how k (by omega)) (by omega)) (cwV 1 hts gX4_agree_X4_isOpen rfl rfl rfl hd_X4_isOpen ⟨Nat.le_of_ble_eq_true rfl, Nat.le_of_ble_eq_true rfl⟩) ⟨pm_ro_blind, va_recv hK hP (ci := 4) (q0 := 0) rfl rfl, pm_ro_pre hP hK⟩ rfl rfl hl.1 rfl (lv_room (Nat.le_of_ble_eq_true rfl)) dX4_agree_34 ⟨Nat.le_of_ble_eq_true rfl, Nat.le_of_ble_eq_true rfl⟩) (fun r12 h13 => ?_)
            rcases (show ((S 0 k = 0) ∧ r12 = nI 1) ∨ (¬ (S 0 k = 0) ∧ r12 = nI 0) from h13) with ⟨hp14, rfl⟩ | ⟨hp14, rfl⟩
            · skip
              refine lv_if_eq (tgt := 64) hx hb dX4_agree_37 (by decide) (fun c15 => absurd c15 (by decide)) (fun _ => ?_)
              refine lv_aload_n hx hb dX4_agree_40 rfl (lv_at hl 0 rfl) ?_
              refine lv_iload_n hx hb dX4_agree_41 rfl (lv_at hl 1 rfl) ?_
              refine lv_iload hx hb dX4_agree_42 (lv_at hl 5 rfl) ?_
              refine vp_callSi (W.runV (As := [.int (nI j3), .int (nI k)]) (rest := []) ⟨hx, hb, hml, hown, hts⟩ (k_X4_markOf l D y q S gp gs kn ln sv pd j3 k (hI.okm k (by omega)) (by omega) (by omega)) (cwV 2 hts gX4_agree_X4_markOf rfl rfl rfl hd_X4_markOf ⟨Nat.le_of_ble_eq_true rfl, Nat.le_of_ble_eq_true rfl⟩) ⟨pm_ro_blind, va_recv hK hP (ci := 4) (q0 := 0) rfl rfl, pm_ro_pre hP hK⟩ rfl rfl hl.1 rfl (lv_room (Nat.le_of_ble_eq_true rfl)) dX4_agree_44 ⟨Nat.le_of_ble_eq_true rfl, Nat.le_of_ble_eq_true rfl⟩) (fun r16 h17 => ?_)
              obtain rfl : r16 = nI (pm_mk (S 4 k) j3) := h17
              have := pm_lt4 (S 4 k) j3
              refine kx_if_le (tgt := 64) hx hb (by omega) dX4_agree_47 (by decide) (fun c18 => ?_) (fun c18 => ?_)
              · skip
                refine lv_iconst (v := nI 0) hx hb dX4_agree_64 (by decide) ?_
                refine lv_istore (lv' := [(6, .int (nI 0)), (0, .ref (q 0)), (1, .int (nI j3)), (2, .int (nI j7)), (3, .int (nI (pm_bo S j3 j7 k))), (4, .int (nI (pm_sa S j3 j7 k))), (5, .int (nI k))]) hx hb dX4_agree_65 hl (by decide) rfl (fun ls hl => ?_)
                refine lv_iload_n hx hb dX4_agree_67 rfl (lv_at hl 4 rfl) ?_
                refine lv_iload hx hb dX4_agree_68 (lv_at hl 0 rfl) ?_
                refine lv_if_eq (tgt := 77) hx hb dX4_agree_70 (by decide) (fun _ => ?_) (fun c19 => (c19 (by decide)).elim)
                refine lv_iconst (v := nI 0) hx hb dX4_agree_77 (by decide) ?_
                refine kx_iadd hx hb dX4_agree_78 ?_
                refine lv_istore_n (lv' := [(3, .int (nI ((pm_bo S j3 j7 k) + 0))), (6, .int (nI 0)), (0, .ref (q 0)), (1, .int (nI j3)), (2, .int (nI j7)), (4, .int (nI (pm_sa S j3 j7 k))), (5, .int (nI k))]) hx hb dX4_agree_79 rfl hl (by decide) rfl (fun ls hl => ?_)
                refine lv_iload hx hb dX4_agree_80 (lv_at hl 5 rfl) ?_
                refine lv_iload hx hb dX4_agree_82 (lv_at hl 1 rfl) ?_
                refine lv_if_eq (tgt := 108) hx hb dX4_agree_84 (by decide) (fun _ => ?_) (fun c20 => (c20 (by decide)).elim)
                refine lv_iconst (v := nI 0) hx hb dX4_agree_108 (by decide) ?_
                refine kx_iadd hx hb dX4_agree_109 ?_
                refine lv_istore (lv' := [(4, .int (nI ((pm_sa S j3 j7 k) + 0))), (3, .int (nI ((pm_bo S j3 j7 k) + 0))), (6, .int (nI 0)), (0, .ref (q 0)), (1, .int (nI j3)), (2, .int (nI j7)), (5, .int (nI k))]) hx hb dX4_agree_110 hl (by decide) rfl (fun ls hl => ?_)
                refine kx_iinc (a := k) (lv' := [(5, .int (nI (k + 1))), (4, .int (nI ((pm_sa S j3 j7 k) + 0))), (3, .int (nI ((pm_bo S j3 j7 k) + 0))), (6, .int (nI 0)), (0, .ref (q 0)), (1, .int (nI j3)), (2, .int (nI j7))]) hx hb dX4_agree_112 hl (k := 6) rfl (by decide) rfl (fun ls hl => ?_)
                refine lv_goto (tgt := 24) hx hb dX4_agree_115 (by decide) ?_
                have q21 : (nI (pm_bo S j3 j7 (k + 1)) : Int32) = nI ((pm_bo S j3 j7 k) + 0) := (congrArg nI (by first | exact pm_num_p (decide_eq_true (by omega)) | exact pm_num_n (decide_eq_false (by omega))))
                have q22 : (nI (pm_sa S j3 j7 (k + 1)) : Int32) = nI ((pm_sa S j3 j7 k) + 0) := (congrArg nI (by first | exact pm_num_p (decide_eq_true (by omega)) | exact pm_num_n (decide_eq_false (by omega))))
                exact ih9 (k + 1) ls (by omega) (by omega) (by rw [q21, q22]; exact lv_sub hl [4, 5, 6, 2, 1, 0] rfl) 
              · skip
                refine lv_aload_n hx hb dX4_agree_50 rfl (lv_at hl 0 rfl) ?_
                refine lv_iload_n hx hb dX4_agree_51 rfl (lv_at hl 2 rfl) ?_
                refine lv_iload hx hb dX4_agree_52 (lv_at hl 5 rfl) ?_
                refine vp_callSi (W.runV (As := [.int (nI j7), .int (nI k)]) (rest := []) ⟨hx, hb, hml, hown, hts⟩ (k_X4_markOf l D y q S gp gs kn ln sv pd j7 k (hI.okm k (by omega)) (by omega) (by omega)) (cwV 2 hts gX4_agree_X4_markOf rfl rfl rfl hd_X4_markOf ⟨Nat.le_of_ble_eq_true rfl, Nat.le_of_ble_eq_true rfl⟩) ⟨pm_ro_blind, va_recv hK hP (ci := 4) (q0 := 0) rfl rfl, pm_ro_pre hP hK⟩ rfl rfl hl.1 rfl (lv_room (Nat.le_of_ble_eq_true rfl)) dX4_agree_54 ⟨Nat.le_of_ble_eq_true rfl, Nat.le_of_ble_eq_true rfl⟩) (fun r23 h24 => ?_)
                obtain rfl : r23 = nI (pm_mk (S 4 k) j7) := h24
                have := pm_lt4 (S 4 k) j7
                refine kx_if_le (tgt := 64) hx hb (by omega) dX4_agree_57 (by decide) (fun c25 => ?_) (fun c25 => ?_)
                · skip
                  refine lv_iconst (v := nI 0) hx hb dX4_agree_64 (by decide) ?_
                  refine lv_istore (lv' := [(6, .int (nI 0)), (0, .ref (q 0)), (1, .int (nI j3)), (2, .int (nI j7)), (3, .int (nI (pm_bo S j3 j7 k))), (4, .int (nI (pm_sa S j3 j7 k))), (5, .int (nI k))]) hx hb dX4_agree_65 hl (by decide) rfl (fun ls hl => ?_)
                  refine lv_iload_n hx hb dX4_agree_67 rfl (lv_at hl 4 rfl) ?_
                  refine lv_iload hx hb dX4_agree_68 (lv_at hl 0 rfl) ?_
                  refine lv_if_eq (tgt := 77) hx hb dX4_agree_70 (by decide) (fun _ => ?_) (fun c26 => (c26 (by decide)).elim)
                  refine lv_iconst (v := nI 0) hx hb dX4_agree_77 (by decide) ?_
                  refine kx_iadd hx hb dX4_agree_78 ?_
                  refine lv_istore_n (lv' := [(3, .int (nI ((pm_bo S j3 j7 k) + 0))), (6, .int (nI 0)), (0, .ref (q 0)), (1, .int (nI j3)), (2, .int (nI j7)), (4, .int (nI (pm_sa S j3 j7 k))), (5, .int (nI k))]) hx hb dX4_agree_79 rfl hl (by decide) rfl (fun ls hl => ?_)
                  refine lv_iload hx hb dX4_agree_80 (lv_at hl 5 rfl) ?_
                  refine lv_iload hx hb dX4_agree_82 (lv_at hl 1 rfl) ?_
                  refine lv_if_eq (tgt := 108) hx hb dX4_agree_84 (by decide) (fun _ => ?_) (fun c27 => (c27 (by decide)).elim)
                  refine lv_iconst (v := nI 0) hx hb dX4_agree_108 (by decide) ?_
                  refine kx_iadd hx hb dX4_agree_109 ?_
                  refine lv_istore (lv' := [(4, .int (nI ((pm_sa S j3 j7 k) + 0))), (3, .int (nI ((pm_bo S j3 j7 k) + 0))), (6, .int (nI 0)), (0, .ref (q 0)), (1, .int (nI j3)), (2, .int (nI j7)), (5, .int (nI k))]) hx hb dX4_agree_110 hl (by decide) rfl (fun ls hl => ?_)
                  refine kx_iinc (a := k) (lv' := [(5, .int (nI (k + 1))), (4, .int (nI ((pm_sa S j3 j7 k) + 0))), (3, .int (nI ((pm_bo S j3 j7 k) + 0))), (6, .int (nI 0)), (0, .ref (q 0)), (1, .int (nI j3)), (2, .int (nI j7))]) hx hb dX4_agree_112 hl (k := 6) rfl (by decide) rfl (fun ls hl => ?_)
                  refine lv_goto (tgt := 24) hx hb dX4_agree_115 (by decide) ?_
                  have q28 : (nI (pm_bo S j3 j7 (k + 1)) : Int32) = nI ((pm_bo S j3 j7 k) + 0) := (congrArg nI (by first | exact pm_num_p (decide_eq_true (by omega)) | exact pm_num_n (decide_eq_false (by omega))))
                  have q29 : (nI (pm_sa S j3 j7 (k + 1)) : Int32) = nI ((pm_sa S j3 j7 k) + 0) := (congrArg nI (by first | exact pm_num_p (decide_eq_true (by omega)) | exact pm_num_n (decide_eq_false (by omega))))
                  exact ih9 (k + 1) ls (by omega) (by omega) (by rw [q28, q29]; exact lv_sub hl [4, 5, 6, 2, 1, 0] rfl) 
                · skip
                  refine lv_iconst (v := nI 1) hx hb dX4_agree_60 (by decide) ?_
                  refine lv_goto (tgt := 65) hx hb dX4_agree_61 (by decide) ?_
                  refine lv_istore (lv' := [(6, .int (nI 1)), (0, .ref (q 0)), (1, .int (nI j3)), (2, .int (nI j7)), (3, .int (nI (pm_bo S j3 j7 k))), (4, .int (nI (pm_sa S j3 j7 k))), (5, .int (nI k))]) hx hb dX4_agree_65 hl (by decide) rfl (fun ls hl => ?_)
                  refine lv_iload_n hx hb dX4_agree_67 rfl (lv_at hl 4 rfl) ?_
                  refine lv_iload hx hb dX4_agree_68 (lv_at hl 0 rfl) ?_
                  refine lv_if_eq (tgt := 77) hx hb dX4_agree_70 (by decide) (fun c30 => absurd c30 (by decide)) (fun _ => ?_)
                  refine lv_iconst (v := nI 1) hx hb dX4_agree_73 (by decide) ?_
                  refine lv_goto (tgt := 78) hx hb dX4_agree_74 (by decide) ?_
                  refine kx_iadd hx hb dX4_agree_78 ?_
                  refine lv_istore_n (lv' := [(3, .int (nI ((pm_bo S j3 j7 k) + 1))), (6, .int (nI 1)), (0, .ref (q 0)), (1, .int (nI j3)), (2, .int (nI j7)), (4, .int (nI (pm_sa S j3 j7 k))), (5, .int (nI k))]) hx hb dX4_agree_79 rfl hl (by decide) rfl (fun ls hl => ?_)
                  refine lv_iload hx hb dX4_agree_80 (lv_at hl 5 rfl) ?_
                  refine lv_iload hx hb dX4_agree_82 (lv_at hl 1 rfl) ?_
                  refine lv_if_eq (tgt := 108) hx hb dX4_agree_84 (by decide) (fun c31 => absurd c31 (by decide)) (fun _ => ?_)
                  refine lv_aload_n hx hb dX4_agree_87 rfl (lv_at hl 2 rfl) ?_
                  refine lv_iload_n hx hb dX4_agree_88 rfl (lv_at hl 3 rfl) ?_
                  refine lv_iload hx hb dX4_agree_89 (lv_at hl 6 rfl) ?_
                  refine vp_callSi (W.runV (As := [.int (nI j3), .int (nI k)]) (rest := [.int (nI (pm_sa S j3 j7 k))]) ⟨hx, hb, hml, hown, hts⟩ (k_X4_markOf l D y q S gp gs kn ln sv pd j3 k (hI.okm k (by omega)) (by omega) (by omega)) (cwV 2 hts gX4_agree_X4_markOf rfl rfl rfl hd_X4_markOf ⟨Nat.le_of_ble_eq_true rfl, Nat.le_of_ble_eq_true rfl⟩) ⟨pm_ro_blind, va_recv hK hP (ci := 4) (q0 := 0) rfl rfl, pm_ro_pre hP hK⟩ rfl rfl hl.1 rfl (lv_room (Nat.le_of_ble_eq_true rfl)) dX4_agree_91 ⟨Nat.le_of_ble_eq_true rfl, Nat.le_of_ble_eq_true rfl⟩) (fun r32 h33 => ?_)
                  obtain rfl : r32 = nI (pm_mk (S 4 k) j3) := h33
                  have := pm_lt4 (S 4 k) j3
                  refine lv_aload_n hx hb dX4_agree_94 rfl (lv_at hl 2 rfl) ?_
                  refine lv_iload_n hx hb dX4_agree_95 rfl (lv_at hl 4 rfl) ?_
                  refine lv_iload hx hb dX4_agree_96 (lv_at hl 6 rfl) ?_
                  refine vp_callSi (W.runV (As := [.int (nI j7), .int (nI k)]) (rest := [.int (nI (pm_mk (S 4 k) j3)), .int (nI (pm_sa S j3 j7 k))]) ⟨hx, hb, hml, hown, hts⟩ (k_X4_markOf l D y q S gp gs kn ln sv pd j7 k (hI.okm k (by omega)) (by omega) (by omega)) (cwV 2 hts gX4_agree_X4_markOf rfl rfl rfl hd_X4_markOf ⟨Nat.le_of_ble_eq_true rfl, Nat.le_of_ble_eq_true rfl⟩) ⟨pm_ro_blind, va_recv hK hP (ci := 4) (q0 := 0) rfl rfl, pm_ro_pre hP hK⟩ rfl rfl hl.1 rfl (lv_room (Nat.le_of_ble_eq_true rfl)) dX4_agree_98 ⟨Nat.le_of_ble_eq_true rfl, Nat.le_of_ble_eq_true rfl⟩) (fun r34 h35 => ?_)
                  obtain rfl : r34 = nI (pm_mk (S 4 k) j7) := h35
                  have := pm_lt4 (S 4 k) j7
                  refine kx_icmp_ne (tgt := 108) hx hb (by omega) (by omega) dX4_agree_101 (by decide) (fun c36 => ?_) (fun c36 => ?_)
                  · skip
                    refine lv_iconst (v := nI 0) hx hb dX4_agree_108 (by decide) ?_
                    refine kx_iadd hx hb dX4_agree_109 ?_
                    refine lv_istore (lv' := [(4, .int (nI ((pm_sa S j3 j7 k) + 0))), (3, .int (nI ((pm_bo S j3 j7 k) + 1))), (6, .int (nI 1)), (0, .ref (q 0)), (1, .int (nI j3)), (2, .int (nI j7)), (5, .int (nI k))]) hx hb dX4_agree_110 hl (by decide) rfl (fun ls hl => ?_)
                    refine kx_iinc (a := k) (lv' := [(5, .int (nI (k + 1))), (4, .int (nI ((pm_sa S j3 j7 k) + 0))), (3, .int (nI ((pm_bo S j3 j7 k) + 1))), (6, .int (nI 1)), (0, .ref (q 0)), (1, .int (nI j3)), (2, .int (nI j7))]) hx hb dX4_agree_112 hl (k := 6) rfl (by decide) rfl (fun ls hl => ?_)
                    refine lv_goto (tgt := 24) hx hb dX4_agree_115 (by decide) ?_
                    have q37 : (nI (pm_bo S j3 j7 (k + 1)) : Int32) = nI ((pm_bo S j3 j7 k) + 1) := (congrArg nI (by first | exact pm_num_p (decide_eq_true (by omega)) | exact pm_num_n (decide_eq_false (by omega))))
                    have q38 : (nI (pm_sa S j3 j7 (k + 1)) : Int32) = nI ((pm_sa S j3 j7 k) + 0) := (congrArg nI (by first | exact pm_num_p (decide_eq_true (by omega)) | exact pm_num_n (decide_eq_false (by omega))))
                    exact ih9 (k + 1) ls (by omega) (by omega) (by rw [q37, q38]; exact lv_sub hl [4, 5, 6, 2, 1, 0] rfl) 
                  · skip
                    refine lv_iconst (v := nI 1) hx hb dX4_agree_104 (by decide) ?_
                    refine lv_goto (tgt := 109) hx hb dX4_agree_105 (by decide) ?_
                    refine kx_iadd hx hb dX4_agree_109 ?_
                    refine lv_istore (lv' := [(4, .int (nI ((pm_sa S j3 j7 k) + 1))), (3, .int (nI ((pm_bo S j3 j7 k) + 1))), (6, .int (nI 1)), (0, .ref (q 0)), (1, .int (nI j3)), (2, .int (nI j7)), (5, .int (nI k))]) hx hb dX4_agree_110 hl (by decide) rfl (fun ls hl => ?_)
                    refine kx_iinc (a := k) (lv' := [(5, .int (nI (k + 1))), (4, .int (nI ((pm_sa S j3 j7 k) + 1))), (3, .int (nI ((pm_bo S j3 j7 k) + 1))), (6, .int (nI 1)), (0, .ref (q 0)), (1, .int (nI j3)), (2, .int (nI j7))]) hx hb dX4_agree_112 hl (k := 6) rfl (by decide) rfl (fun ls hl => ?_)
                    refine lv_goto (tgt := 24) hx hb dX4_agree_115 (by decide) ?_
                    have q39 : (nI (pm_bo S j3 j7 (k + 1)) : Int32) = nI ((pm_bo S j3 j7 k) + 1) := (congrArg nI (by first | exact pm_num_p (decide_eq_true (by omega)) | exact pm_num_n (decide_eq_false (by omega))))
                    have q40 : (nI (pm_sa S j3 j7 (k + 1)) : Int32) = nI ((pm_sa S j3 j7 k) + 1) := (congrArg nI (by first | exact pm_num_p (decide_eq_true (by omega)) | exact pm_num_n (decide_eq_false (by omega))))
                    exact ih9 (k + 1) ls (by omega) (by omega) (by rw [q39, q40]; exact lv_sub hl [4, 5, 6, 2, 1, 0] rfl) 
            · skip
              refine lv_if_eq (tgt := 64) hx hb dX4_agree_37 (by decide) (fun _ => ?_) (fun c41 => (c41 (by decide)).elim)
              refine lv_iconst (v := nI 0) hx hb dX4_agree_64 (by decide) ?_
              refine lv_istore (lv' := [(6, .int (nI 0)), (0, .ref (q 0)), (1, .int (nI j3)), (2, .int (nI j7)), (3, .int (nI (pm_bo S j3 j7 k))), (4, .int (nI (pm_sa S j3 j7 k))), (5, .int (nI k))]) hx hb dX4_agree_65 hl (by decide) rfl (fun ls hl => ?_)
              refine lv_iload_n hx hb dX4_agree_67 rfl (lv_at hl 4 rfl) ?_
              refine lv_iload hx hb dX4_agree_68 (lv_at hl 0 rfl) ?_
              refine lv_if_eq (tgt := 77) hx hb dX4_agree_70 (by decide) (fun _ => ?_) (fun c42 => (c42 (by decide)).elim)
              refine lv_iconst (v := nI 0) hx hb dX4_agree_77 (by decide) ?_
              refine kx_iadd hx hb dX4_agree_78 ?_
              refine lv_istore_n (lv' := [(3, .int (nI ((pm_bo S j3 j7 k) + 0))), (6, .int (nI 0)), (0, .ref (q 0)), (1, .int (nI j3)), (2, .int (nI j7)), (4, .int (nI (pm_sa S j3 j7 k))), (5, .int (nI k))]) hx hb dX4_agree_79 rfl hl (by decide) rfl (fun ls hl => ?_)
              refine lv_iload hx hb dX4_agree_80 (lv_at hl 5 rfl) ?_
              refine lv_iload hx hb dX4_agree_82 (lv_at hl 1 rfl) ?_
              refine lv_if_eq (tgt := 108) hx hb dX4_agree_84 (by decide) (fun _ => ?_) (fun c43 => (c43 (by decide)).elim)
              refine lv_iconst (v := nI 0) hx hb dX4_agree_108 (by decide) ?_
              refine kx_iadd hx hb dX4_agree_109 ?_
              refine lv_istore (lv' := [(4, .int (nI ((pm_sa S j3 j7 k) + 0))), (3, .int (nI ((pm_bo S j3 j7 k) + 0))), (6, .int (nI 0)), (0, .ref (q 0)), (1, .int (nI j3)), (2, .int (nI j7)), (5, .int (nI k))]) hx hb dX4_agree_110 hl (by decide) rfl (fun ls hl => ?_)
              refine kx_iinc (a := k) (lv' := [(5, .int (nI (k + 1))), (4, .int (nI ((pm_sa S j3 j7 k) + 0))), (3, .int (nI ((pm_bo S j3 j7 k) + 0))), (6, .int (nI 0)), (0, .ref (q 0)), (1, .int (nI j3)), (2, .int (nI j7))]) hx hb dX4_agree_112 hl (k := 6) rfl (by decide) rfl (fun ls hl => ?_)
              refine lv_goto (tgt := 24) hx hb dX4_agree_115 (by decide) ?_
              have q44 : (nI (pm_bo S j3 j7 (k + 1)) : Int32) = nI ((pm_bo S j3 j7 k) + 0) := (congrArg nI (by first | exact pm_num_p (decide_eq_true (by omega)) | exact pm_num_n (decide_eq_false (by omega))))
              have q45 : (nI (pm_sa S j3 j7 (k + 1)) : Int32) = nI ((pm_sa S j3 j7 k) + 0) := (congrArg nI (by first | exact pm_num_p (decide_eq_true (by omega)) | exact pm_num_n (decide_eq_false (by omega))))
              exact ih9 (k + 1) ls (by omega) (by omega) (by rw [q44, q45]; exact lv_sub hl [4, 5, 6, 2, 1, 0] rfl) 
      exact LOOP24 (30 + 1) 0 ls (by omega) (by omega) (lv_sub hl [3, 4, 5, 2, 1, 0] rfl) 
    · skip
      refine lv_if_ne (tgt := 16) hx hb dX4_agree_11 (by decide) (fun c46 => (c46 (by decide)).elim) (fun _ => ?_)
      refine lv_iconst (v := -1) hx hb dX4_agree_14 (by decide) ?_
      exact W.iret hx hb hr (fun t ht _ => ⟨_, rfl, (by simp only [pm_agr, pm_ix_in hj3 (show (3 : Nat) < 2 ^ 31 by decide), pm_ix_out hnj7]), ht⟩) (fun _ h => absurd h List.not_mem_nil) dX4_agree_15
  · skip
    refine lv_if_eq (tgt := 14) hx hb dX4_agree_4 (by decide) (fun _ => ?_) (fun c47 => (c47 (by decide)).elim)
    refine lv_iconst (v := -1) hx hb dX4_agree_14 (by decide) ?_
    exact W.iret hx hb hr (fun t ht _ => ⟨_, rfl, (by simp only [pm_agr, pm_ix_out hnj3]), ht⟩) (fun _ h => absurd h List.not_mem_nil) dX4_agree_15

set_option maxHeartbeats 4000000 in
set_option maxRecDepth 100000 in
theorem k_X4_paperFor (l : Launch) (D : va_G) (y : Nat → ClassId) (q : Nat → Nat) (S : Nat → Nat → Nat) (gp gs : Nat → Int32) (kn ln : Nat) (sv pd : Nat → Nat) (hI : pm_Inv S) : Met l yX4_paperFor wsX4_paperFor ({ frames := 1, cells := 0, slots := 0, locals := 21 } : Room) (pm_ro D (pm_ty y) [.ref (q 0)] (pm_mo y q S gp gs kn ln sv pd)) (vp_Si (fun r : Int32 => r = nI (pm_pf S 30))) 0 0 (fun _ => False) := by
  refine Met.ofW (cc := cX4_paperFor) (maxL := 3) (ret := (some .int)) (by decide) rfl ?_
  intro p e s m args below meth c s₁ B hml hpre
  obtain ⟨rfl, hP, hK⟩ := hpre
  have hx := B.exec
  have hb := B.bytes
  have hr := B.returns
  have hts := atoms_spec (ws := wsX4_paperFor) B.pre
  have hown : s.vm.findClass RX4 = some m.cls := findClass_of_methodNamed B.named
  have hlocks := B.notSynchronized
  have hin4 : ∀ w ∈ u_ws RX4 TX4 7, w ∈ wsX4_paperFor := fun w h => List.mem_cons_of_mem _ (List.mem_append_right _ h)
  have hP : va_P D vwCl (pm_mo y q S gp gs kn ln sv pd) s.heap := hP
  have hl := lv_entry ([.ref (q 0)]) (n := 3) (Nat.le_of_ble_eq_true rfl)
  rw [lg_entry_eq]
  generalize (lg_sl ([.ref (q 0)]) ++ List.replicate (3 - (lg_sl ([.ref (q 0)])).length) Slot.unset).toArray = ls at hl ⊢
  have hl : lv_has ls 3 [(0, .ref (q 0))] := hl
  refine lv_iconst (v := nI 0) hx hb dX4_paperFor_0 (by decide) ?_
  refine lv_istore_n (lv' := [(1, .int (nI 0)), (0, .ref (q 0))]) hx hb dX4_paperFor_1 rfl hl (by decide) rfl (fun ls hl => ?_)
  refine lv_iconst (v := nI 0) hx hb dX4_paperFor_2 (by decide) ?_
  refine lv_istore_n (lv' := [(2, .int (nI 0)), (1, .int (nI 0)), (0, .ref (q 0))]) hx hb dX4_paperFor_3 rfl hl (by decide) rfl (fun ls hl => ?_)
  have LOOP4 : ∀ (n k : Nat) (ls : Array Slot), k ≤ 30 → 30 - k < n → lv_has ls 3 [(0, .ref (q 0)), (1, .int (nI (pm_pf S k))), (2, .int (nI k))] → W p l e (headSpec wsX4_paperFor ({ frames := 1, cells := 0, slots := 0, locals := 21 } : Room)).room s m ([.ref (q 0)] : List Value).toArray below meth c s.heap [] 0 0 (MQ below (vp_Si (fun r : Int32 => r = nI (pm_pf S 30))) ([.ref (q 0)] : List Value).toArray s 0 0 (fun _ => False)) (F0 m 4 ls []) := by
    intro n
    induction n with
    | zero => intro k _ hi hn; omega
    | succ n ih1 =>
      intro k ls hi_k hn_k hl 
      refine lv_iload_n hx hb dX4_paperFor_4 rfl (lv_at hl 2 rfl) ?_
      refine lv_bipush (v := nI 30) hx hb dX4_paperFor_5 (by decide) ?_
      refine kx_icmp_ge (tgt := 50) hx hb (by omega) (by decide) dX4_paperFor_7 (by decide) (fun c2 => ?_) (fun c2 => ?_)
      · skip
        refine lv_iload_n hx hb dX4_paperFor_50 rfl (lv_at hl 1 rfl) ?_
        exact W.iret hx hb hr (fun t ht _ => ⟨_, rfl, (by rw [show k = 30 by omega]), ht⟩) (fun _ h => absurd h List.not_mem_nil) dX4_paperFor_51
      · skip
        refine lv_iload_n hx hb dX4_paperFor_10 rfl (lv_at hl 1 rfl) ?_
        refine lv_aload_n hx hb dX4_paperFor_11 rfl (lv_at hl 0 rfl) ?_
        refine va_get (D := D) (ci := 4) (v := .ref (q 1)) (C := RX4) (T := TX4) (N := 7) hx hb hts hin4 hown hK hP 0 rfl rfl 0 (by decide) (hts (.fieldLink RX4 7 "ProofMarksModel" "s" "[I") (List.mem_of_getElem? (i := 1) rfl)) (fun _ h9 => h9) rfl dX4_paperFor_12 ?_
        refine lv_iload_n hx hb dX4_paperFor_15 rfl (lv_at hl 2 rfl) ?_
        refine lv_iconst (v := nI 0) hx hb dX4_paperFor_16 (by decide) ?_
        refine vp_callSi (W.runS (As := [.int (nI k), .int (nI 0)]) (rest := [.ref (q 1), .int (nI (pm_pf S k))]) ⟨hx, hb, hml, hown, hts⟩ (k_X4_at l k 0) (va_cwS 2 hts gX4_paperFor_X4_at rfl rfl rfl hd_X4_at ⟨Nat.le_of_ble_eq_true rfl, Nat.le_of_ble_eq_true rfl⟩) ⟨pm_no_blind, pm_no_pre⟩ rfl rfl hl.1 rfl (lv_room (Nat.le_of_ble_eq_true rfl)) dX4_paperFor_17 ⟨Nat.le_of_ble_eq_true rfl, Nat.le_of_ble_eq_true rfl⟩) (fun r3 h4 => ?_)
        obtain rfl : r3 = nI (5 * k + 0) := h4
        refine kx_iald (v := nI (S 0 k)) hx hb hK hP 1 0 rfl rfl (by omega) (by decide) (pm_ms_f (S := S) (f := k) 0 (by decide) (by decide) (by omega)) dX4_paperFor_20 ?_
        have := hI.how k (by omega)
        refine lv_iconst (v := nI 1) hx hb dX4_paperFor_21 (by decide) ?_
        refine kx_icmp_ne (tgt := 41) hx hb (by omega) (by decide) dX4_paperFor_22 (by decide) (fun c5 => ?_) (fun c5 => ?_)
        · skip
          refine lv_iconst (v := nI 0) hx hb dX4_paperFor_41 (by decide) ?_
          refine kx_iadd hx hb dX4_paperFor_42 ?_
          refine lv_istore_n (lv' := [(1, .int (nI ((pm_pf S k) + 0))), (0, .ref (q 0)), (2, .int (nI k))]) hx hb dX4_paperFor_43 rfl hl (by decide) rfl (fun ls hl => ?_)
          refine kx_iinc (a := k) (lv' := [(2, .int (nI (k + 1))), (1, .int (nI ((pm_pf S k) + 0))), (0, .ref (q 0))]) hx hb dX4_paperFor_44 hl (k := 2) rfl (by decide) rfl (fun ls hl => ?_)
          refine lv_goto (tgt := 4) hx hb dX4_paperFor_47 (by decide) ?_
          have q6 : (nI (pm_pf S (k + 1)) : Int32) = nI ((pm_pf S k) + 0) := (congrArg nI (by first | exact pm_pf_p (by assumption) | exact pm_pf_n (by assumption)))
          exact ih1 (k + 1) ls (by omega) (by omega) (by rw [q6]; exact lv_sub hl [2, 1, 0] rfl) 
        · skip
          refine lv_aload_n hx hb dX4_paperFor_25 rfl (lv_at hl 0 rfl) ?_
          refine va_get (D := D) (ci := 4) (v := .ref (q 1)) (C := RX4) (T := TX4) (N := 7) hx hb hts hin4 hown hK hP 0 rfl rfl 0 (by decide) (hts (.fieldLink RX4 7 "ProofMarksModel" "s" "[I") (List.mem_of_getElem? (i := 1) rfl)) (fun _ h9 => h9) rfl dX4_paperFor_26 ?_
          refine lv_iload_n hx hb dX4_paperFor_29 rfl (lv_at hl 2 rfl) ?_
          refine lv_iconst (v := nI 2) hx hb dX4_paperFor_30 (by decide) ?_
          refine vp_callSi (W.runS (As := [.int (nI k), .int (nI 2)]) (rest := [.ref (q 1), .int (nI (pm_pf S k))]) ⟨hx, hb, hml, hown, hts⟩ (k_X4_at l k 2) (va_cwS 2 hts gX4_paperFor_X4_at rfl rfl rfl hd_X4_at ⟨Nat.le_of_ble_eq_true rfl, Nat.le_of_ble_eq_true rfl⟩) ⟨pm_no_blind, pm_no_pre⟩ rfl rfl hl.1 rfl (lv_room (Nat.le_of_ble_eq_true rfl)) dX4_paperFor_31 ⟨Nat.le_of_ble_eq_true rfl, Nat.le_of_ble_eq_true rfl⟩) (fun r7 h8 => ?_)
          obtain rfl : r7 = nI (5 * k + 2) := h8
          refine kx_iald (v := nI (S 2 k)) hx hb hK hP 1 0 rfl rfl (by omega) (by decide) (pm_ms_f (S := S) (f := k) 2 (by decide) (by decide) (by omega)) dX4_paperFor_34 ?_
          have := hI.size k (by omega)
          refine vp_callSi (W.runS (As := [.int (nI (S 2 k))]) (rest := [.int (nI (pm_pf S k))]) ⟨hx, hb, hml, hown, hts⟩ (k_X4_paperOf l (S 2 k)) (va_cwS 1 hts gX4_paperFor_X4_paperOf rfl rfl rfl hd_X4_paperOf ⟨Nat.le_of_ble_eq_true rfl, Nat.le_of_ble_eq_true rfl⟩) ⟨pm_no_blind, pm_no_pre⟩ rfl rfl hl.1 rfl (lv_room (Nat.le_of_ble_eq_true rfl)) dX4_paperFor_35 ⟨Nat.le_of_ble_eq_true rfl, Nat.le_of_ble_eq_true rfl⟩) (fun r9 h10 => ?_)
          obtain rfl : r9 = nI (10 * (S 2 k) * (S 2 k)) := h10
          refine lv_goto (tgt := 42) hx hb dX4_paperFor_38 (by decide) ?_
          refine kx_iadd hx hb dX4_paperFor_42 ?_
          refine lv_istore_n (lv' := [(1, .int (nI ((pm_pf S k) + (10 * (S 2 k) * (S 2 k))))), (0, .ref (q 0)), (2, .int (nI k))]) hx hb dX4_paperFor_43 rfl hl (by decide) rfl (fun ls hl => ?_)
          refine kx_iinc (a := k) (lv' := [(2, .int (nI (k + 1))), (1, .int (nI ((pm_pf S k) + (10 * (S 2 k) * (S 2 k))))), (0, .ref (q 0))]) hx hb dX4_paperFor_44 hl (k := 2) rfl (by decide) rfl (fun ls hl => ?_)
          refine lv_goto (tgt := 4) hx hb dX4_paperFor_47 (by decide) ?_
          have q11 : (nI (pm_pf S (k + 1)) : Int32) = nI ((pm_pf S k) + (10 * (S 2 k) * (S 2 k))) := (congrArg nI (by first | exact pm_pf_p (by assumption) | exact pm_pf_n (by assumption)))
          exact ih1 (k + 1) ls (by omega) (by omega) (by rw [q11]; exact lv_sub hl [2, 1, 0] rfl) 
  exact LOOP4 (30 + 1) 0 ls (by omega) (by omega) (lv_sub hl [2, 1, 0] rfl) 

def pm_T10b (m i v w : Nat) : Bool := !(pm_okb m) || (decide (pm_sm (pm_sm m i v) i w = pm_sm m i w) && decide (pm_sm m i (pm_mk m i) = m))
theorem pm_T10 : ∀ m, m < 64 → ∀ i, i < 3 → ∀ v, v < 3 → ∀ w, w < 3 → pm_T10b m i v w = true := by decide +kernel
theorem pm_smm {m i v w : Nat} (h : pm_okb m = true) (hi : i < 3) (hv : v < 3) (hw : w < 3) : pm_sm (pm_sm m i v) i w = pm_sm m i w ∧ pm_sm m i (pm_mk m i) = m := by
  have a := pm_T10 m (pm_okb64 h) i hi v hv w hw
  simp only [pm_T10b, h, Bool.not_true, Bool.false_or, Bool.and_eq_true, decide_eq_true_eq] at a
  exact a
theorem pm_st_st {S : Nat → Nat → Nat} {c k v w : Nat} : pm_st (pm_st S c k v) c k w = pm_st S c k w := by
  funext d
  by_cases hd : d = c
  · simp only [pm_st, hd, if_true]
    funext j
    unfold updN
    by_cases hj : j = k
    · rw [if_pos hj, if_pos hj]
    · rw [if_neg hj, if_neg hj, if_neg hj]
  · simp only [pm_st, hd, if_false]
theorem pm_mts {S : Nat → Nat → Nat} {f i v w : Nat} (h : pm_okb (S 4 f) = true) (hi : i < 3) (hv : v < 3) (hw : w < 3) : pm_st (pm_st S 4 f (pm_sm (S 4 f) i v)) 4 f (pm_sm (pm_st S 4 f (pm_sm (S 4 f) i v) 4 f) i w) = pm_st S 4 f (pm_sm (S 4 f) i w) := by
  rw [pm_st_s, (pm_smm h hi hv hw).1, pm_st_st]
theorem pm_mtz {S : Nat → Nat → Nat} {f i v : Nat} (h : pm_okb (S 4 f) = true) (hi : i < 3) (hv : v < 3) : pm_st (pm_st S 4 f (pm_sm (S 4 f) i v)) 4 f (pm_sm (pm_st S 4 f (pm_sm (S 4 f) i v) 4 f) i (pm_mk (S 4 f) i)) = S := by
  rw [pm_st_s, (pm_smm h hi hv (pm_mk3 h hi)).1, pm_st_st, (pm_smm h hi hv (pm_mk3 h hi)).2]
  exact pm_st_id rfl
theorem pm_rsn0 {S : Nat → Nat → Nat} {f m : Nat} (hop : S 0 f = 0) : (if pm_st S 4 f m 0 f ≠ 0 then 1 else if pm_ck (pm_st S 4 f m 4 f) ≠ 0 then 2 else if pm_st S 4 f m 9 0 ≤ pm_tc (pm_st S 4 f m 4 f) then 0 else 3) = if pm_wd (S 9 0) m = true then 0 else if pm_ck m ≠ 0 then 2 else 3 := by
  rw [pm_st_s, pm_st_o (by decide), pm_st_o (by decide), if_neg (by omega)]
  unfold pm_wd
  by_cases h : pm_ck m ≠ 0
  · rw [if_pos h, if_neg (by simp; intro z; exact absurd z h), if_pos h]
  · rw [if_neg h]
    by_cases h2 : S 9 0 ≤ pm_tc m
    · rw [if_pos h2, if_pos (decide_eq_true ⟨by omega, h2⟩)]
    · rw [if_neg h2, if_neg (by simp; intro _; omega), if_neg h]
/-- an editor decides where two of the three marks differ -/
theorem pm_mcw {n m i : Nat} (h : pm_okb m = true) (hi : i < 3) : pm_mc n m i 3 = true ↔ ¬ (pm_wd n (pm_sm m i 0) = pm_wd n (pm_sm m i 1) ∧ pm_wd n (pm_sm m i 1) = pm_wd n (pm_sm m i 2)) := by
  have e : pm_wd n m = pm_wd n (pm_sm m i (pm_mk m i)) := by rw [(pm_smm h hi (pm_mk3 h hi) (pm_mk3 h hi)).2]
  simp only [pm_mc, e]
  rcases (show pm_mk m i = 0 ∨ pm_mk m i = 1 ∨ pm_mk m i = 2 by have := pm_mk3 h hi; omega) with q | q | q <;> rw [q] <;> cases pm_wd n (pm_sm m i 0) <;> cases pm_wd n (pm_sm m i 1) <;> cases pm_wd n (pm_sm m i 2) <;> decide
set_option maxHeartbeats 4000000 in
set_option maxRecDepth 100000 in
theorem k_X4_matters (l : Launch) (D : va_G) (y : Nat → ClassId) (q : Nat → Nat) (S : Nat → Nat → Nat) (gp gs : Nat → Int32) (kn ln : Nat) (sv pd : Nat → Nat) (i f : Nat) (hI : pm_Inv S) (hop : S 0 f = 0) (hi : i < 3) (hf : f < 30) : Met l yX4_matters wsX4_matters ({ frames := 4, cells := 0, slots := 0, locals := 88 } : Room) (pm_wr D (pm_ty y) [.ref (q 0), .int (nI i), .int (nI f)] (pm_mo y q S gp gs kn ln sv pd)) (pm_Qi D (fun (r : Int32) (_ : Unit) => ((pm_mc (S 9 0) (S 4 f) i 3 = true) ∧ r = nI 1) ∨ (¬ (pm_mc (S 9 0) (S 4 f) i 3 = true) ∧ r = nI 0)) (fun (_ : Unit) => pm_mo y q S gp gs kn ln sv pd) (pm_mo y q S gp gs kn ln sv pd)) 0 0 (pm_ad (pm_mo y q S gp gs kn ln sv pd)) := by
  refine Met.ofW (cc := cX4_matters) (maxL := 6) (ret := (some .boolean)) (by decide) rfl ?_
  intro p e s m args below meth c s₁ B hml hpre
  obtain ⟨rfl, hP, hK, hD0⟩ := hpre
  have hx := B.exec
  have hb := B.bytes
  have hr := B.returns
  have hts := atoms_spec (ws := wsX4_matters) B.pre
  have hown : s.vm.findClass RX4 = some m.cls := findClass_of_methodNamed B.named
  have hlocks := B.notSynchronized
  have hin4 : ∀ w ∈ u_ws RX4 TX4 7, w ∈ wsX4_matters := fun w h => List.mem_cons_of_mem _ (List.mem_append_right _ h)
  have hD := pm_ad_self hD0
  have hS : va_S (pm_ad (pm_mo y q S gp gs kn ln sv pd)) s.heap s.heap [] := va_S.rf
  have hP : va_P D vwCl (pm_mo y q S gp gs kn ln sv pd) s.heap := hP
  have hl := lv_entry ([.ref (q 0), .int (nI i), .int (nI f)]) (n := 6) (Nat.le_of_ble_eq_true rfl)
  rw [lg_entry_eq]
  generalize (lg_sl ([.ref (q 0), .int (nI i), .int (nI f)]) ++ List.replicate (6 - (lg_sl ([.ref (q 0), .int (nI i), .int (nI f)])).length) Slot.unset).toArray = ls at hl ⊢
  have hl : lv_has ls 6 [(0, .ref (q 0)), (1, .int (nI i)), (2, .int (nI f))] := hl
  refine lv_aload_n hx hb dX4_matters_0 rfl (lv_at hl 0 rfl) ?_
  refine lv_iload_n hx hb dX4_matters_1 rfl (lv_at hl 1 rfl) ?_
  refine lv_iload_n hx hb dX4_matters_2 rfl (lv_at hl 2 rfl) ?_
  refine vp_callSi (W.runV (As := [.int (nI i), .int (nI f)]) (rest := []) ⟨hx, hb, hml, hown, hts⟩ (k_X4_markOf l D y q S gp gs kn ln sv pd i f (hI.okm f (by omega)) (by omega) (by omega)) (cwV 2 hts gX4_matters_X4_markOf rfl rfl rfl hd_X4_markOf ⟨Nat.le_of_ble_eq_true rfl, Nat.le_of_ble_eq_true rfl⟩) ⟨pm_ro_blind, va_recv hK hP (ci := 4) (q0 := 0) rfl rfl, pm_ro_pre hP hK⟩ rfl rfl hl.1 rfl (lv_room (Nat.le_of_ble_eq_true rfl)) dX4_matters_3 ⟨Nat.le_of_ble_eq_true rfl, Nat.le_of_ble_eq_true rfl⟩) (fun r1 h2 => ?_)
  obtain rfl : r1 = nI (pm_mk (S 4 f) i) := h2
  have := pm_lt4 (S 4 f) i
  refine lv_istore_n (lv' := [(3, .int (nI (pm_mk (S 4 f) i))), (0, .ref (q 0)), (1, .int (nI i)), (2, .int (nI f))]) hx hb dX4_matters_6 rfl hl (by decide) rfl (fun ls hl => ?_)
  have := pm_mk3 (hI.okm f hf) hi
  refine lv_iconst (v := nI 0) hx hb dX4_matters_7 (by decide) ?_
  refine lv_istore (lv' := [(4, .int (nI 0)), (3, .int (nI (pm_mk (S 4 f) i))), (0, .ref (q 0)), (1, .int (nI i)), (2, .int (nI f))]) hx hb dX4_matters_8 hl (by decide) rfl (fun ls hl => ?_)
  refine lv_iconst (v := nI 0) hx hb dX4_matters_10 (by decide) ?_
  refine lv_istore (lv' := [(5, .int (nI 0)), (4, .int (nI 0)), (3, .int (nI (pm_mk (S 4 f) i))), (0, .ref (q 0)), (1, .int (nI i)), (2, .int (nI f))]) hx hb dX4_matters_11 hl (by decide) rfl (fun ls hl => ?_)
  refine lv_iload hx hb dX4_matters_13 (lv_at hl 0 rfl) ?_
  refine lv_iconst (v := nI 3) hx hb dX4_matters_15 (by decide) ?_
  refine lv_icmp_ge (tgt := 51) hx hb dX4_matters_16 (by decide) (fun c3 => absurd c3 (by decide)) (fun _ => ?_)
  refine lv_aload_n hx hb dX4_matters_19 rfl (lv_at hl 3 rfl) ?_
  refine lv_iload_n hx hb dX4_matters_20 rfl (lv_at hl 4 rfl) ?_
  refine lv_iload_n hx hb dX4_matters_21 rfl (lv_at hl 5 rfl) ?_
  refine lv_iload hx hb dX4_matters_22 (lv_at hl 0 rfl) ?_
  refine va_callv (va_runV (As := [.int (nI i), .int (nI f), .int (nI 0)]) (rest := []) ⟨hx, hb, hml, hown, hts⟩ (k_X4_marks l D y q S gp gs kn ln sv pd i f 0 (hI.okm f (by omega)) (by omega) (by omega) (by omega)) (cwV 3 hts gX4_matters_X4_marks rfl rfl rfl hd_X4_marks ⟨Nat.le_of_ble_eq_true rfl, Nat.le_of_ble_eq_true rfl⟩) ⟨pm_wr_blind, va_recv hK hP (ci := 4) (q0 := 0) rfl rfl, pm_wr_pre hP hK hD⟩ rfl rfl hl.1 rfl (lv_room (Nat.le_of_ble_eq_true rfl)) dX4_matters_24 ⟨Nat.le_of_ble_eq_true rfl, Nat.le_of_ble_eq_true rfl⟩) hS (fun q _ h9 => (pm_ad_all hD) q h9) (pm_ad_all hD) (fun u10 t6 H1 locs ht7 _ h5 hB8 _ hk9 hS => ?_)
  obtain ⟨hP, hD⟩ := pm_all (D := D) (cl := vwCl) (H1 := H1) hD (w' := pm_mo y q (pm_st S 4 f (pm_sm (S 4 f) i 0)) gp gs kn ln sv pd) (by rw [← ht7]; exact hB8) rfl
  generalize H1 = H at hP hS ⊢
  have hP : va_P D vwCl (pm_mo y q (pm_st S 4 f (pm_sm (S 4 f) i 0)) gp gs kn ln sv pd) H := by exact hP
  have hD : va_D (pm_ad (pm_mo y q S gp gs kn ln sv pd)) (pm_mo y q (pm_st S 4 f (pm_sm (S 4 f) i 0)) gp gs kn ln sv pd) := by exact hD
  refine lv_iload hx hb dX4_matters_27 (lv_at hl 1 rfl) ?_
  refine lv_aload_n hx hb dX4_matters_29 rfl (lv_at hl 3 rfl) ?_
  refine lv_iload_n hx hb dX4_matters_30 rfl (lv_at hl 5 rfl) ?_
  refine vp_callSi (W.runV (As := [.int (nI f)]) (rest := [.int (nI 0)]) ⟨hx, hb, hml, hown, hts⟩ (k_X4_reason l D y q (pm_st S 4 f (pm_sm (S 4 f) i 0)) gp gs kn ln sv pd f (by rw [pm_st_s]; exact pm_smok (hI.okm f hf) hi (v := 0) (by decide)) (by rw [pm_st_o (by decide)]; exact hI.how f hf) (by rw [pm_st_o (by decide)]; exact hI.set9 0 (by decide)) (by omega)) (cwV 1 hts gX4_matters_X4_reason rfl rfl rfl hd_X4_reason ⟨Nat.le_of_ble_eq_true rfl, Nat.le_of_ble_eq_true rfl⟩) ⟨pm_ro_blind, va_recv hK hP (ci := 4) (q0 := 0) rfl rfl, pm_ro_pre hP hK⟩ rfl rfl hl.1 rfl (lv_room (Nat.le_of_ble_eq_true rfl)) dX4_matters_31 ⟨Nat.le_of_ble_eq_true rfl, Nat.le_of_ble_eq_true rfl⟩) (fun r11 h12 => ?_)
  obtain rfl : r11 = nI (if (pm_st S 4 f (pm_sm (S 4 f) i 0)) 0 f ≠ 0 then 1 else if pm_ck ((pm_st S 4 f (pm_sm (S 4 f) i 0)) 4 f) ≠ 0 then 2 else if (pm_st S 4 f (pm_sm (S 4 f) i 0)) 9 0 ≤ pm_tc ((pm_st S 4 f (pm_sm (S 4 f) i 0)) 4 f) then 0 else 3) := h12
  refine lv_topi (fun x13 e14 => ?_)
  obtain rfl : x13 = nI (if pm_wd (S 9 0) (pm_sm (S 4 f) i 0) = true then 0 else if pm_ck (pm_sm (S 4 f) i 0) ≠ 0 then 2 else 3) := e14.trans (congrArg nI (pm_rsn0 hop))
  rcases Bool.eq_false_or_eq_true (pm_wd (S 9 0) (pm_sm (S 4 f) i 0)) with w15 | w15
  · refine lv_topi (fun x9 e9 => ?_)
    obtain rfl : x9 = nI 0 := e9.trans (congrArg nI (if_pos w15))
    refine lv_if_ne (tgt := 41) hx hb dX4_matters_34 (by decide) (fun c16 => (c16 (by decide)).elim) (fun _ => ?_)
    refine lv_iconst (v := nI 1) hx hb dX4_matters_37 (by decide) ?_
    refine lv_goto (tgt := 42) hx hb dX4_matters_38 (by decide) ?_
    refine kx_iadd hx hb dX4_matters_42 ?_
    refine lv_topi (fun x17 e18 => ?_)
    obtain rfl : x17 = nI 1 := e18.trans (rfl)
    refine lv_istore (lv' := [(4, .int (nI 1)), (5, .int (nI 0)), (3, .int (nI (pm_mk (S 4 f) i))), (0, .ref (q 0)), (1, .int (nI i)), (2, .int (nI f))]) hx hb dX4_matters_43 hl (by decide) rfl (fun ls hl => ?_)
    refine lv_iinc (v := nI 1) (lv' := [(5, .int (nI 1)), (4, .int (nI 1)), (3, .int (nI (pm_mk (S 4 f) i))), (0, .ref (q 0)), (1, .int (nI i)), (2, .int (nI f))]) hx hb dX4_matters_45 hl (k := 1) rfl (by decide) (by decide) rfl (fun ls hl => ?_)
    refine lv_goto (tgt := 13) hx hb dX4_matters_48 (by decide) ?_
    refine lv_iload hx hb dX4_matters_13 (lv_at hl 0 rfl) ?_
    refine lv_iconst (v := nI 3) hx hb dX4_matters_15 (by decide) ?_
    refine lv_icmp_ge (tgt := 51) hx hb dX4_matters_16 (by decide) (fun c19 => absurd c19 (by decide)) (fun _ => ?_)
    refine lv_aload_n hx hb dX4_matters_19 rfl (lv_at hl 3 rfl) ?_
    refine lv_iload_n hx hb dX4_matters_20 rfl (lv_at hl 4 rfl) ?_
    refine lv_iload_n hx hb dX4_matters_21 rfl (lv_at hl 5 rfl) ?_
    refine lv_iload hx hb dX4_matters_22 (lv_at hl 0 rfl) ?_
    refine va_callv (va_runV (As := [.int (nI i), .int (nI f), .int (nI 1)]) (rest := []) ⟨hx, hb, hml, hown, hts⟩ (k_X4_marks l D y q (pm_st S 4 f (pm_sm (S 4 f) i 0)) gp gs kn ln sv pd i f 1 (by rw [pm_st_s]; exact pm_smok (hI.okm f hf) hi (v := 0) (by decide)) (by omega) (by omega) (by omega)) (cwV 3 hts gX4_matters_X4_marks rfl rfl rfl hd_X4_marks ⟨Nat.le_of_ble_eq_true rfl, Nat.le_of_ble_eq_true rfl⟩) ⟨pm_wr_blind, va_recv hK hP (ci := 4) (q0 := 0) rfl rfl, pm_wr_pre hP hK hD⟩ rfl rfl hl.1 rfl (lv_room (Nat.le_of_ble_eq_true rfl)) dX4_matters_24 ⟨Nat.le_of_ble_eq_true rfl, Nat.le_of_ble_eq_true rfl⟩) hS (fun q _ h9 => (pm_ad_all hD) q h9) (pm_ad_all hD) (fun u26 t22 H1 locs ht23 _ h21 hB24 _ hk25 hS => ?_)
    obtain ⟨hP, hD⟩ := pm_all (D := D) (cl := vwCl) (H1 := H1) hD (w' := pm_mo y q (pm_st (pm_st S 4 f (pm_sm (S 4 f) i 0)) 4 f (pm_sm ((pm_st S 4 f (pm_sm (S 4 f) i 0)) 4 f) i 1)) gp gs kn ln sv pd) (by rw [← ht23]; exact hB24) rfl
    generalize H1 = H at hP hS ⊢
    have hP : va_P D vwCl (pm_mo y q (pm_st S 4 f (pm_sm (S 4 f) i 1)) gp gs kn ln sv pd) H := by rw [← pm_mts (hI.okm f hf) hi (v := 0) (w := 1) (by decide) (by decide)]; exact hP
    have hD : va_D (pm_ad (pm_mo y q S gp gs kn ln sv pd)) (pm_mo y q (pm_st S 4 f (pm_sm (S 4 f) i 1)) gp gs kn ln sv pd) := by rw [← pm_mts (hI.okm f hf) hi (v := 0) (w := 1) (by decide) (by decide)]; exact hD
    refine lv_iload hx hb dX4_matters_27 (lv_at hl 1 rfl) ?_
    refine lv_aload_n hx hb dX4_matters_29 rfl (lv_at hl 3 rfl) ?_
    refine lv_iload_n hx hb dX4_matters_30 rfl (lv_at hl 5 rfl) ?_
    refine vp_callSi (W.runV (As := [.int (nI f)]) (rest := [.int (nI 1)]) ⟨hx, hb, hml, hown, hts⟩ (k_X4_reason l D y q (pm_st S 4 f (pm_sm (S 4 f) i 1)) gp gs kn ln sv pd f (by rw [pm_st_s]; exact pm_smok (hI.okm f hf) hi (v := 1) (by decide)) (by rw [pm_st_o (by decide)]; exact hI.how f hf) (by rw [pm_st_o (by decide)]; exact hI.set9 0 (by decide)) (by omega)) (cwV 1 hts gX4_matters_X4_reason rfl rfl rfl hd_X4_reason ⟨Nat.le_of_ble_eq_true rfl, Nat.le_of_ble_eq_true rfl⟩) ⟨pm_ro_blind, va_recv hK hP (ci := 4) (q0 := 0) rfl rfl, pm_ro_pre hP hK⟩ rfl rfl hl.1 rfl (lv_room (Nat.le_of_ble_eq_true rfl)) dX4_matters_31 ⟨Nat.le_of_ble_eq_true rfl, Nat.le_of_ble_eq_true rfl⟩) (fun r27 h28 => ?_)
    obtain rfl : r27 = nI (if (pm_st S 4 f (pm_sm (S 4 f) i 1)) 0 f ≠ 0 then 1 else if pm_ck ((pm_st S 4 f (pm_sm (S 4 f) i 1)) 4 f) ≠ 0 then 2 else if (pm_st S 4 f (pm_sm (S 4 f) i 1)) 9 0 ≤ pm_tc ((pm_st S 4 f (pm_sm (S 4 f) i 1)) 4 f) then 0 else 3) := h28
    refine lv_topi (fun x29 e30 => ?_)
    obtain rfl : x29 = nI (if pm_wd (S 9 0) (pm_sm (S 4 f) i 1) = true then 0 else if pm_ck (pm_sm (S 4 f) i 1) ≠ 0 then 2 else 3) := e30.trans (congrArg nI (pm_rsn0 hop))
    rcases Bool.eq_false_or_eq_true (pm_wd (S 9 0) (pm_sm (S 4 f) i 1)) with w31 | w31
    · refine lv_topi (fun x9 e9 => ?_)
      obtain rfl : x9 = nI 0 := e9.trans (congrArg nI (if_pos w31))
      refine lv_if_ne (tgt := 41) hx hb dX4_matters_34 (by decide) (fun c32 => (c32 (by decide)).elim) (fun _ => ?_)
      refine lv_iconst (v := nI 1) hx hb dX4_matters_37 (by decide) ?_
      refine lv_goto (tgt := 42) hx hb dX4_matters_38 (by decide) ?_
      refine kx_iadd hx hb dX4_matters_42 ?_
      refine lv_topi (fun x33 e34 => ?_)
      obtain rfl : x33 = nI 2 := e34.trans (rfl)
      refine lv_istore (lv' := [(4, .int (nI 2)), (5, .int (nI 1)), (3, .int (nI (pm_mk (S 4 f) i))), (0, .ref (q 0)), (1, .int (nI i)), (2, .int (nI f))]) hx hb dX4_matters_43 hl (by decide) rfl (fun ls hl => ?_)
      refine lv_iinc (v := nI 2) (lv' := [(5, .int (nI 2)), (4, .int (nI 2)), (3, .int (nI (pm_mk (S 4 f) i))), (0, .ref (q 0)), (1, .int (nI i)), (2, .int (nI f))]) hx hb dX4_matters_45 hl (k := 1) rfl (by decide) (by decide) rfl (fun ls hl => ?_)
      refine lv_goto (tgt := 13) hx hb dX4_matters_48 (by decide) ?_
      refine lv_iload hx hb dX4_matters_13 (lv_at hl 0 rfl) ?_
      refine lv_iconst (v := nI 3) hx hb dX4_matters_15 (by decide) ?_
      refine lv_icmp_ge (tgt := 51) hx hb dX4_matters_16 (by decide) (fun c35 => absurd c35 (by decide)) (fun _ => ?_)
      refine lv_aload_n hx hb dX4_matters_19 rfl (lv_at hl 3 rfl) ?_
      refine lv_iload_n hx hb dX4_matters_20 rfl (lv_at hl 4 rfl) ?_
      refine lv_iload_n hx hb dX4_matters_21 rfl (lv_at hl 5 rfl) ?_
      refine lv_iload hx hb dX4_matters_22 (lv_at hl 0 rfl) ?_
      refine va_callv (va_runV (As := [.int (nI i), .int (nI f), .int (nI 2)]) (rest := []) ⟨hx, hb, hml, hown, hts⟩ (k_X4_marks l D y q (pm_st S 4 f (pm_sm (S 4 f) i 1)) gp gs kn ln sv pd i f 2 (by rw [pm_st_s]; exact pm_smok (hI.okm f hf) hi (v := 1) (by decide)) (by omega) (by omega) (by omega)) (cwV 3 hts gX4_matters_X4_marks rfl rfl rfl hd_X4_marks ⟨Nat.le_of_ble_eq_true rfl, Nat.le_of_ble_eq_true rfl⟩) ⟨pm_wr_blind, va_recv hK hP (ci := 4) (q0 := 0) rfl rfl, pm_wr_pre hP hK hD⟩ rfl rfl hl.1 rfl (lv_room (Nat.le_of_ble_eq_true rfl)) dX4_matters_24 ⟨Nat.le_of_ble_eq_true rfl, Nat.le_of_ble_eq_true rfl⟩) hS (fun q _ h9 => (pm_ad_all hD) q h9) (pm_ad_all hD) (fun u42 t38 H1 locs ht39 _ h37 hB40 _ hk41 hS => ?_)
      obtain ⟨hP, hD⟩ := pm_all (D := D) (cl := vwCl) (H1 := H1) hD (w' := pm_mo y q (pm_st (pm_st S 4 f (pm_sm (S 4 f) i 1)) 4 f (pm_sm ((pm_st S 4 f (pm_sm (S 4 f) i 1)) 4 f) i 2)) gp gs kn ln sv pd) (by rw [← ht39]; exact hB40) rfl
      generalize H1 = H at hP hS ⊢
      have hP : va_P D vwCl (pm_mo y q (pm_st S 4 f (pm_sm (S 4 f) i 2)) gp gs kn ln sv pd) H := by rw [← pm_mts (hI.okm f hf) hi (v := 1) (w := 2) (by decide) (by decide)]; exact hP
      have hD : va_D (pm_ad (pm_mo y q S gp gs kn ln sv pd)) (pm_mo y q (pm_st S 4 f (pm_sm (S 4 f) i 2)) gp gs kn ln sv pd) := by rw [← pm_mts (hI.okm f hf) hi (v := 1) (w := 2) (by decide) (by decide)]; exact hD
      refine lv_iload hx hb dX4_matters_27 (lv_at hl 1 rfl) ?_
      refine lv_aload_n hx hb dX4_matters_29 rfl (lv_at hl 3 rfl) ?_
      refine lv_iload_n hx hb dX4_matters_30 rfl (lv_at hl 5 rfl) ?_
      refine vp_callSi (W.runV (As := [.int (nI f)]) (rest := [.int (nI 2)]) ⟨hx, hb, hml, hown, hts⟩ (k_X4_reason l D y q (pm_st S 4 f (pm_sm (S 4 f) i 2)) gp gs kn ln sv pd f (by rw [pm_st_s]; exact pm_smok (hI.okm f hf) hi (v := 2) (by decide)) (by rw [pm_st_o (by decide)]; exact hI.how f hf) (by rw [pm_st_o (by decide)]; exact hI.set9 0 (by decide)) (by omega)) (cwV 1 hts gX4_matters_X4_reason rfl rfl rfl hd_X4_reason ⟨Nat.le_of_ble_eq_true rfl, Nat.le_of_ble_eq_true rfl⟩) ⟨pm_ro_blind, va_recv hK hP (ci := 4) (q0 := 0) rfl rfl, pm_ro_pre hP hK⟩ rfl rfl hl.1 rfl (lv_room (Nat.le_of_ble_eq_true rfl)) dX4_matters_31 ⟨Nat.le_of_ble_eq_true rfl, Nat.le_of_ble_eq_true rfl⟩) (fun r43 h44 => ?_)
      obtain rfl : r43 = nI (if (pm_st S 4 f (pm_sm (S 4 f) i 2)) 0 f ≠ 0 then 1 else if pm_ck ((pm_st S 4 f (pm_sm (S 4 f) i 2)) 4 f) ≠ 0 then 2 else if (pm_st S 4 f (pm_sm (S 4 f) i 2)) 9 0 ≤ pm_tc ((pm_st S 4 f (pm_sm (S 4 f) i 2)) 4 f) then 0 else 3) := h44
      refine lv_topi (fun x45 e46 => ?_)
      obtain rfl : x45 = nI (if pm_wd (S 9 0) (pm_sm (S 4 f) i 2) = true then 0 else if pm_ck (pm_sm (S 4 f) i 2) ≠ 0 then 2 else 3) := e46.trans (congrArg nI (pm_rsn0 hop))
      rcases Bool.eq_false_or_eq_true (pm_wd (S 9 0) (pm_sm (S 4 f) i 2)) with w47 | w47
      · refine lv_topi (fun x9 e9 => ?_)
        obtain rfl : x9 = nI 0 := e9.trans (congrArg nI (if_pos w47))
        refine lv_if_ne (tgt := 41) hx hb dX4_matters_34 (by decide) (fun c48 => (c48 (by decide)).elim) (fun _ => ?_)
        refine lv_iconst (v := nI 1) hx hb dX4_matters_37 (by decide) ?_
        refine lv_goto (tgt := 42) hx hb dX4_matters_38 (by decide) ?_
        refine kx_iadd hx hb dX4_matters_42 ?_
        refine lv_topi (fun x49 e50 => ?_)
        obtain rfl : x49 = nI 3 := e50.trans (rfl)
        refine lv_istore (lv' := [(4, .int (nI 3)), (5, .int (nI 2)), (3, .int (nI (pm_mk (S 4 f) i))), (0, .ref (q 0)), (1, .int (nI i)), (2, .int (nI f))]) hx hb dX4_matters_43 hl (by decide) rfl (fun ls hl => ?_)
        refine lv_iinc (v := nI 3) (lv' := [(5, .int (nI 3)), (4, .int (nI 3)), (3, .int (nI (pm_mk (S 4 f) i))), (0, .ref (q 0)), (1, .int (nI i)), (2, .int (nI f))]) hx hb dX4_matters_45 hl (k := 1) rfl (by decide) (by decide) rfl (fun ls hl => ?_)
        refine lv_goto (tgt := 13) hx hb dX4_matters_48 (by decide) ?_
        refine lv_iload hx hb dX4_matters_13 (lv_at hl 0 rfl) ?_
        refine lv_iconst (v := nI 3) hx hb dX4_matters_15 (by decide) ?_
        refine lv_icmp_ge (tgt := 51) hx hb dX4_matters_16 (by decide) (fun _ => ?_) (fun c51 => (c51 (by decide)).elim)
        refine lv_aload_n hx hb dX4_matters_51 rfl (lv_at hl 3 rfl) ?_
        refine lv_iload_n hx hb dX4_matters_52 rfl (lv_at hl 4 rfl) ?_
        refine lv_iload_n hx hb dX4_matters_53 rfl (lv_at hl 5 rfl) ?_
        refine lv_iload_n hx hb dX4_matters_54 rfl (lv_at hl 2 rfl) ?_
        refine va_callv (va_runV (As := [.int (nI i), .int (nI f), .int (nI (pm_mk (S 4 f) i))]) (rest := []) ⟨hx, hb, hml, hown, hts⟩ (k_X4_marks l D y q (pm_st S 4 f (pm_sm (S 4 f) i 2)) gp gs kn ln sv pd i f (pm_mk (S 4 f) i) (by rw [pm_st_s]; exact pm_smok (hI.okm f hf) hi (v := 2) (by decide)) (by omega) (by omega) (by omega)) (cwV 3 hts gX4_matters_X4_marks rfl rfl rfl hd_X4_marks ⟨Nat.le_of_ble_eq_true rfl, Nat.le_of_ble_eq_true rfl⟩) ⟨pm_wr_blind, va_recv hK hP (ci := 4) (q0 := 0) rfl rfl, pm_wr_pre hP hK hD⟩ rfl rfl hl.1 rfl (lv_room (Nat.le_of_ble_eq_true rfl)) dX4_matters_55 ⟨Nat.le_of_ble_eq_true rfl, Nat.le_of_ble_eq_true rfl⟩) hS (fun q _ h9 => (pm_ad_all hD) q h9) (pm_ad_all hD) (fun u58 t54 H1 locs ht55 _ h53 hB56 _ hk57 hS => ?_)
        obtain ⟨hP, hD⟩ := pm_all (D := D) (cl := vwCl) (H1 := H1) hD (w' := pm_mo y q (pm_st (pm_st S 4 f (pm_sm (S 4 f) i 2)) 4 f (pm_sm ((pm_st S 4 f (pm_sm (S 4 f) i 2)) 4 f) i (pm_mk (S 4 f) i))) gp gs kn ln sv pd) (by rw [← ht55]; exact hB56) rfl
        generalize H1 = H at hP hS ⊢
        have hP : va_P D vwCl (pm_mo y q S gp gs kn ln sv pd) H := by rw [← pm_mtz (S := S) (hI.okm f hf) hi (v := 2) (by decide)]; exact hP
        have hD : va_D (pm_ad (pm_mo y q S gp gs kn ln sv pd)) (pm_mo y q S gp gs kn ln sv pd) := by rw [← pm_mtz (S := S) (hI.okm f hf) hi (v := 2) (by decide)]; exact hD
        refine lv_iload hx hb dX4_matters_58 (lv_at hl 1 rfl) ?_
        refine lv_if_le (tgt := 73) hx hb dX4_matters_60 (by decide) (fun c59 => absurd c59 (by decide)) (fun _ => ?_)
        refine lv_iload hx hb dX4_matters_63 (lv_at hl 1 rfl) ?_
        refine lv_iconst (v := nI 3) hx hb dX4_matters_65 (by decide) ?_
        refine lv_icmp_ge (tgt := 73) hx hb dX4_matters_66 (by decide) (fun _ => ?_) (fun c60 => (c60 (by decide)).elim)
        refine lv_iconst (v := nI 0) hx hb dX4_matters_73 (by decide) ?_
        exact W.zret (ty := .boolean) hx hb hr rfl (fun t ht _ => ⟨⟨_, (), rfl, (Or.inr ⟨by rw [pm_mcw (hI.okm f hf) hi]; simp [w15, w31, w47], rfl⟩), (by show va_P D vwCl (pm_mo y q S gp gs kn ln sv pd) t.heap; rw [ht]; exact hP)⟩, hS.F ht⟩) hS.2.2 dX4_matters_74
      · refine lv_topi (fun x9 e9 => ?_)
        obtain rfl : x9 = nI (if pm_ck (pm_sm (S 4 f) i 2) ≠ 0 then 2 else 3) := e9.trans (congrArg nI (if_neg (by rw [w47]; decide)))
        have : (if pm_ck (pm_sm (S 4 f) i 2) ≠ 0 then 2 else 3) < 4 := by split <;> decide
        have : ¬ (if pm_ck (pm_sm (S 4 f) i 2) ≠ 0 then 2 else 3) = 0 := by split <;> decide
        refine kx_if_ne (tgt := 41) hx hb (by omega) dX4_matters_34 (by decide) (fun c61 => ?_) (fun c61 => by exfalso; omega)
        refine lv_iconst (v := nI 0) hx hb dX4_matters_41 (by decide) ?_
        refine kx_iadd hx hb dX4_matters_42 ?_
        refine lv_topi (fun x62 e63 => ?_)
        obtain rfl : x62 = nI 2 := e63.trans (rfl)
        refine lv_istore (lv' := [(4, .int (nI 2)), (5, .int (nI 2)), (3, .int (nI (pm_mk (S 4 f) i))), (0, .ref (q 0)), (1, .int (nI i)), (2, .int (nI f))]) hx hb dX4_matters_43 hl (by decide) rfl (fun ls hl => ?_)
        refine lv_iinc (v := nI 3) (lv' := [(5, .int (nI 3)), (4, .int (nI 2)), (3, .int (nI (pm_mk (S 4 f) i))), (0, .ref (q 0)), (1, .int (nI i)), (2, .int (nI f))]) hx hb dX4_matters_45 hl (k := 1) rfl (by decide) (by decide) rfl (fun ls hl => ?_)
        refine lv_goto (tgt := 13) hx hb dX4_matters_48 (by decide) ?_
        refine lv_iload hx hb dX4_matters_13 (lv_at hl 0 rfl) ?_
        refine lv_iconst (v := nI 3) hx hb dX4_matters_15 (by decide) ?_
        refine lv_icmp_ge (tgt := 51) hx hb dX4_matters_16 (by decide) (fun _ => ?_) (fun c64 => (c64 (by decide)).elim)
        refine lv_aload_n hx hb dX4_matters_51 rfl (lv_at hl 3 rfl) ?_
        refine lv_iload_n hx hb dX4_matters_52 rfl (lv_at hl 4 rfl) ?_
        refine lv_iload_n hx hb dX4_matters_53 rfl (lv_at hl 5 rfl) ?_
        refine lv_iload_n hx hb dX4_matters_54 rfl (lv_at hl 2 rfl) ?_
        refine va_callv (va_runV (As := [.int (nI i), .int (nI f), .int (nI (pm_mk (S 4 f) i))]) (rest := []) ⟨hx, hb, hml, hown, hts⟩ (k_X4_marks l D y q (pm_st S 4 f (pm_sm (S 4 f) i 2)) gp gs kn ln sv pd i f (pm_mk (S 4 f) i) (by rw [pm_st_s]; exact pm_smok (hI.okm f hf) hi (v := 2) (by decide)) (by omega) (by omega) (by omega)) (cwV 3 hts gX4_matters_X4_marks rfl rfl rfl hd_X4_marks ⟨Nat.le_of_ble_eq_true rfl, Nat.le_of_ble_eq_true rfl⟩) ⟨pm_wr_blind, va_recv hK hP (ci := 4) (q0 := 0) rfl rfl, pm_wr_pre hP hK hD⟩ rfl rfl hl.1 rfl (lv_room (Nat.le_of_ble_eq_true rfl)) dX4_matters_55 ⟨Nat.le_of_ble_eq_true rfl, Nat.le_of_ble_eq_true rfl⟩) hS (fun q _ h9 => (pm_ad_all hD) q h9) (pm_ad_all hD) (fun u71 t67 H1 locs ht68 _ h66 hB69 _ hk70 hS => ?_)
        obtain ⟨hP, hD⟩ := pm_all (D := D) (cl := vwCl) (H1 := H1) hD (w' := pm_mo y q (pm_st (pm_st S 4 f (pm_sm (S 4 f) i 2)) 4 f (pm_sm ((pm_st S 4 f (pm_sm (S 4 f) i 2)) 4 f) i (pm_mk (S 4 f) i))) gp gs kn ln sv pd) (by rw [← ht68]; exact hB69) rfl
        generalize H1 = H at hP hS ⊢
        have hP : va_P D vwCl (pm_mo y q S gp gs kn ln sv pd) H := by rw [← pm_mtz (S := S) (hI.okm f hf) hi (v := 2) (by decide)]; exact hP
        have hD : va_D (pm_ad (pm_mo y q S gp gs kn ln sv pd)) (pm_mo y q S gp gs kn ln sv pd) := by rw [← pm_mtz (S := S) (hI.okm f hf) hi (v := 2) (by decide)]; exact hD
        refine lv_iload hx hb dX4_matters_58 (lv_at hl 1 rfl) ?_
        refine lv_if_le (tgt := 73) hx hb dX4_matters_60 (by decide) (fun c72 => absurd c72 (by decide)) (fun _ => ?_)
        refine lv_iload hx hb dX4_matters_63 (lv_at hl 1 rfl) ?_
        refine lv_iconst (v := nI 3) hx hb dX4_matters_65 (by decide) ?_
        refine lv_icmp_ge (tgt := 73) hx hb dX4_matters_66 (by decide) (fun c73 => absurd c73 (by decide)) (fun _ => ?_)
        refine lv_iconst (v := nI 1) hx hb dX4_matters_69 (by decide) ?_
        refine lv_goto (tgt := 74) hx hb dX4_matters_70 (by decide) ?_
        exact W.zret (ty := .boolean) hx hb hr rfl (fun t ht _ => ⟨⟨_, (), rfl, (Or.inl ⟨by rw [pm_mcw (hI.okm f hf) hi]; simp [w15, w31, w47], rfl⟩), (by show va_P D vwCl (pm_mo y q S gp gs kn ln sv pd) t.heap; rw [ht]; exact hP)⟩, hS.F ht⟩) hS.2.2 dX4_matters_74
    · refine lv_topi (fun x9 e9 => ?_)
      obtain rfl : x9 = nI (if pm_ck (pm_sm (S 4 f) i 1) ≠ 0 then 2 else 3) := e9.trans (congrArg nI (if_neg (by rw [w31]; decide)))
      have : (if pm_ck (pm_sm (S 4 f) i 1) ≠ 0 then 2 else 3) < 4 := by split <;> decide
      have : ¬ (if pm_ck (pm_sm (S 4 f) i 1) ≠ 0 then 2 else 3) = 0 := by split <;> decide
      refine kx_if_ne (tgt := 41) hx hb (by omega) dX4_matters_34 (by decide) (fun c74 => ?_) (fun c74 => by exfalso; omega)
      refine lv_iconst (v := nI 0) hx hb dX4_matters_41 (by decide) ?_
      refine kx_iadd hx hb dX4_matters_42 ?_
      refine lv_topi (fun x75 e76 => ?_)
      obtain rfl : x75 = nI 1 := e76.trans (rfl)
      refine lv_istore (lv' := [(4, .int (nI 1)), (5, .int (nI 1)), (3, .int (nI (pm_mk (S 4 f) i))), (0, .ref (q 0)), (1, .int (nI i)), (2, .int (nI f))]) hx hb dX4_matters_43 hl (by decide) rfl (fun ls hl => ?_)
      refine lv_iinc (v := nI 2) (lv' := [(5, .int (nI 2)), (4, .int (nI 1)), (3, .int (nI (pm_mk (S 4 f) i))), (0, .ref (q 0)), (1, .int (nI i)), (2, .int (nI f))]) hx hb dX4_matters_45 hl (k := 1) rfl (by decide) (by decide) rfl (fun ls hl => ?_)
      refine lv_goto (tgt := 13) hx hb dX4_matters_48 (by decide) ?_
      refine lv_iload hx hb dX4_matters_13 (lv_at hl 0 rfl) ?_
      refine lv_iconst (v := nI 3) hx hb dX4_matters_15 (by decide) ?_
      refine lv_icmp_ge (tgt := 51) hx hb dX4_matters_16 (by decide) (fun c77 => absurd c77 (by decide)) (fun _ => ?_)
      refine lv_aload_n hx hb dX4_matters_19 rfl (lv_at hl 3 rfl) ?_
      refine lv_iload_n hx hb dX4_matters_20 rfl (lv_at hl 4 rfl) ?_
      refine lv_iload_n hx hb dX4_matters_21 rfl (lv_at hl 5 rfl) ?_
      refine lv_iload hx hb dX4_matters_22 (lv_at hl 0 rfl) ?_
      refine va_callv (va_runV (As := [.int (nI i), .int (nI f), .int (nI 2)]) (rest := []) ⟨hx, hb, hml, hown, hts⟩ (k_X4_marks l D y q (pm_st S 4 f (pm_sm (S 4 f) i 1)) gp gs kn ln sv pd i f 2 (by rw [pm_st_s]; exact pm_smok (hI.okm f hf) hi (v := 1) (by decide)) (by omega) (by omega) (by omega)) (cwV 3 hts gX4_matters_X4_marks rfl rfl rfl hd_X4_marks ⟨Nat.le_of_ble_eq_true rfl, Nat.le_of_ble_eq_true rfl⟩) ⟨pm_wr_blind, va_recv hK hP (ci := 4) (q0 := 0) rfl rfl, pm_wr_pre hP hK hD⟩ rfl rfl hl.1 rfl (lv_room (Nat.le_of_ble_eq_true rfl)) dX4_matters_24 ⟨Nat.le_of_ble_eq_true rfl, Nat.le_of_ble_eq_true rfl⟩) hS (fun q _ h9 => (pm_ad_all hD) q h9) (pm_ad_all hD) (fun u84 t80 H1 locs ht81 _ h79 hB82 _ hk83 hS => ?_)
      obtain ⟨hP, hD⟩ := pm_all (D := D) (cl := vwCl) (H1 := H1) hD (w' := pm_mo y q (pm_st (pm_st S 4 f (pm_sm (S 4 f) i 1)) 4 f (pm_sm ((pm_st S 4 f (pm_sm (S 4 f) i 1)) 4 f) i 2)) gp gs kn ln sv pd) (by rw [← ht81]; exact hB82) rfl
      generalize H1 = H at hP hS ⊢
      have hP : va_P D vwCl (pm_mo y q (pm_st S 4 f (pm_sm (S 4 f) i 2)) gp gs kn ln sv pd) H := by rw [← pm_mts (hI.okm f hf) hi (v := 1) (w := 2) (by decide) (by decide)]; exact hP
      have hD : va_D (pm_ad (pm_mo y q S gp gs kn ln sv pd)) (pm_mo y q (pm_st S 4 f (pm_sm (S 4 f) i 2)) gp gs kn ln sv pd) := by rw [← pm_mts (hI.okm f hf) hi (v := 1) (w := 2) (by decide) (by decide)]; exact hD
      refine lv_iload hx hb dX4_matters_27 (lv_at hl 1 rfl) ?_
      refine lv_aload_n hx hb dX4_matters_29 rfl (lv_at hl 3 rfl) ?_
      refine lv_iload_n hx hb dX4_matters_30 rfl (lv_at hl 5 rfl) ?_
      refine vp_callSi (W.runV (As := [.int (nI f)]) (rest := [.int (nI 1)]) ⟨hx, hb, hml, hown, hts⟩ (k_X4_reason l D y q (pm_st S 4 f (pm_sm (S 4 f) i 2)) gp gs kn ln sv pd f (by rw [pm_st_s]; exact pm_smok (hI.okm f hf) hi (v := 2) (by decide)) (by rw [pm_st_o (by decide)]; exact hI.how f hf) (by rw [pm_st_o (by decide)]; exact hI.set9 0 (by decide)) (by omega)) (cwV 1 hts gX4_matters_X4_reason rfl rfl rfl hd_X4_reason ⟨Nat.le_of_ble_eq_true rfl, Nat.le_of_ble_eq_true rfl⟩) ⟨pm_ro_blind, va_recv hK hP (ci := 4) (q0 := 0) rfl rfl, pm_ro_pre hP hK⟩ rfl rfl hl.1 rfl (lv_room (Nat.le_of_ble_eq_true rfl)) dX4_matters_31 ⟨Nat.le_of_ble_eq_true rfl, Nat.le_of_ble_eq_true rfl⟩) (fun r85 h86 => ?_)
      obtain rfl : r85 = nI (if (pm_st S 4 f (pm_sm (S 4 f) i 2)) 0 f ≠ 0 then 1 else if pm_ck ((pm_st S 4 f (pm_sm (S 4 f) i 2)) 4 f) ≠ 0 then 2 else if (pm_st S 4 f (pm_sm (S 4 f) i 2)) 9 0 ≤ pm_tc ((pm_st S 4 f (pm_sm (S 4 f) i 2)) 4 f) then 0 else 3) := h86
      refine lv_topi (fun x87 e88 => ?_)
      obtain rfl : x87 = nI (if pm_wd (S 9 0) (pm_sm (S 4 f) i 2) = true then 0 else if pm_ck (pm_sm (S 4 f) i 2) ≠ 0 then 2 else 3) := e88.trans (congrArg nI (pm_rsn0 hop))
      rcases Bool.eq_false_or_eq_true (pm_wd (S 9 0) (pm_sm (S 4 f) i 2)) with w89 | w89
      · refine lv_topi (fun x9 e9 => ?_)
        obtain rfl : x9 = nI 0 := e9.trans (congrArg nI (if_pos w89))
        refine lv_if_ne (tgt := 41) hx hb dX4_matters_34 (by decide) (fun c90 => (c90 (by decide)).elim) (fun _ => ?_)
        refine lv_iconst (v := nI 1) hx hb dX4_matters_37 (by decide) ?_
        refine lv_goto (tgt := 42) hx hb dX4_matters_38 (by decide) ?_
        refine kx_iadd hx hb dX4_matters_42 ?_
        refine lv_topi (fun x91 e92 => ?_)
        obtain rfl : x91 = nI 2 := e92.trans (rfl)
        refine lv_istore (lv' := [(4, .int (nI 2)), (5, .int (nI 2)), (3, .int (nI (pm_mk (S 4 f) i))), (0, .ref (q 0)), (1, .int (nI i)), (2, .int (nI f))]) hx hb dX4_matters_43 hl (by decide) rfl (fun ls hl => ?_)
        refine lv_iinc (v := nI 3) (lv' := [(5, .int (nI 3)), (4, .int (nI 2)), (3, .int (nI (pm_mk (S 4 f) i))), (0, .ref (q 0)), (1, .int (nI i)), (2, .int (nI f))]) hx hb dX4_matters_45 hl (k := 1) rfl (by decide) (by decide) rfl (fun ls hl => ?_)
        refine lv_goto (tgt := 13) hx hb dX4_matters_48 (by decide) ?_
        refine lv_iload hx hb dX4_matters_13 (lv_at hl 0 rfl) ?_
        refine lv_iconst (v := nI 3) hx hb dX4_matters_15 (by decide) ?_
        refine lv_icmp_ge (tgt := 51) hx hb dX4_matters_16 (by decide) (fun _ => ?_) (fun c93 => (c93 (by decide)).elim)
        refine lv_aload_n hx hb dX4_matters_51 rfl (lv_at hl 3 rfl) ?_
        refine lv_iload_n hx hb dX4_matters_52 rfl (lv_at hl 4 rfl) ?_
        refine lv_iload_n hx hb dX4_matters_53 rfl (lv_at hl 5 rfl) ?_
        refine lv_iload_n hx hb dX4_matters_54 rfl (lv_at hl 2 rfl) ?_
        refine va_callv (va_runV (As := [.int (nI i), .int (nI f), .int (nI (pm_mk (S 4 f) i))]) (rest := []) ⟨hx, hb, hml, hown, hts⟩ (k_X4_marks l D y q (pm_st S 4 f (pm_sm (S 4 f) i 2)) gp gs kn ln sv pd i f (pm_mk (S 4 f) i) (by rw [pm_st_s]; exact pm_smok (hI.okm f hf) hi (v := 2) (by decide)) (by omega) (by omega) (by omega)) (cwV 3 hts gX4_matters_X4_marks rfl rfl rfl hd_X4_marks ⟨Nat.le_of_ble_eq_true rfl, Nat.le_of_ble_eq_true rfl⟩) ⟨pm_wr_blind, va_recv hK hP (ci := 4) (q0 := 0) rfl rfl, pm_wr_pre hP hK hD⟩ rfl rfl hl.1 rfl (lv_room (Nat.le_of_ble_eq_true rfl)) dX4_matters_55 ⟨Nat.le_of_ble_eq_true rfl, Nat.le_of_ble_eq_true rfl⟩) hS (fun q _ h9 => (pm_ad_all hD) q h9) (pm_ad_all hD) (fun u100 t96 H1 locs ht97 _ h95 hB98 _ hk99 hS => ?_)
        obtain ⟨hP, hD⟩ := pm_all (D := D) (cl := vwCl) (H1 := H1) hD (w' := pm_mo y q (pm_st (pm_st S 4 f (pm_sm (S 4 f) i 2)) 4 f (pm_sm ((pm_st S 4 f (pm_sm (S 4 f) i 2)) 4 f) i (pm_mk (S 4 f) i))) gp gs kn ln sv pd) (by rw [← ht97]; exact hB98) rfl
        generalize H1 = H at hP hS ⊢
        have hP : va_P D vwCl (pm_mo y q S gp gs kn ln sv pd) H := by rw [← pm_mtz (S := S) (hI.okm f hf) hi (v := 2) (by decide)]; exact hP
        have hD : va_D (pm_ad (pm_mo y q S gp gs kn ln sv pd)) (pm_mo y q S gp gs kn ln sv pd) := by rw [← pm_mtz (S := S) (hI.okm f hf) hi (v := 2) (by decide)]; exact hD
        refine lv_iload hx hb dX4_matters_58 (lv_at hl 1 rfl) ?_
        refine lv_if_le (tgt := 73) hx hb dX4_matters_60 (by decide) (fun c101 => absurd c101 (by decide)) (fun _ => ?_)
        refine lv_iload hx hb dX4_matters_63 (lv_at hl 1 rfl) ?_
        refine lv_iconst (v := nI 3) hx hb dX4_matters_65 (by decide) ?_
        refine lv_icmp_ge (tgt := 73) hx hb dX4_matters_66 (by decide) (fun c102 => absurd c102 (by decide)) (fun _ => ?_)
        refine lv_iconst (v := nI 1) hx hb dX4_matters_69 (by decide) ?_
        refine lv_goto (tgt := 74) hx hb dX4_matters_70 (by decide) ?_
        exact W.zret (ty := .boolean) hx hb hr rfl (fun t ht _ => ⟨⟨_, (), rfl, (Or.inl ⟨by rw [pm_mcw (hI.okm f hf) hi]; simp [w15, w31, w89], rfl⟩), (by show va_P D vwCl (pm_mo y q S gp gs kn ln sv pd) t.heap; rw [ht]; exact hP)⟩, hS.F ht⟩) hS.2.2 dX4_matters_74
      · refine lv_topi (fun x9 e9 => ?_)
        obtain rfl : x9 = nI (if pm_ck (pm_sm (S 4 f) i 2) ≠ 0 then 2 else 3) := e9.trans (congrArg nI (if_neg (by rw [w89]; decide)))
        have : (if pm_ck (pm_sm (S 4 f) i 2) ≠ 0 then 2 else 3) < 4 := by split <;> decide
        have : ¬ (if pm_ck (pm_sm (S 4 f) i 2) ≠ 0 then 2 else 3) = 0 := by split <;> decide
        refine kx_if_ne (tgt := 41) hx hb (by omega) dX4_matters_34 (by decide) (fun c103 => ?_) (fun c103 => by exfalso; omega)
        refine lv_iconst (v := nI 0) hx hb dX4_matters_41 (by decide) ?_
        refine kx_iadd hx hb dX4_matters_42 ?_
        refine lv_topi (fun x104 e105 => ?_)
        obtain rfl : x104 = nI 1 := e105.trans (rfl)
        refine lv_istore (lv' := [(4, .int (nI 1)), (5, .int (nI 2)), (3, .int (nI (pm_mk (S 4 f) i))), (0, .ref (q 0)), (1, .int (nI i)), (2, .int (nI f))]) hx hb dX4_matters_43 hl (by decide) rfl (fun ls hl => ?_)
        refine lv_iinc (v := nI 3) (lv' := [(5, .int (nI 3)), (4, .int (nI 1)), (3, .int (nI (pm_mk (S 4 f) i))), (0, .ref (q 0)), (1, .int (nI i)), (2, .int (nI f))]) hx hb dX4_matters_45 hl (k := 1) rfl (by decide) (by decide) rfl (fun ls hl => ?_)
        refine lv_goto (tgt := 13) hx hb dX4_matters_48 (by decide) ?_
        refine lv_iload hx hb dX4_matters_13 (lv_at hl 0 rfl) ?_
        refine lv_iconst (v := nI 3) hx hb dX4_matters_15 (by decide) ?_
        refine lv_icmp_ge (tgt := 51) hx hb dX4_matters_16 (by decide) (fun _ => ?_) (fun c106 => (c106 (by decide)).elim)
        refine lv_aload_n hx hb dX4_matters_51 rfl (lv_at hl 3 rfl) ?_
        refine lv_iload_n hx hb dX4_matters_52 rfl (lv_at hl 4 rfl) ?_
        refine lv_iload_n hx hb dX4_matters_53 rfl (lv_at hl 5 rfl) ?_
        refine lv_iload_n hx hb dX4_matters_54 rfl (lv_at hl 2 rfl) ?_
        refine va_callv (va_runV (As := [.int (nI i), .int (nI f), .int (nI (pm_mk (S 4 f) i))]) (rest := []) ⟨hx, hb, hml, hown, hts⟩ (k_X4_marks l D y q (pm_st S 4 f (pm_sm (S 4 f) i 2)) gp gs kn ln sv pd i f (pm_mk (S 4 f) i) (by rw [pm_st_s]; exact pm_smok (hI.okm f hf) hi (v := 2) (by decide)) (by omega) (by omega) (by omega)) (cwV 3 hts gX4_matters_X4_marks rfl rfl rfl hd_X4_marks ⟨Nat.le_of_ble_eq_true rfl, Nat.le_of_ble_eq_true rfl⟩) ⟨pm_wr_blind, va_recv hK hP (ci := 4) (q0 := 0) rfl rfl, pm_wr_pre hP hK hD⟩ rfl rfl hl.1 rfl (lv_room (Nat.le_of_ble_eq_true rfl)) dX4_matters_55 ⟨Nat.le_of_ble_eq_true rfl, Nat.le_of_ble_eq_true rfl⟩) hS (fun q _ h9 => (pm_ad_all hD) q h9) (pm_ad_all hD) (fun u113 t109 H1 locs ht110 _ h108 hB111 _ hk112 hS => ?_)
        obtain ⟨hP, hD⟩ := pm_all (D := D) (cl := vwCl) (H1 := H1) hD (w' := pm_mo y q (pm_st (pm_st S 4 f (pm_sm (S 4 f) i 2)) 4 f (pm_sm ((pm_st S 4 f (pm_sm (S 4 f) i 2)) 4 f) i (pm_mk (S 4 f) i))) gp gs kn ln sv pd) (by rw [← ht110]; exact hB111) rfl
        generalize H1 = H at hP hS ⊢
        have hP : va_P D vwCl (pm_mo y q S gp gs kn ln sv pd) H := by rw [← pm_mtz (S := S) (hI.okm f hf) hi (v := 2) (by decide)]; exact hP
        have hD : va_D (pm_ad (pm_mo y q S gp gs kn ln sv pd)) (pm_mo y q S gp gs kn ln sv pd) := by rw [← pm_mtz (S := S) (hI.okm f hf) hi (v := 2) (by decide)]; exact hD
        refine lv_iload hx hb dX4_matters_58 (lv_at hl 1 rfl) ?_
        refine lv_if_le (tgt := 73) hx hb dX4_matters_60 (by decide) (fun c114 => absurd c114 (by decide)) (fun _ => ?_)
        refine lv_iload hx hb dX4_matters_63 (lv_at hl 1 rfl) ?_
        refine lv_iconst (v := nI 3) hx hb dX4_matters_65 (by decide) ?_
        refine lv_icmp_ge (tgt := 73) hx hb dX4_matters_66 (by decide) (fun c115 => absurd c115 (by decide)) (fun _ => ?_)
        refine lv_iconst (v := nI 1) hx hb dX4_matters_69 (by decide) ?_
        refine lv_goto (tgt := 74) hx hb dX4_matters_70 (by decide) ?_
        exact W.zret (ty := .boolean) hx hb hr rfl (fun t ht _ => ⟨⟨_, (), rfl, (Or.inl ⟨by rw [pm_mcw (hI.okm f hf) hi]; simp [w15, w31, w89], rfl⟩), (by show va_P D vwCl (pm_mo y q S gp gs kn ln sv pd) t.heap; rw [ht]; exact hP)⟩, hS.F ht⟩) hS.2.2 dX4_matters_74
  · refine lv_topi (fun x9 e9 => ?_)
    obtain rfl : x9 = nI (if pm_ck (pm_sm (S 4 f) i 0) ≠ 0 then 2 else 3) := e9.trans (congrArg nI (if_neg (by rw [w15]; decide)))
    have : (if pm_ck (pm_sm (S 4 f) i 0) ≠ 0 then 2 else 3) < 4 := by split <;> decide
    have : ¬ (if pm_ck (pm_sm (S 4 f) i 0) ≠ 0 then 2 else 3) = 0 := by split <;> decide
    refine kx_if_ne (tgt := 41) hx hb (by omega) dX4_matters_34 (by decide) (fun c116 => ?_) (fun c116 => by exfalso; omega)
    refine lv_iconst (v := nI 0) hx hb dX4_matters_41 (by decide) ?_
    refine kx_iadd hx hb dX4_matters_42 ?_
    refine lv_topi (fun x117 e118 => ?_)
    obtain rfl : x117 = nI 0 := e118.trans (rfl)
    refine lv_istore (lv' := [(4, .int (nI 0)), (5, .int (nI 0)), (3, .int (nI (pm_mk (S 4 f) i))), (0, .ref (q 0)), (1, .int (nI i)), (2, .int (nI f))]) hx hb dX4_matters_43 hl (by decide) rfl (fun ls hl => ?_)
    refine lv_iinc (v := nI 1) (lv' := [(5, .int (nI 1)), (4, .int (nI 0)), (3, .int (nI (pm_mk (S 4 f) i))), (0, .ref (q 0)), (1, .int (nI i)), (2, .int (nI f))]) hx hb dX4_matters_45 hl (k := 1) rfl (by decide) (by decide) rfl (fun ls hl => ?_)
    refine lv_goto (tgt := 13) hx hb dX4_matters_48 (by decide) ?_
    refine lv_iload hx hb dX4_matters_13 (lv_at hl 0 rfl) ?_
    refine lv_iconst (v := nI 3) hx hb dX4_matters_15 (by decide) ?_
    refine lv_icmp_ge (tgt := 51) hx hb dX4_matters_16 (by decide) (fun c119 => absurd c119 (by decide)) (fun _ => ?_)
    refine lv_aload_n hx hb dX4_matters_19 rfl (lv_at hl 3 rfl) ?_
    refine lv_iload_n hx hb dX4_matters_20 rfl (lv_at hl 4 rfl) ?_
    refine lv_iload_n hx hb dX4_matters_21 rfl (lv_at hl 5 rfl) ?_
    refine lv_iload hx hb dX4_matters_22 (lv_at hl 0 rfl) ?_
    refine va_callv (va_runV (As := [.int (nI i), .int (nI f), .int (nI 1)]) (rest := []) ⟨hx, hb, hml, hown, hts⟩ (k_X4_marks l D y q (pm_st S 4 f (pm_sm (S 4 f) i 0)) gp gs kn ln sv pd i f 1 (by rw [pm_st_s]; exact pm_smok (hI.okm f hf) hi (v := 0) (by decide)) (by omega) (by omega) (by omega)) (cwV 3 hts gX4_matters_X4_marks rfl rfl rfl hd_X4_marks ⟨Nat.le_of_ble_eq_true rfl, Nat.le_of_ble_eq_true rfl⟩) ⟨pm_wr_blind, va_recv hK hP (ci := 4) (q0 := 0) rfl rfl, pm_wr_pre hP hK hD⟩ rfl rfl hl.1 rfl (lv_room (Nat.le_of_ble_eq_true rfl)) dX4_matters_24 ⟨Nat.le_of_ble_eq_true rfl, Nat.le_of_ble_eq_true rfl⟩) hS (fun q _ h9 => (pm_ad_all hD) q h9) (pm_ad_all hD) (fun u126 t122 H1 locs ht123 _ h121 hB124 _ hk125 hS => ?_)
    obtain ⟨hP, hD⟩ := pm_all (D := D) (cl := vwCl) (H1 := H1) hD (w' := pm_mo y q (pm_st (pm_st S 4 f (pm_sm (S 4 f) i 0)) 4 f (pm_sm ((pm_st S 4 f (pm_sm (S 4 f) i 0)) 4 f) i 1)) gp gs kn ln sv pd) (by rw [← ht123]; exact hB124) rfl
    generalize H1 = H at hP hS ⊢
    have hP : va_P D vwCl (pm_mo y q (pm_st S 4 f (pm_sm (S 4 f) i 1)) gp gs kn ln sv pd) H := by rw [← pm_mts (hI.okm f hf) hi (v := 0) (w := 1) (by decide) (by decide)]; exact hP
    have hD : va_D (pm_ad (pm_mo y q S gp gs kn ln sv pd)) (pm_mo y q (pm_st S 4 f (pm_sm (S 4 f) i 1)) gp gs kn ln sv pd) := by rw [← pm_mts (hI.okm f hf) hi (v := 0) (w := 1) (by decide) (by decide)]; exact hD
    refine lv_iload hx hb dX4_matters_27 (lv_at hl 1 rfl) ?_
    refine lv_aload_n hx hb dX4_matters_29 rfl (lv_at hl 3 rfl) ?_
    refine lv_iload_n hx hb dX4_matters_30 rfl (lv_at hl 5 rfl) ?_
    refine vp_callSi (W.runV (As := [.int (nI f)]) (rest := [.int (nI 0)]) ⟨hx, hb, hml, hown, hts⟩ (k_X4_reason l D y q (pm_st S 4 f (pm_sm (S 4 f) i 1)) gp gs kn ln sv pd f (by rw [pm_st_s]; exact pm_smok (hI.okm f hf) hi (v := 1) (by decide)) (by rw [pm_st_o (by decide)]; exact hI.how f hf) (by rw [pm_st_o (by decide)]; exact hI.set9 0 (by decide)) (by omega)) (cwV 1 hts gX4_matters_X4_reason rfl rfl rfl hd_X4_reason ⟨Nat.le_of_ble_eq_true rfl, Nat.le_of_ble_eq_true rfl⟩) ⟨pm_ro_blind, va_recv hK hP (ci := 4) (q0 := 0) rfl rfl, pm_ro_pre hP hK⟩ rfl rfl hl.1 rfl (lv_room (Nat.le_of_ble_eq_true rfl)) dX4_matters_31 ⟨Nat.le_of_ble_eq_true rfl, Nat.le_of_ble_eq_true rfl⟩) (fun r127 h128 => ?_)
    obtain rfl : r127 = nI (if (pm_st S 4 f (pm_sm (S 4 f) i 1)) 0 f ≠ 0 then 1 else if pm_ck ((pm_st S 4 f (pm_sm (S 4 f) i 1)) 4 f) ≠ 0 then 2 else if (pm_st S 4 f (pm_sm (S 4 f) i 1)) 9 0 ≤ pm_tc ((pm_st S 4 f (pm_sm (S 4 f) i 1)) 4 f) then 0 else 3) := h128
    refine lv_topi (fun x129 e130 => ?_)
    obtain rfl : x129 = nI (if pm_wd (S 9 0) (pm_sm (S 4 f) i 1) = true then 0 else if pm_ck (pm_sm (S 4 f) i 1) ≠ 0 then 2 else 3) := e130.trans (congrArg nI (pm_rsn0 hop))
    rcases Bool.eq_false_or_eq_true (pm_wd (S 9 0) (pm_sm (S 4 f) i 1)) with w131 | w131
    · refine lv_topi (fun x9 e9 => ?_)
      obtain rfl : x9 = nI 0 := e9.trans (congrArg nI (if_pos w131))
      refine lv_if_ne (tgt := 41) hx hb dX4_matters_34 (by decide) (fun c132 => (c132 (by decide)).elim) (fun _ => ?_)
      refine lv_iconst (v := nI 1) hx hb dX4_matters_37 (by decide) ?_
      refine lv_goto (tgt := 42) hx hb dX4_matters_38 (by decide) ?_
      refine kx_iadd hx hb dX4_matters_42 ?_
      refine lv_topi (fun x133 e134 => ?_)
      obtain rfl : x133 = nI 1 := e134.trans (rfl)
      refine lv_istore (lv' := [(4, .int (nI 1)), (5, .int (nI 1)), (3, .int (nI (pm_mk (S 4 f) i))), (0, .ref (q 0)), (1, .int (nI i)), (2, .int (nI f))]) hx hb dX4_matters_43 hl (by decide) rfl (fun ls hl => ?_)
      refine lv_iinc (v := nI 2) (lv' := [(5, .int (nI 2)), (4, .int (nI 1)), (3, .int (nI (pm_mk (S 4 f) i))), (0, .ref (q 0)), (1, .int (nI i)), (2, .int (nI f))]) hx hb dX4_matters_45 hl (k := 1) rfl (by decide) (by decide) rfl (fun ls hl => ?_)
      refine lv_goto (tgt := 13) hx hb dX4_matters_48 (by decide) ?_
      refine lv_iload hx hb dX4_matters_13 (lv_at hl 0 rfl) ?_
      refine lv_iconst (v := nI 3) hx hb dX4_matters_15 (by decide) ?_
      refine lv_icmp_ge (tgt := 51) hx hb dX4_matters_16 (by decide) (fun c135 => absurd c135 (by decide)) (fun _ => ?_)
      refine lv_aload_n hx hb dX4_matters_19 rfl (lv_at hl 3 rfl) ?_
      refine lv_iload_n hx hb dX4_matters_20 rfl (lv_at hl 4 rfl) ?_
      refine lv_iload_n hx hb dX4_matters_21 rfl (lv_at hl 5 rfl) ?_
      refine lv_iload hx hb dX4_matters_22 (lv_at hl 0 rfl) ?_
      refine va_callv (va_runV (As := [.int (nI i), .int (nI f), .int (nI 2)]) (rest := []) ⟨hx, hb, hml, hown, hts⟩ (k_X4_marks l D y q (pm_st S 4 f (pm_sm (S 4 f) i 1)) gp gs kn ln sv pd i f 2 (by rw [pm_st_s]; exact pm_smok (hI.okm f hf) hi (v := 1) (by decide)) (by omega) (by omega) (by omega)) (cwV 3 hts gX4_matters_X4_marks rfl rfl rfl hd_X4_marks ⟨Nat.le_of_ble_eq_true rfl, Nat.le_of_ble_eq_true rfl⟩) ⟨pm_wr_blind, va_recv hK hP (ci := 4) (q0 := 0) rfl rfl, pm_wr_pre hP hK hD⟩ rfl rfl hl.1 rfl (lv_room (Nat.le_of_ble_eq_true rfl)) dX4_matters_24 ⟨Nat.le_of_ble_eq_true rfl, Nat.le_of_ble_eq_true rfl⟩) hS (fun q _ h9 => (pm_ad_all hD) q h9) (pm_ad_all hD) (fun u142 t138 H1 locs ht139 _ h137 hB140 _ hk141 hS => ?_)
      obtain ⟨hP, hD⟩ := pm_all (D := D) (cl := vwCl) (H1 := H1) hD (w' := pm_mo y q (pm_st (pm_st S 4 f (pm_sm (S 4 f) i 1)) 4 f (pm_sm ((pm_st S 4 f (pm_sm (S 4 f) i 1)) 4 f) i 2)) gp gs kn ln sv pd) (by rw [← ht139]; exact hB140) rfl
      generalize H1 = H at hP hS ⊢
      have hP : va_P D vwCl (pm_mo y q (pm_st S 4 f (pm_sm (S 4 f) i 2)) gp gs kn ln sv pd) H := by rw [← pm_mts (hI.okm f hf) hi (v := 1) (w := 2) (by decide) (by decide)]; exact hP
      have hD : va_D (pm_ad (pm_mo y q S gp gs kn ln sv pd)) (pm_mo y q (pm_st S 4 f (pm_sm (S 4 f) i 2)) gp gs kn ln sv pd) := by rw [← pm_mts (hI.okm f hf) hi (v := 1) (w := 2) (by decide) (by decide)]; exact hD
      refine lv_iload hx hb dX4_matters_27 (lv_at hl 1 rfl) ?_
      refine lv_aload_n hx hb dX4_matters_29 rfl (lv_at hl 3 rfl) ?_
      refine lv_iload_n hx hb dX4_matters_30 rfl (lv_at hl 5 rfl) ?_
      refine vp_callSi (W.runV (As := [.int (nI f)]) (rest := [.int (nI 1)]) ⟨hx, hb, hml, hown, hts⟩ (k_X4_reason l D y q (pm_st S 4 f (pm_sm (S 4 f) i 2)) gp gs kn ln sv pd f (by rw [pm_st_s]; exact pm_smok (hI.okm f hf) hi (v := 2) (by decide)) (by rw [pm_st_o (by decide)]; exact hI.how f hf) (by rw [pm_st_o (by decide)]; exact hI.set9 0 (by decide)) (by omega)) (cwV 1 hts gX4_matters_X4_reason rfl rfl rfl hd_X4_reason ⟨Nat.le_of_ble_eq_true rfl, Nat.le_of_ble_eq_true rfl⟩) ⟨pm_ro_blind, va_recv hK hP (ci := 4) (q0 := 0) rfl rfl, pm_ro_pre hP hK⟩ rfl rfl hl.1 rfl (lv_room (Nat.le_of_ble_eq_true rfl)) dX4_matters_31 ⟨Nat.le_of_ble_eq_true rfl, Nat.le_of_ble_eq_true rfl⟩) (fun r143 h144 => ?_)
      obtain rfl : r143 = nI (if (pm_st S 4 f (pm_sm (S 4 f) i 2)) 0 f ≠ 0 then 1 else if pm_ck ((pm_st S 4 f (pm_sm (S 4 f) i 2)) 4 f) ≠ 0 then 2 else if (pm_st S 4 f (pm_sm (S 4 f) i 2)) 9 0 ≤ pm_tc ((pm_st S 4 f (pm_sm (S 4 f) i 2)) 4 f) then 0 else 3) := h144
      refine lv_topi (fun x145 e146 => ?_)
      obtain rfl : x145 = nI (if pm_wd (S 9 0) (pm_sm (S 4 f) i 2) = true then 0 else if pm_ck (pm_sm (S 4 f) i 2) ≠ 0 then 2 else 3) := e146.trans (congrArg nI (pm_rsn0 hop))
      rcases Bool.eq_false_or_eq_true (pm_wd (S 9 0) (pm_sm (S 4 f) i 2)) with w147 | w147
      · refine lv_topi (fun x9 e9 => ?_)
        obtain rfl : x9 = nI 0 := e9.trans (congrArg nI (if_pos w147))
        refine lv_if_ne (tgt := 41) hx hb dX4_matters_34 (by decide) (fun c148 => (c148 (by decide)).elim) (fun _ => ?_)
        refine lv_iconst (v := nI 1) hx hb dX4_matters_37 (by decide) ?_
        refine lv_goto (tgt := 42) hx hb dX4_matters_38 (by decide) ?_
        refine kx_iadd hx hb dX4_matters_42 ?_
        refine lv_topi (fun x149 e150 => ?_)
        obtain rfl : x149 = nI 2 := e150.trans (rfl)
        refine lv_istore (lv' := [(4, .int (nI 2)), (5, .int (nI 2)), (3, .int (nI (pm_mk (S 4 f) i))), (0, .ref (q 0)), (1, .int (nI i)), (2, .int (nI f))]) hx hb dX4_matters_43 hl (by decide) rfl (fun ls hl => ?_)
        refine lv_iinc (v := nI 3) (lv' := [(5, .int (nI 3)), (4, .int (nI 2)), (3, .int (nI (pm_mk (S 4 f) i))), (0, .ref (q 0)), (1, .int (nI i)), (2, .int (nI f))]) hx hb dX4_matters_45 hl (k := 1) rfl (by decide) (by decide) rfl (fun ls hl => ?_)
        refine lv_goto (tgt := 13) hx hb dX4_matters_48 (by decide) ?_
        refine lv_iload hx hb dX4_matters_13 (lv_at hl 0 rfl) ?_
        refine lv_iconst (v := nI 3) hx hb dX4_matters_15 (by decide) ?_
        refine lv_icmp_ge (tgt := 51) hx hb dX4_matters_16 (by decide) (fun _ => ?_) (fun c151 => (c151 (by decide)).elim)
        refine lv_aload_n hx hb dX4_matters_51 rfl (lv_at hl 3 rfl) ?_
        refine lv_iload_n hx hb dX4_matters_52 rfl (lv_at hl 4 rfl) ?_
        refine lv_iload_n hx hb dX4_matters_53 rfl (lv_at hl 5 rfl) ?_
        refine lv_iload_n hx hb dX4_matters_54 rfl (lv_at hl 2 rfl) ?_
        refine va_callv (va_runV (As := [.int (nI i), .int (nI f), .int (nI (pm_mk (S 4 f) i))]) (rest := []) ⟨hx, hb, hml, hown, hts⟩ (k_X4_marks l D y q (pm_st S 4 f (pm_sm (S 4 f) i 2)) gp gs kn ln sv pd i f (pm_mk (S 4 f) i) (by rw [pm_st_s]; exact pm_smok (hI.okm f hf) hi (v := 2) (by decide)) (by omega) (by omega) (by omega)) (cwV 3 hts gX4_matters_X4_marks rfl rfl rfl hd_X4_marks ⟨Nat.le_of_ble_eq_true rfl, Nat.le_of_ble_eq_true rfl⟩) ⟨pm_wr_blind, va_recv hK hP (ci := 4) (q0 := 0) rfl rfl, pm_wr_pre hP hK hD⟩ rfl rfl hl.1 rfl (lv_room (Nat.le_of_ble_eq_true rfl)) dX4_matters_55 ⟨Nat.le_of_ble_eq_true rfl, Nat.le_of_ble_eq_true rfl⟩) hS (fun q _ h9 => (pm_ad_all hD) q h9) (pm_ad_all hD) (fun u158 t154 H1 locs ht155 _ h153 hB156 _ hk157 hS => ?_)
        obtain ⟨hP, hD⟩ := pm_all (D := D) (cl := vwCl) (H1 := H1) hD (w' := pm_mo y q (pm_st (pm_st S 4 f (pm_sm (S 4 f) i 2)) 4 f (pm_sm ((pm_st S 4 f (pm_sm (S 4 f) i 2)) 4 f) i (pm_mk (S 4 f) i))) gp gs kn ln sv pd) (by rw [← ht155]; exact hB156) rfl
        generalize H1 = H at hP hS ⊢
        have hP : va_P D vwCl (pm_mo y q S gp gs kn ln sv pd) H := by rw [← pm_mtz (S := S) (hI.okm f hf) hi (v := 2) (by decide)]; exact hP
        have hD : va_D (pm_ad (pm_mo y q S gp gs kn ln sv pd)) (pm_mo y q S gp gs kn ln sv pd) := by rw [← pm_mtz (S := S) (hI.okm f hf) hi (v := 2) (by decide)]; exact hD
        refine lv_iload hx hb dX4_matters_58 (lv_at hl 1 rfl) ?_
        refine lv_if_le (tgt := 73) hx hb dX4_matters_60 (by decide) (fun c159 => absurd c159 (by decide)) (fun _ => ?_)
        refine lv_iload hx hb dX4_matters_63 (lv_at hl 1 rfl) ?_
        refine lv_iconst (v := nI 3) hx hb dX4_matters_65 (by decide) ?_
        refine lv_icmp_ge (tgt := 73) hx hb dX4_matters_66 (by decide) (fun c160 => absurd c160 (by decide)) (fun _ => ?_)
        refine lv_iconst (v := nI 1) hx hb dX4_matters_69 (by decide) ?_
        refine lv_goto (tgt := 74) hx hb dX4_matters_70 (by decide) ?_
        exact W.zret (ty := .boolean) hx hb hr rfl (fun t ht _ => ⟨⟨_, (), rfl, (Or.inl ⟨by rw [pm_mcw (hI.okm f hf) hi]; simp [w15, w131, w147], rfl⟩), (by show va_P D vwCl (pm_mo y q S gp gs kn ln sv pd) t.heap; rw [ht]; exact hP)⟩, hS.F ht⟩) hS.2.2 dX4_matters_74
      · refine lv_topi (fun x9 e9 => ?_)
        obtain rfl : x9 = nI (if pm_ck (pm_sm (S 4 f) i 2) ≠ 0 then 2 else 3) := e9.trans (congrArg nI (if_neg (by rw [w147]; decide)))
        have : (if pm_ck (pm_sm (S 4 f) i 2) ≠ 0 then 2 else 3) < 4 := by split <;> decide
        have : ¬ (if pm_ck (pm_sm (S 4 f) i 2) ≠ 0 then 2 else 3) = 0 := by split <;> decide
        refine kx_if_ne (tgt := 41) hx hb (by omega) dX4_matters_34 (by decide) (fun c161 => ?_) (fun c161 => by exfalso; omega)
        refine lv_iconst (v := nI 0) hx hb dX4_matters_41 (by decide) ?_
        refine kx_iadd hx hb dX4_matters_42 ?_
        refine lv_topi (fun x162 e163 => ?_)
        obtain rfl : x162 = nI 1 := e163.trans (rfl)
        refine lv_istore (lv' := [(4, .int (nI 1)), (5, .int (nI 2)), (3, .int (nI (pm_mk (S 4 f) i))), (0, .ref (q 0)), (1, .int (nI i)), (2, .int (nI f))]) hx hb dX4_matters_43 hl (by decide) rfl (fun ls hl => ?_)
        refine lv_iinc (v := nI 3) (lv' := [(5, .int (nI 3)), (4, .int (nI 1)), (3, .int (nI (pm_mk (S 4 f) i))), (0, .ref (q 0)), (1, .int (nI i)), (2, .int (nI f))]) hx hb dX4_matters_45 hl (k := 1) rfl (by decide) (by decide) rfl (fun ls hl => ?_)
        refine lv_goto (tgt := 13) hx hb dX4_matters_48 (by decide) ?_
        refine lv_iload hx hb dX4_matters_13 (lv_at hl 0 rfl) ?_
        refine lv_iconst (v := nI 3) hx hb dX4_matters_15 (by decide) ?_
        refine lv_icmp_ge (tgt := 51) hx hb dX4_matters_16 (by decide) (fun _ => ?_) (fun c164 => (c164 (by decide)).elim)
        refine lv_aload_n hx hb dX4_matters_51 rfl (lv_at hl 3 rfl) ?_
        refine lv_iload_n hx hb dX4_matters_52 rfl (lv_at hl 4 rfl) ?_
        refine lv_iload_n hx hb dX4_matters_53 rfl (lv_at hl 5 rfl) ?_
        refine lv_iload_n hx hb dX4_matters_54 rfl (lv_at hl 2 rfl) ?_
        refine va_callv (va_runV (As := [.int (nI i), .int (nI f), .int (nI (pm_mk (S 4 f) i))]) (rest := []) ⟨hx, hb, hml, hown, hts⟩ (k_X4_marks l D y q (pm_st S 4 f (pm_sm (S 4 f) i 2)) gp gs kn ln sv pd i f (pm_mk (S 4 f) i) (by rw [pm_st_s]; exact pm_smok (hI.okm f hf) hi (v := 2) (by decide)) (by omega) (by omega) (by omega)) (cwV 3 hts gX4_matters_X4_marks rfl rfl rfl hd_X4_marks ⟨Nat.le_of_ble_eq_true rfl, Nat.le_of_ble_eq_true rfl⟩) ⟨pm_wr_blind, va_recv hK hP (ci := 4) (q0 := 0) rfl rfl, pm_wr_pre hP hK hD⟩ rfl rfl hl.1 rfl (lv_room (Nat.le_of_ble_eq_true rfl)) dX4_matters_55 ⟨Nat.le_of_ble_eq_true rfl, Nat.le_of_ble_eq_true rfl⟩) hS (fun q _ h9 => (pm_ad_all hD) q h9) (pm_ad_all hD) (fun u171 t167 H1 locs ht168 _ h166 hB169 _ hk170 hS => ?_)
        obtain ⟨hP, hD⟩ := pm_all (D := D) (cl := vwCl) (H1 := H1) hD (w' := pm_mo y q (pm_st (pm_st S 4 f (pm_sm (S 4 f) i 2)) 4 f (pm_sm ((pm_st S 4 f (pm_sm (S 4 f) i 2)) 4 f) i (pm_mk (S 4 f) i))) gp gs kn ln sv pd) (by rw [← ht168]; exact hB169) rfl
        generalize H1 = H at hP hS ⊢
        have hP : va_P D vwCl (pm_mo y q S gp gs kn ln sv pd) H := by rw [← pm_mtz (S := S) (hI.okm f hf) hi (v := 2) (by decide)]; exact hP
        have hD : va_D (pm_ad (pm_mo y q S gp gs kn ln sv pd)) (pm_mo y q S gp gs kn ln sv pd) := by rw [← pm_mtz (S := S) (hI.okm f hf) hi (v := 2) (by decide)]; exact hD
        refine lv_iload hx hb dX4_matters_58 (lv_at hl 1 rfl) ?_
        refine lv_if_le (tgt := 73) hx hb dX4_matters_60 (by decide) (fun c172 => absurd c172 (by decide)) (fun _ => ?_)
        refine lv_iload hx hb dX4_matters_63 (lv_at hl 1 rfl) ?_
        refine lv_iconst (v := nI 3) hx hb dX4_matters_65 (by decide) ?_
        refine lv_icmp_ge (tgt := 73) hx hb dX4_matters_66 (by decide) (fun c173 => absurd c173 (by decide)) (fun _ => ?_)
        refine lv_iconst (v := nI 1) hx hb dX4_matters_69 (by decide) ?_
        refine lv_goto (tgt := 74) hx hb dX4_matters_70 (by decide) ?_
        exact W.zret (ty := .boolean) hx hb hr rfl (fun t ht _ => ⟨⟨_, (), rfl, (Or.inl ⟨by rw [pm_mcw (hI.okm f hf) hi]; simp [w15, w131, w147], rfl⟩), (by show va_P D vwCl (pm_mo y q S gp gs kn ln sv pd) t.heap; rw [ht]; exact hP)⟩, hS.F ht⟩) hS.2.2 dX4_matters_74
    · refine lv_topi (fun x9 e9 => ?_)
      obtain rfl : x9 = nI (if pm_ck (pm_sm (S 4 f) i 1) ≠ 0 then 2 else 3) := e9.trans (congrArg nI (if_neg (by rw [w131]; decide)))
      have : (if pm_ck (pm_sm (S 4 f) i 1) ≠ 0 then 2 else 3) < 4 := by split <;> decide
      have : ¬ (if pm_ck (pm_sm (S 4 f) i 1) ≠ 0 then 2 else 3) = 0 := by split <;> decide
      refine kx_if_ne (tgt := 41) hx hb (by omega) dX4_matters_34 (by decide) (fun c174 => ?_) (fun c174 => by exfalso; omega)
      refine lv_iconst (v := nI 0) hx hb dX4_matters_41 (by decide) ?_
      refine kx_iadd hx hb dX4_matters_42 ?_
      refine lv_topi (fun x175 e176 => ?_)
      obtain rfl : x175 = nI 0 := e176.trans (rfl)
      refine lv_istore (lv' := [(4, .int (nI 0)), (5, .int (nI 1)), (3, .int (nI (pm_mk (S 4 f) i))), (0, .ref (q 0)), (1, .int (nI i)), (2, .int (nI f))]) hx hb dX4_matters_43 hl (by decide) rfl (fun ls hl => ?_)
      refine lv_iinc (v := nI 2) (lv' := [(5, .int (nI 2)), (4, .int (nI 0)), (3, .int (nI (pm_mk (S 4 f) i))), (0, .ref (q 0)), (1, .int (nI i)), (2, .int (nI f))]) hx hb dX4_matters_45 hl (k := 1) rfl (by decide) (by decide) rfl (fun ls hl => ?_)
      refine lv_goto (tgt := 13) hx hb dX4_matters_48 (by decide) ?_
      refine lv_iload hx hb dX4_matters_13 (lv_at hl 0 rfl) ?_
      refine lv_iconst (v := nI 3) hx hb dX4_matters_15 (by decide) ?_
      refine lv_icmp_ge (tgt := 51) hx hb dX4_matters_16 (by decide) (fun c177 => absurd c177 (by decide)) (fun _ => ?_)
      refine lv_aload_n hx hb dX4_matters_19 rfl (lv_at hl 3 rfl) ?_
      refine lv_iload_n hx hb dX4_matters_20 rfl (lv_at hl 4 rfl) ?_
      refine lv_iload_n hx hb dX4_matters_21 rfl (lv_at hl 5 rfl) ?_
      refine lv_iload hx hb dX4_matters_22 (lv_at hl 0 rfl) ?_
      refine va_callv (va_runV (As := [.int (nI i), .int (nI f), .int (nI 2)]) (rest := []) ⟨hx, hb, hml, hown, hts⟩ (k_X4_marks l D y q (pm_st S 4 f (pm_sm (S 4 f) i 1)) gp gs kn ln sv pd i f 2 (by rw [pm_st_s]; exact pm_smok (hI.okm f hf) hi (v := 1) (by decide)) (by omega) (by omega) (by omega)) (cwV 3 hts gX4_matters_X4_marks rfl rfl rfl hd_X4_marks ⟨Nat.le_of_ble_eq_true rfl, Nat.le_of_ble_eq_true rfl⟩) ⟨pm_wr_blind, va_recv hK hP (ci := 4) (q0 := 0) rfl rfl, pm_wr_pre hP hK hD⟩ rfl rfl hl.1 rfl (lv_room (Nat.le_of_ble_eq_true rfl)) dX4_matters_24 ⟨Nat.le_of_ble_eq_true rfl, Nat.le_of_ble_eq_true rfl⟩) hS (fun q _ h9 => (pm_ad_all hD) q h9) (pm_ad_all hD) (fun u184 t180 H1 locs ht181 _ h179 hB182 _ hk183 hS => ?_)
      obtain ⟨hP, hD⟩ := pm_all (D := D) (cl := vwCl) (H1 := H1) hD (w' := pm_mo y q (pm_st (pm_st S 4 f (pm_sm (S 4 f) i 1)) 4 f (pm_sm ((pm_st S 4 f (pm_sm (S 4 f) i 1)) 4 f) i 2)) gp gs kn ln sv pd) (by rw [← ht181]; exact hB182) rfl
      generalize H1 = H at hP hS ⊢
      have hP : va_P D vwCl (pm_mo y q (pm_st S 4 f (pm_sm (S 4 f) i 2)) gp gs kn ln sv pd) H := by rw [← pm_mts (hI.okm f hf) hi (v := 1) (w := 2) (by decide) (by decide)]; exact hP
      have hD : va_D (pm_ad (pm_mo y q S gp gs kn ln sv pd)) (pm_mo y q (pm_st S 4 f (pm_sm (S 4 f) i 2)) gp gs kn ln sv pd) := by rw [← pm_mts (hI.okm f hf) hi (v := 1) (w := 2) (by decide) (by decide)]; exact hD
      refine lv_iload hx hb dX4_matters_27 (lv_at hl 1 rfl) ?_
      refine lv_aload_n hx hb dX4_matters_29 rfl (lv_at hl 3 rfl) ?_
      refine lv_iload_n hx hb dX4_matters_30 rfl (lv_at hl 5 rfl) ?_
      refine vp_callSi (W.runV (As := [.int (nI f)]) (rest := [.int (nI 0)]) ⟨hx, hb, hml, hown, hts⟩ (k_X4_reason l D y q (pm_st S 4 f (pm_sm (S 4 f) i 2)) gp gs kn ln sv pd f (by rw [pm_st_s]; exact pm_smok (hI.okm f hf) hi (v := 2) (by decide)) (by rw [pm_st_o (by decide)]; exact hI.how f hf) (by rw [pm_st_o (by decide)]; exact hI.set9 0 (by decide)) (by omega)) (cwV 1 hts gX4_matters_X4_reason rfl rfl rfl hd_X4_reason ⟨Nat.le_of_ble_eq_true rfl, Nat.le_of_ble_eq_true rfl⟩) ⟨pm_ro_blind, va_recv hK hP (ci := 4) (q0 := 0) rfl rfl, pm_ro_pre hP hK⟩ rfl rfl hl.1 rfl (lv_room (Nat.le_of_ble_eq_true rfl)) dX4_matters_31 ⟨Nat.le_of_ble_eq_true rfl, Nat.le_of_ble_eq_true rfl⟩) (fun r185 h186 => ?_)
      obtain rfl : r185 = nI (if (pm_st S 4 f (pm_sm (S 4 f) i 2)) 0 f ≠ 0 then 1 else if pm_ck ((pm_st S 4 f (pm_sm (S 4 f) i 2)) 4 f) ≠ 0 then 2 else if (pm_st S 4 f (pm_sm (S 4 f) i 2)) 9 0 ≤ pm_tc ((pm_st S 4 f (pm_sm (S 4 f) i 2)) 4 f) then 0 else 3) := h186
      refine lv_topi (fun x187 e188 => ?_)
      obtain rfl : x187 = nI (if pm_wd (S 9 0) (pm_sm (S 4 f) i 2) = true then 0 else if pm_ck (pm_sm (S 4 f) i 2) ≠ 0 then 2 else 3) := e188.trans (congrArg nI (pm_rsn0 hop))
      rcases Bool.eq_false_or_eq_true (pm_wd (S 9 0) (pm_sm (S 4 f) i 2)) with w189 | w189
      · refine lv_topi (fun x9 e9 => ?_)
        obtain rfl : x9 = nI 0 := e9.trans (congrArg nI (if_pos w189))
        refine lv_if_ne (tgt := 41) hx hb dX4_matters_34 (by decide) (fun c190 => (c190 (by decide)).elim) (fun _ => ?_)
        refine lv_iconst (v := nI 1) hx hb dX4_matters_37 (by decide) ?_
        refine lv_goto (tgt := 42) hx hb dX4_matters_38 (by decide) ?_
        refine kx_iadd hx hb dX4_matters_42 ?_
        refine lv_topi (fun x191 e192 => ?_)
        obtain rfl : x191 = nI 1 := e192.trans (rfl)
        refine lv_istore (lv' := [(4, .int (nI 1)), (5, .int (nI 2)), (3, .int (nI (pm_mk (S 4 f) i))), (0, .ref (q 0)), (1, .int (nI i)), (2, .int (nI f))]) hx hb dX4_matters_43 hl (by decide) rfl (fun ls hl => ?_)
        refine lv_iinc (v := nI 3) (lv' := [(5, .int (nI 3)), (4, .int (nI 1)), (3, .int (nI (pm_mk (S 4 f) i))), (0, .ref (q 0)), (1, .int (nI i)), (2, .int (nI f))]) hx hb dX4_matters_45 hl (k := 1) rfl (by decide) (by decide) rfl (fun ls hl => ?_)
        refine lv_goto (tgt := 13) hx hb dX4_matters_48 (by decide) ?_
        refine lv_iload hx hb dX4_matters_13 (lv_at hl 0 rfl) ?_
        refine lv_iconst (v := nI 3) hx hb dX4_matters_15 (by decide) ?_
        refine lv_icmp_ge (tgt := 51) hx hb dX4_matters_16 (by decide) (fun _ => ?_) (fun c193 => (c193 (by decide)).elim)
        refine lv_aload_n hx hb dX4_matters_51 rfl (lv_at hl 3 rfl) ?_
        refine lv_iload_n hx hb dX4_matters_52 rfl (lv_at hl 4 rfl) ?_
        refine lv_iload_n hx hb dX4_matters_53 rfl (lv_at hl 5 rfl) ?_
        refine lv_iload_n hx hb dX4_matters_54 rfl (lv_at hl 2 rfl) ?_
        refine va_callv (va_runV (As := [.int (nI i), .int (nI f), .int (nI (pm_mk (S 4 f) i))]) (rest := []) ⟨hx, hb, hml, hown, hts⟩ (k_X4_marks l D y q (pm_st S 4 f (pm_sm (S 4 f) i 2)) gp gs kn ln sv pd i f (pm_mk (S 4 f) i) (by rw [pm_st_s]; exact pm_smok (hI.okm f hf) hi (v := 2) (by decide)) (by omega) (by omega) (by omega)) (cwV 3 hts gX4_matters_X4_marks rfl rfl rfl hd_X4_marks ⟨Nat.le_of_ble_eq_true rfl, Nat.le_of_ble_eq_true rfl⟩) ⟨pm_wr_blind, va_recv hK hP (ci := 4) (q0 := 0) rfl rfl, pm_wr_pre hP hK hD⟩ rfl rfl hl.1 rfl (lv_room (Nat.le_of_ble_eq_true rfl)) dX4_matters_55 ⟨Nat.le_of_ble_eq_true rfl, Nat.le_of_ble_eq_true rfl⟩) hS (fun q _ h9 => (pm_ad_all hD) q h9) (pm_ad_all hD) (fun u200 t196 H1 locs ht197 _ h195 hB198 _ hk199 hS => ?_)
        obtain ⟨hP, hD⟩ := pm_all (D := D) (cl := vwCl) (H1 := H1) hD (w' := pm_mo y q (pm_st (pm_st S 4 f (pm_sm (S 4 f) i 2)) 4 f (pm_sm ((pm_st S 4 f (pm_sm (S 4 f) i 2)) 4 f) i (pm_mk (S 4 f) i))) gp gs kn ln sv pd) (by rw [← ht197]; exact hB198) rfl
        generalize H1 = H at hP hS ⊢
        have hP : va_P D vwCl (pm_mo y q S gp gs kn ln sv pd) H := by rw [← pm_mtz (S := S) (hI.okm f hf) hi (v := 2) (by decide)]; exact hP
        have hD : va_D (pm_ad (pm_mo y q S gp gs kn ln sv pd)) (pm_mo y q S gp gs kn ln sv pd) := by rw [← pm_mtz (S := S) (hI.okm f hf) hi (v := 2) (by decide)]; exact hD
        refine lv_iload hx hb dX4_matters_58 (lv_at hl 1 rfl) ?_
        refine lv_if_le (tgt := 73) hx hb dX4_matters_60 (by decide) (fun c201 => absurd c201 (by decide)) (fun _ => ?_)
        refine lv_iload hx hb dX4_matters_63 (lv_at hl 1 rfl) ?_
        refine lv_iconst (v := nI 3) hx hb dX4_matters_65 (by decide) ?_
        refine lv_icmp_ge (tgt := 73) hx hb dX4_matters_66 (by decide) (fun c202 => absurd c202 (by decide)) (fun _ => ?_)
        refine lv_iconst (v := nI 1) hx hb dX4_matters_69 (by decide) ?_
        refine lv_goto (tgt := 74) hx hb dX4_matters_70 (by decide) ?_
        exact W.zret (ty := .boolean) hx hb hr rfl (fun t ht _ => ⟨⟨_, (), rfl, (Or.inl ⟨by rw [pm_mcw (hI.okm f hf) hi]; simp [w15, w131, w189], rfl⟩), (by show va_P D vwCl (pm_mo y q S gp gs kn ln sv pd) t.heap; rw [ht]; exact hP)⟩, hS.F ht⟩) hS.2.2 dX4_matters_74
      · refine lv_topi (fun x9 e9 => ?_)
        obtain rfl : x9 = nI (if pm_ck (pm_sm (S 4 f) i 2) ≠ 0 then 2 else 3) := e9.trans (congrArg nI (if_neg (by rw [w189]; decide)))
        have : (if pm_ck (pm_sm (S 4 f) i 2) ≠ 0 then 2 else 3) < 4 := by split <;> decide
        have : ¬ (if pm_ck (pm_sm (S 4 f) i 2) ≠ 0 then 2 else 3) = 0 := by split <;> decide
        refine kx_if_ne (tgt := 41) hx hb (by omega) dX4_matters_34 (by decide) (fun c203 => ?_) (fun c203 => by exfalso; omega)
        refine lv_iconst (v := nI 0) hx hb dX4_matters_41 (by decide) ?_
        refine kx_iadd hx hb dX4_matters_42 ?_
        refine lv_topi (fun x204 e205 => ?_)
        obtain rfl : x204 = nI 0 := e205.trans (rfl)
        refine lv_istore (lv' := [(4, .int (nI 0)), (5, .int (nI 2)), (3, .int (nI (pm_mk (S 4 f) i))), (0, .ref (q 0)), (1, .int (nI i)), (2, .int (nI f))]) hx hb dX4_matters_43 hl (by decide) rfl (fun ls hl => ?_)
        refine lv_iinc (v := nI 3) (lv' := [(5, .int (nI 3)), (4, .int (nI 0)), (3, .int (nI (pm_mk (S 4 f) i))), (0, .ref (q 0)), (1, .int (nI i)), (2, .int (nI f))]) hx hb dX4_matters_45 hl (k := 1) rfl (by decide) (by decide) rfl (fun ls hl => ?_)
        refine lv_goto (tgt := 13) hx hb dX4_matters_48 (by decide) ?_
        refine lv_iload hx hb dX4_matters_13 (lv_at hl 0 rfl) ?_
        refine lv_iconst (v := nI 3) hx hb dX4_matters_15 (by decide) ?_
        refine lv_icmp_ge (tgt := 51) hx hb dX4_matters_16 (by decide) (fun _ => ?_) (fun c206 => (c206 (by decide)).elim)
        refine lv_aload_n hx hb dX4_matters_51 rfl (lv_at hl 3 rfl) ?_
        refine lv_iload_n hx hb dX4_matters_52 rfl (lv_at hl 4 rfl) ?_
        refine lv_iload_n hx hb dX4_matters_53 rfl (lv_at hl 5 rfl) ?_
        refine lv_iload_n hx hb dX4_matters_54 rfl (lv_at hl 2 rfl) ?_
        refine va_callv (va_runV (As := [.int (nI i), .int (nI f), .int (nI (pm_mk (S 4 f) i))]) (rest := []) ⟨hx, hb, hml, hown, hts⟩ (k_X4_marks l D y q (pm_st S 4 f (pm_sm (S 4 f) i 2)) gp gs kn ln sv pd i f (pm_mk (S 4 f) i) (by rw [pm_st_s]; exact pm_smok (hI.okm f hf) hi (v := 2) (by decide)) (by omega) (by omega) (by omega)) (cwV 3 hts gX4_matters_X4_marks rfl rfl rfl hd_X4_marks ⟨Nat.le_of_ble_eq_true rfl, Nat.le_of_ble_eq_true rfl⟩) ⟨pm_wr_blind, va_recv hK hP (ci := 4) (q0 := 0) rfl rfl, pm_wr_pre hP hK hD⟩ rfl rfl hl.1 rfl (lv_room (Nat.le_of_ble_eq_true rfl)) dX4_matters_55 ⟨Nat.le_of_ble_eq_true rfl, Nat.le_of_ble_eq_true rfl⟩) hS (fun q _ h9 => (pm_ad_all hD) q h9) (pm_ad_all hD) (fun u213 t209 H1 locs ht210 _ h208 hB211 _ hk212 hS => ?_)
        obtain ⟨hP, hD⟩ := pm_all (D := D) (cl := vwCl) (H1 := H1) hD (w' := pm_mo y q (pm_st (pm_st S 4 f (pm_sm (S 4 f) i 2)) 4 f (pm_sm ((pm_st S 4 f (pm_sm (S 4 f) i 2)) 4 f) i (pm_mk (S 4 f) i))) gp gs kn ln sv pd) (by rw [← ht210]; exact hB211) rfl
        generalize H1 = H at hP hS ⊢
        have hP : va_P D vwCl (pm_mo y q S gp gs kn ln sv pd) H := by rw [← pm_mtz (S := S) (hI.okm f hf) hi (v := 2) (by decide)]; exact hP
        have hD : va_D (pm_ad (pm_mo y q S gp gs kn ln sv pd)) (pm_mo y q S gp gs kn ln sv pd) := by rw [← pm_mtz (S := S) (hI.okm f hf) hi (v := 2) (by decide)]; exact hD
        refine lv_iload hx hb dX4_matters_58 (lv_at hl 1 rfl) ?_
        refine lv_if_le (tgt := 73) hx hb dX4_matters_60 (by decide) (fun _ => ?_) (fun c214 => (c214 (by decide)).elim)
        refine lv_iconst (v := nI 0) hx hb dX4_matters_73 (by decide) ?_
        exact W.zret (ty := .boolean) hx hb hr rfl (fun t ht _ => ⟨⟨_, (), rfl, (Or.inr ⟨by rw [pm_mcw (hI.okm f hf) hi]; simp [w15, w131, w189], rfl⟩), (by show va_P D vwCl (pm_mo y q S gp gs kn ln sv pd) t.heap; rw [ht]; exact hP)⟩, hS.F ht⟩) hS.2.2 dX4_matters_74

theorem pm_dso_p {S : Nat → Nat → Nat} {f n : Nat} (hn : n < 3) (h1 : S 0 f = 0) (h2 : pm_mc (S 9 0) (S 4 f) n 3 = true) : nI (pm_ds S f n) ||| (nI 1 <<< (nI n &&& 31)) = nI (pm_ds S f (n + 1)) := by
  rw [pm_ds, if_pos ⟨h1, h2⟩]
  exact (pm_ors hn (pm_ds_lt S f n)).1
theorem pm_dso_n {S : Nat → Nat → Nat} {f n : Nat} (hn : n < 3) (h : ¬ (S 0 f = 0 ∧ pm_mc (S 9 0) (S 4 f) n 3 = true)) : nI (pm_ds S f n) ||| nI 0 = nI (pm_ds S f (n + 1)) := by
  rw [pm_ds, if_neg h]
  exact (pm_ors hn (pm_ds_lt S f n)).2
theorem pm_ds_0 {S : Nat → Nat → Nat} {f : Nat} (h : ¬ S 0 f = 0) : ∀ n, pm_ds S f n = 0
  | 0 => rfl
  | n + 1 => by rw [pm_ds, pm_ds_0 h n, if_neg (fun z => h z.1)]
set_option maxHeartbeats 4000000 in
set_option maxRecDepth 100000 in
theorem k_X4_decides (l : Launch) (D : va_G) (y : Nat → ClassId) (q : Nat → Nat) (S : Nat → Nat → Nat) (gp gs : Nat → Int32) (kn ln : Nat) (sv pd : Nat → Nat) (xf : Int32) (hI : pm_Inv S) : Met l yX4_decides wsX4_decides ({ frames := 5, cells := 0, slots := 0, locals := 113 } : Room) (pm_wr D (pm_ty y) [.ref (q 0), .int xf] (pm_mo y q S gp gs kn ln sv pd)) (pm_Qi D (fun (r : Int32) (_ : Unit) => r = pm_dec S xf) (fun (_ : Unit) => pm_mo y q S gp gs kn ln sv pd) (pm_mo y q S gp gs kn ln sv pd)) 0 0 (pm_ad (pm_mo y q S gp gs kn ln sv pd)) := by
  refine Met.ofW (cc := cX4_decides) (maxL := 4) (ret := (some .int)) (by decide) rfl ?_
  intro p e s m args below meth c s₁ B hml hpre
  obtain ⟨rfl, hP, hK, hD0⟩ := hpre
  have hx := B.exec
  have hb := B.bytes
  have hr := B.returns
  have hts := atoms_spec (ws := wsX4_decides) B.pre
  have hown : s.vm.findClass RX4 = some m.cls := findClass_of_methodNamed B.named
  have hlocks := B.notSynchronized
  have hin4 : ∀ w ∈ u_ws RX4 TX4 7, w ∈ wsX4_decides := fun w h => List.mem_cons_of_mem _ (List.mem_append_right _ h)
  have hD := pm_ad_self hD0
  have hS : va_S (pm_ad (pm_mo y q S gp gs kn ln sv pd)) s.heap s.heap [] := va_S.rf
  have hP : va_P D vwCl (pm_mo y q S gp gs kn ln sv pd) s.heap := hP
  have hl := lv_entry ([.ref (q 0), .int xf]) (n := 4) (Nat.le_of_ble_eq_true rfl)
  rw [lg_entry_eq]
  generalize (lg_sl ([.ref (q 0), .int xf]) ++ List.replicate (4 - (lg_sl ([.ref (q 0), .int xf])).length) Slot.unset).toArray = ls at hl ⊢
  have hl : lv_has ls 4 [(0, .ref (q 0)), (1, .int xf)] := hl
  refine lv_iload_n hx hb dX4_decides_0 rfl (lv_at hl 1 rfl) ?_
  refine vp_callSi (W.runS (As := [.int xf]) (rest := []) ⟨hx, hb, hml, hown, hts⟩ (k_X4_isFrame l xf) (va_cwS 1 hts gX4_decides_X4_isFrame rfl rfl rfl hd_X4_isFrame ⟨Nat.le_of_ble_eq_true rfl, Nat.le_of_ble_eq_true rfl⟩) ⟨pm_no_blind, pm_no_pre⟩ rfl rfl hl.1 rfl (lv_room (Nat.le_of_ble_eq_true rfl)) dX4_decides_1 ⟨Nat.le_of_ble_eq_true rfl, Nat.le_of_ble_eq_true rfl⟩) (fun r1 h2 => ?_)
  rcases h2 with ⟨j3, hj3, ej3, rfl⟩ | ⟨hnj3, rfl⟩
  · subst ej3
    refine lv_if_ne (tgt := 9) hx hb dX4_decides_4 (by decide) (fun _ => ?_) (fun c4 => absurd c4 (by decide))
    refine lv_iconst (v := nI 0) hx hb dX4_decides_9 (by decide) ?_
    refine lv_topi (fun x5 e6 => ?_)
    obtain rfl : x5 = nI (pm_ds S j3 0) := e6.trans (rfl)
    refine lv_istore_n (lv' := [(2, .int (nI (pm_ds S j3 0))), (0, .ref (q 0)), (1, .int (nI j3))]) hx hb dX4_decides_10 rfl hl (by decide) rfl (fun ls hl => ?_)
    refine lv_iconst (v := nI 0) hx hb dX4_decides_11 (by decide) ?_
    refine lv_istore_n (lv' := [(3, .int (nI 0)), (2, .int (nI (pm_ds S j3 0))), (0, .ref (q 0)), (1, .int (nI j3))]) hx hb dX4_decides_12 rfl hl (by decide) rfl (fun ls hl => ?_)
    refine lv_iload_n hx hb dX4_decides_13 rfl (lv_at hl 0 rfl) ?_
    refine lv_iconst (v := nI 3) hx hb dX4_decides_14 (by decide) ?_
    refine lv_icmp_ge (tgt := 51) hx hb dX4_decides_15 (by decide) (fun c7 => absurd c7 (by decide)) (fun _ => ?_)
    refine lv_aload_n hx hb dX4_decides_18 rfl (lv_at hl 2 rfl) ?_
    refine lv_iload_n hx hb dX4_decides_19 rfl (lv_at hl 3 rfl) ?_
    refine vp_callSi (W.runV (As := [.int (nI j3)]) (rest := []) ⟨hx, hb, hml, hown, hts⟩ (k_X4_isOpen l D y q S gp gs kn ln sv pd j3 (hI.how j3 (by omega)) (by omega)) (cwV 1 hts gX4_decides_X4_isOpen rfl rfl rfl hd_X4_isOpen ⟨Nat.le_of_ble_eq_true rfl, Nat.le_of_ble_eq_true rfl⟩) ⟨pm_ro_blind, va_recv hK hP (ci := 4) (q0 := 0) rfl rfl, pm_ro_pre hP hK⟩ rfl rfl hl.1 rfl (lv_room (Nat.le_of_ble_eq_true rfl)) dX4_decides_20 ⟨Nat.le_of_ble_eq_true rfl, Nat.le_of_ble_eq_true rfl⟩) (fun r8 h9 => ?_)
    rcases (show ((S 0 j3 = 0) ∧ r8 = nI 1) ∨ (¬ (S 0 j3 = 0) ∧ r8 = nI 0) from h9) with ⟨hp10, rfl⟩ | ⟨hp10, rfl⟩
    · skip
      refine lv_if_eq (tgt := 51) hx hb dX4_decides_23 (by decide) (fun c11 => absurd c11 (by decide)) (fun _ => ?_)
      refine lv_iload_n hx hb dX4_decides_26 rfl (lv_at hl 1 rfl) ?_
      refine lv_aload_n hx hb dX4_decides_27 rfl (lv_at hl 2 rfl) ?_
      refine lv_iload_n hx hb dX4_decides_28 rfl (lv_at hl 0 rfl) ?_
      refine lv_iload_n hx hb dX4_decides_29 rfl (lv_at hl 3 rfl) ?_
      refine va_calli (va_runV (As := [.int (nI 0), .int (nI j3)]) (rest := [.int (nI (pm_ds S j3 0))]) ⟨hx, hb, hml, hown, hts⟩ (k_X4_matters l D y q S gp gs kn ln sv pd 0 j3 hI (by assumption) (by omega) (by omega)) (cwV 2 hts gX4_decides_X4_matters rfl rfl rfl hd_X4_matters ⟨Nat.le_of_ble_eq_true rfl, Nat.le_of_ble_eq_true rfl⟩) ⟨pm_wr_blind, va_recv hK hP (ci := 4) (q0 := 0) rfl rfl, pm_wr_pre hP hK hD⟩ rfl rfl hl.1 rfl (lv_room (Nat.le_of_ble_eq_true rfl)) dX4_decides_30 ⟨Nat.le_of_ble_eq_true rfl, Nat.le_of_ble_eq_true rfl⟩) hS (fun q _ h9 => (pm_ad_all hD) q h9) (pm_ad_all hD) (fun r12 u18 t14 H1 locs ht15 _ h13 hB16 _ hk17 hS => ?_)
      obtain ⟨hP, hD⟩ := pm_all (D := D) (cl := vwCl) (H1 := H1) hD (w' := pm_mo y q S gp gs kn ln sv pd) (by rw [← ht15]; exact hB16) rfl
      generalize H1 = H at hP hS ⊢
      rcases (show ((pm_mc (S 9 0) (S 4 j3) 0 3 = true) ∧ r12 = nI 1) ∨ (¬ (pm_mc (S 9 0) (S 4 j3) 0 3 = true) ∧ r12 = nI 0) from h13) with ⟨hp19, rfl⟩ | ⟨hp19, rfl⟩
      · skip
        refine lv_if_eq (tgt := 42) hx hb dX4_decides_33 (by decide) (fun c20 => absurd c20 (by decide)) (fun _ => ?_)
        refine lv_iconst (v := nI 1) hx hb dX4_decides_36 (by decide) ?_
        refine lv_iload_n hx hb dX4_decides_37 rfl (lv_at hl 0 rfl) ?_
        refine lv_ishl hx hb dX4_decides_38 ?_
        refine lv_goto (tgt := 43) hx hb dX4_decides_39 (by decide) ?_
        refine lv_ior hx hb dX4_decides_43 ?_
        refine lv_topi (fun x21 e22 => ?_)
        obtain rfl : x21 = nI (pm_ds S j3 1) := e22.trans ((by first | exact pm_dso_p (n := 0) (by decide) (by assumption) (by assumption) | exact pm_dso_n (n := 0) (by decide) (fun z => absurd z.2 (by assumption))))
        refine lv_istore_n (lv' := [(2, .int (nI (pm_ds S j3 1))), (3, .int (nI 0)), (0, .ref (q 0)), (1, .int (nI j3))]) hx hb dX4_decides_44 rfl hl (by decide) rfl (fun ls hl => ?_)
        refine lv_iinc (v := nI 1) (lv' := [(3, .int (nI 1)), (2, .int (nI (pm_ds S j3 1))), (0, .ref (q 0)), (1, .int (nI j3))]) hx hb dX4_decides_45 hl (k := 1) rfl (by decide) (by decide) rfl (fun ls hl => ?_)
        refine lv_goto (tgt := 13) hx hb dX4_decides_48 (by decide) ?_
        refine lv_iload_n hx hb dX4_decides_13 rfl (lv_at hl 0 rfl) ?_
        refine lv_iconst (v := nI 3) hx hb dX4_decides_14 (by decide) ?_
        refine lv_icmp_ge (tgt := 51) hx hb dX4_decides_15 (by decide) (fun c23 => absurd c23 (by decide)) (fun _ => ?_)
        refine lv_aload_n hx hb dX4_decides_18 rfl (lv_at hl 2 rfl) ?_
        refine lv_iload_n hx hb dX4_decides_19 rfl (lv_at hl 3 rfl) ?_
        refine vp_callSi (W.runV (As := [.int (nI j3)]) (rest := []) ⟨hx, hb, hml, hown, hts⟩ (k_X4_isOpen l D y q S gp gs kn ln sv pd j3 (hI.how j3 (by omega)) (by omega)) (cwV 1 hts gX4_decides_X4_isOpen rfl rfl rfl hd_X4_isOpen ⟨Nat.le_of_ble_eq_true rfl, Nat.le_of_ble_eq_true rfl⟩) ⟨pm_ro_blind, va_recv hK hP (ci := 4) (q0 := 0) rfl rfl, pm_ro_pre hP hK⟩ rfl rfl hl.1 rfl (lv_room (Nat.le_of_ble_eq_true rfl)) dX4_decides_20 ⟨Nat.le_of_ble_eq_true rfl, Nat.le_of_ble_eq_true rfl⟩) (fun r24 h25 => ?_)
        rcases (show ((S 0 j3 = 0) ∧ r24 = nI 1) ∨ (¬ (S 0 j3 = 0) ∧ r24 = nI 0) from h25) with ⟨hp26, rfl⟩ | ⟨hp26, rfl⟩
        · skip
          refine lv_if_eq (tgt := 51) hx hb dX4_decides_23 (by decide) (fun c27 => absurd c27 (by decide)) (fun _ => ?_)
          refine lv_iload_n hx hb dX4_decides_26 rfl (lv_at hl 1 rfl) ?_
          refine lv_aload_n hx hb dX4_decides_27 rfl (lv_at hl 2 rfl) ?_
          refine lv_iload_n hx hb dX4_decides_28 rfl (lv_at hl 0 rfl) ?_
          refine lv_iload_n hx hb dX4_decides_29 rfl (lv_at hl 3 rfl) ?_
          refine va_calli (va_runV (As := [.int (nI 1), .int (nI j3)]) (rest := [.int (nI (pm_ds S j3 1))]) ⟨hx, hb, hml, hown, hts⟩ (k_X4_matters l D y q S gp gs kn ln sv pd 1 j3 hI (by assumption) (by omega) (by omega)) (cwV 2 hts gX4_decides_X4_matters rfl rfl rfl hd_X4_matters ⟨Nat.le_of_ble_eq_true rfl, Nat.le_of_ble_eq_true rfl⟩) ⟨pm_wr_blind, va_recv hK hP (ci := 4) (q0 := 0) rfl rfl, pm_wr_pre hP hK hD⟩ rfl rfl hl.1 rfl (lv_room (Nat.le_of_ble_eq_true rfl)) dX4_decides_30 ⟨Nat.le_of_ble_eq_true rfl, Nat.le_of_ble_eq_true rfl⟩) hS (fun q _ h9 => (pm_ad_all hD) q h9) (pm_ad_all hD) (fun r28 u34 t30 H1 locs ht31 _ h29 hB32 _ hk33 hS => ?_)
          obtain ⟨hP, hD⟩ := pm_all (D := D) (cl := vwCl) (H1 := H1) hD (w' := pm_mo y q S gp gs kn ln sv pd) (by rw [← ht31]; exact hB32) rfl
          generalize H1 = H at hP hS ⊢
          rcases (show ((pm_mc (S 9 0) (S 4 j3) 1 3 = true) ∧ r28 = nI 1) ∨ (¬ (pm_mc (S 9 0) (S 4 j3) 1 3 = true) ∧ r28 = nI 0) from h29) with ⟨hp35, rfl⟩ | ⟨hp35, rfl⟩
          · skip
            refine lv_if_eq (tgt := 42) hx hb dX4_decides_33 (by decide) (fun c36 => absurd c36 (by decide)) (fun _ => ?_)
            refine lv_iconst (v := nI 1) hx hb dX4_decides_36 (by decide) ?_
            refine lv_iload_n hx hb dX4_decides_37 rfl (lv_at hl 0 rfl) ?_
            refine lv_ishl hx hb dX4_decides_38 ?_
            refine lv_goto (tgt := 43) hx hb dX4_decides_39 (by decide) ?_
            refine lv_ior hx hb dX4_decides_43 ?_
            refine lv_topi (fun x37 e38 => ?_)
            obtain rfl : x37 = nI (pm_ds S j3 2) := e38.trans ((by first | exact pm_dso_p (n := 1) (by decide) (by assumption) (by assumption) | exact pm_dso_n (n := 1) (by decide) (fun z => absurd z.2 (by assumption))))
            refine lv_istore_n (lv' := [(2, .int (nI (pm_ds S j3 2))), (3, .int (nI 1)), (0, .ref (q 0)), (1, .int (nI j3))]) hx hb dX4_decides_44 rfl hl (by decide) rfl (fun ls hl => ?_)
            refine lv_iinc (v := nI 2) (lv' := [(3, .int (nI 2)), (2, .int (nI (pm_ds S j3 2))), (0, .ref (q 0)), (1, .int (nI j3))]) hx hb dX4_decides_45 hl (k := 1) rfl (by decide) (by decide) rfl (fun ls hl => ?_)
            refine lv_goto (tgt := 13) hx hb dX4_decides_48 (by decide) ?_
            refine lv_iload_n hx hb dX4_decides_13 rfl (lv_at hl 0 rfl) ?_
            refine lv_iconst (v := nI 3) hx hb dX4_decides_14 (by decide) ?_
            refine lv_icmp_ge (tgt := 51) hx hb dX4_decides_15 (by decide) (fun c39 => absurd c39 (by decide)) (fun _ => ?_)
            refine lv_aload_n hx hb dX4_decides_18 rfl (lv_at hl 2 rfl) ?_
            refine lv_iload_n hx hb dX4_decides_19 rfl (lv_at hl 3 rfl) ?_
            refine vp_callSi (W.runV (As := [.int (nI j3)]) (rest := []) ⟨hx, hb, hml, hown, hts⟩ (k_X4_isOpen l D y q S gp gs kn ln sv pd j3 (hI.how j3 (by omega)) (by omega)) (cwV 1 hts gX4_decides_X4_isOpen rfl rfl rfl hd_X4_isOpen ⟨Nat.le_of_ble_eq_true rfl, Nat.le_of_ble_eq_true rfl⟩) ⟨pm_ro_blind, va_recv hK hP (ci := 4) (q0 := 0) rfl rfl, pm_ro_pre hP hK⟩ rfl rfl hl.1 rfl (lv_room (Nat.le_of_ble_eq_true rfl)) dX4_decides_20 ⟨Nat.le_of_ble_eq_true rfl, Nat.le_of_ble_eq_true rfl⟩) (fun r40 h41 => ?_)
            rcases (show ((S 0 j3 = 0) ∧ r40 = nI 1) ∨ (¬ (S 0 j3 = 0) ∧ r40 = nI 0) from h41) with ⟨hp42, rfl⟩ | ⟨hp42, rfl⟩
            · skip
              refine lv_if_eq (tgt := 51) hx hb dX4_decides_23 (by decide) (fun c43 => absurd c43 (by decide)) (fun _ => ?_)
              refine lv_iload_n hx hb dX4_decides_26 rfl (lv_at hl 1 rfl) ?_
              refine lv_aload_n hx hb dX4_decides_27 rfl (lv_at hl 2 rfl) ?_
              refine lv_iload_n hx hb dX4_decides_28 rfl (lv_at hl 0 rfl) ?_
              refine lv_iload_n hx hb dX4_decides_29 rfl (lv_at hl 3 rfl) ?_
              refine va_calli (va_runV (As := [.int (nI 2), .int (nI j3)]) (rest := [.int (nI (pm_ds S j3 2))]) ⟨hx, hb, hml, hown, hts⟩ (k_X4_matters l D y q S gp gs kn ln sv pd 2 j3 hI (by assumption) (by omega) (by omega)) (cwV 2 hts gX4_decides_X4_matters rfl rfl rfl hd_X4_matters ⟨Nat.le_of_ble_eq_true rfl, Nat.le_of_ble_eq_true rfl⟩) ⟨pm_wr_blind, va_recv hK hP (ci := 4) (q0 := 0) rfl rfl, pm_wr_pre hP hK hD⟩ rfl rfl hl.1 rfl (lv_room (Nat.le_of_ble_eq_true rfl)) dX4_decides_30 ⟨Nat.le_of_ble_eq_true rfl, Nat.le_of_ble_eq_true rfl⟩) hS (fun q _ h9 => (pm_ad_all hD) q h9) (pm_ad_all hD) (fun r44 u50 t46 H1 locs ht47 _ h45 hB48 _ hk49 hS => ?_)
              obtain ⟨hP, hD⟩ := pm_all (D := D) (cl := vwCl) (H1 := H1) hD (w' := pm_mo y q S gp gs kn ln sv pd) (by rw [← ht47]; exact hB48) rfl
              generalize H1 = H at hP hS ⊢
              rcases (show ((pm_mc (S 9 0) (S 4 j3) 2 3 = true) ∧ r44 = nI 1) ∨ (¬ (pm_mc (S 9 0) (S 4 j3) 2 3 = true) ∧ r44 = nI 0) from h45) with ⟨hp51, rfl⟩ | ⟨hp51, rfl⟩
              · skip
                refine lv_if_eq (tgt := 42) hx hb dX4_decides_33 (by decide) (fun c52 => absurd c52 (by decide)) (fun _ => ?_)
                refine lv_iconst (v := nI 1) hx hb dX4_decides_36 (by decide) ?_
                refine lv_iload_n hx hb dX4_decides_37 rfl (lv_at hl 0 rfl) ?_
                refine lv_ishl hx hb dX4_decides_38 ?_
                refine lv_goto (tgt := 43) hx hb dX4_decides_39 (by decide) ?_
                refine lv_ior hx hb dX4_decides_43 ?_
                refine lv_topi (fun x53 e54 => ?_)
                obtain rfl : x53 = nI (pm_ds S j3 3) := e54.trans ((by first | exact pm_dso_p (n := 2) (by decide) (by assumption) (by assumption) | exact pm_dso_n (n := 2) (by decide) (fun z => absurd z.2 (by assumption))))
                refine lv_istore_n (lv' := [(2, .int (nI (pm_ds S j3 3))), (3, .int (nI 2)), (0, .ref (q 0)), (1, .int (nI j3))]) hx hb dX4_decides_44 rfl hl (by decide) rfl (fun ls hl => ?_)
                refine lv_iinc (v := nI 3) (lv' := [(3, .int (nI 3)), (2, .int (nI (pm_ds S j3 3))), (0, .ref (q 0)), (1, .int (nI j3))]) hx hb dX4_decides_45 hl (k := 1) rfl (by decide) (by decide) rfl (fun ls hl => ?_)
                refine lv_goto (tgt := 13) hx hb dX4_decides_48 (by decide) ?_
                refine lv_iload_n hx hb dX4_decides_13 rfl (lv_at hl 0 rfl) ?_
                refine lv_iconst (v := nI 3) hx hb dX4_decides_14 (by decide) ?_
                refine lv_icmp_ge (tgt := 51) hx hb dX4_decides_15 (by decide) (fun _ => ?_) (fun c55 => (c55 (by decide)).elim)
                refine lv_iload_n hx hb dX4_decides_51 rfl (lv_at hl 1 rfl) ?_
                exact W.iret hx hb hr (fun t ht _ => ⟨⟨_, (), rfl, (by simp only [pm_dec, pm_ix_in hj3 (show (30 : Nat) < 2 ^ 31 by decide)] <;> (first | rfl | rw [pm_ds_0 (by assumption), pm_ds_0 (by assumption)] | (exfalso; omega))), (by show va_P D vwCl (pm_mo y q S gp gs kn ln sv pd) t.heap; rw [ht]; exact hP)⟩, hS.F ht⟩) hS.2.2 dX4_decides_52
              · skip
                refine lv_if_eq (tgt := 42) hx hb dX4_decides_33 (by decide) (fun _ => ?_) (fun c56 => (c56 (by decide)).elim)
                refine lv_iconst (v := nI 0) hx hb dX4_decides_42 (by decide) ?_
                refine lv_ior hx hb dX4_decides_43 ?_
                refine lv_topi (fun x57 e58 => ?_)
                obtain rfl : x57 = nI (pm_ds S j3 3) := e58.trans ((by first | exact pm_dso_p (n := 2) (by decide) (by assumption) (by assumption) | exact pm_dso_n (n := 2) (by decide) (fun z => absurd z.2 (by assumption))))
                refine lv_istore_n (lv' := [(2, .int (nI (pm_ds S j3 3))), (3, .int (nI 2)), (0, .ref (q 0)), (1, .int (nI j3))]) hx hb dX4_decides_44 rfl hl (by decide) rfl (fun ls hl => ?_)
                refine lv_iinc (v := nI 3) (lv' := [(3, .int (nI 3)), (2, .int (nI (pm_ds S j3 3))), (0, .ref (q 0)), (1, .int (nI j3))]) hx hb dX4_decides_45 hl (k := 1) rfl (by decide) (by decide) rfl (fun ls hl => ?_)
                refine lv_goto (tgt := 13) hx hb dX4_decides_48 (by decide) ?_
                refine lv_iload_n hx hb dX4_decides_13 rfl (lv_at hl 0 rfl) ?_
                refine lv_iconst (v := nI 3) hx hb dX4_decides_14 (by decide) ?_
                refine lv_icmp_ge (tgt := 51) hx hb dX4_decides_15 (by decide) (fun _ => ?_) (fun c59 => (c59 (by decide)).elim)
                refine lv_iload_n hx hb dX4_decides_51 rfl (lv_at hl 1 rfl) ?_
                exact W.iret hx hb hr (fun t ht _ => ⟨⟨_, (), rfl, (by simp only [pm_dec, pm_ix_in hj3 (show (30 : Nat) < 2 ^ 31 by decide)] <;> (first | rfl | rw [pm_ds_0 (by assumption), pm_ds_0 (by assumption)] | (exfalso; omega))), (by show va_P D vwCl (pm_mo y q S gp gs kn ln sv pd) t.heap; rw [ht]; exact hP)⟩, hS.F ht⟩) hS.2.2 dX4_decides_52
            · skip
              refine lv_if_eq (tgt := 51) hx hb dX4_decides_23 (by decide) (fun _ => ?_) (fun c60 => (c60 (by decide)).elim)
              refine lv_iload_n hx hb dX4_decides_51 rfl (lv_at hl 1 rfl) ?_
              exact W.iret hx hb hr (fun t ht _ => ⟨⟨_, (), rfl, (by simp only [pm_dec, pm_ix_in hj3 (show (30 : Nat) < 2 ^ 31 by decide)] <;> (first | rfl | rw [pm_ds_0 (by assumption), pm_ds_0 (by assumption)] | (exfalso; omega))), (by show va_P D vwCl (pm_mo y q S gp gs kn ln sv pd) t.heap; rw [ht]; exact hP)⟩, hS.F ht⟩) hS.2.2 dX4_decides_52
          · skip
            refine lv_if_eq (tgt := 42) hx hb dX4_decides_33 (by decide) (fun _ => ?_) (fun c61 => (c61 (by decide)).elim)
            refine lv_iconst (v := nI 0) hx hb dX4_decides_42 (by decide) ?_
            refine lv_ior hx hb dX4_decides_43 ?_
            refine lv_topi (fun x62 e63 => ?_)
            obtain rfl : x62 = nI (pm_ds S j3 2) := e63.trans ((by first | exact pm_dso_p (n := 1) (by decide) (by assumption) (by assumption) | exact pm_dso_n (n := 1) (by decide) (fun z => absurd z.2 (by assumption))))
            refine lv_istore_n (lv' := [(2, .int (nI (pm_ds S j3 2))), (3, .int (nI 1)), (0, .ref (q 0)), (1, .int (nI j3))]) hx hb dX4_decides_44 rfl hl (by decide) rfl (fun ls hl => ?_)
            refine lv_iinc (v := nI 2) (lv' := [(3, .int (nI 2)), (2, .int (nI (pm_ds S j3 2))), (0, .ref (q 0)), (1, .int (nI j3))]) hx hb dX4_decides_45 hl (k := 1) rfl (by decide) (by decide) rfl (fun ls hl => ?_)
            refine lv_goto (tgt := 13) hx hb dX4_decides_48 (by decide) ?_
            refine lv_iload_n hx hb dX4_decides_13 rfl (lv_at hl 0 rfl) ?_
            refine lv_iconst (v := nI 3) hx hb dX4_decides_14 (by decide) ?_
            refine lv_icmp_ge (tgt := 51) hx hb dX4_decides_15 (by decide) (fun c64 => absurd c64 (by decide)) (fun _ => ?_)
            refine lv_aload_n hx hb dX4_decides_18 rfl (lv_at hl 2 rfl) ?_
            refine lv_iload_n hx hb dX4_decides_19 rfl (lv_at hl 3 rfl) ?_
            refine vp_callSi (W.runV (As := [.int (nI j3)]) (rest := []) ⟨hx, hb, hml, hown, hts⟩ (k_X4_isOpen l D y q S gp gs kn ln sv pd j3 (hI.how j3 (by omega)) (by omega)) (cwV 1 hts gX4_decides_X4_isOpen rfl rfl rfl hd_X4_isOpen ⟨Nat.le_of_ble_eq_true rfl, Nat.le_of_ble_eq_true rfl⟩) ⟨pm_ro_blind, va_recv hK hP (ci := 4) (q0 := 0) rfl rfl, pm_ro_pre hP hK⟩ rfl rfl hl.1 rfl (lv_room (Nat.le_of_ble_eq_true rfl)) dX4_decides_20 ⟨Nat.le_of_ble_eq_true rfl, Nat.le_of_ble_eq_true rfl⟩) (fun r65 h66 => ?_)
            rcases (show ((S 0 j3 = 0) ∧ r65 = nI 1) ∨ (¬ (S 0 j3 = 0) ∧ r65 = nI 0) from h66) with ⟨hp67, rfl⟩ | ⟨hp67, rfl⟩
            · skip
              refine lv_if_eq (tgt := 51) hx hb dX4_decides_23 (by decide) (fun c68 => absurd c68 (by decide)) (fun _ => ?_)
              refine lv_iload_n hx hb dX4_decides_26 rfl (lv_at hl 1 rfl) ?_
              refine lv_aload_n hx hb dX4_decides_27 rfl (lv_at hl 2 rfl) ?_
              refine lv_iload_n hx hb dX4_decides_28 rfl (lv_at hl 0 rfl) ?_
              refine lv_iload_n hx hb dX4_decides_29 rfl (lv_at hl 3 rfl) ?_
              refine va_calli (va_runV (As := [.int (nI 2), .int (nI j3)]) (rest := [.int (nI (pm_ds S j3 2))]) ⟨hx, hb, hml, hown, hts⟩ (k_X4_matters l D y q S gp gs kn ln sv pd 2 j3 hI (by assumption) (by omega) (by omega)) (cwV 2 hts gX4_decides_X4_matters rfl rfl rfl hd_X4_matters ⟨Nat.le_of_ble_eq_true rfl, Nat.le_of_ble_eq_true rfl⟩) ⟨pm_wr_blind, va_recv hK hP (ci := 4) (q0 := 0) rfl rfl, pm_wr_pre hP hK hD⟩ rfl rfl hl.1 rfl (lv_room (Nat.le_of_ble_eq_true rfl)) dX4_decides_30 ⟨Nat.le_of_ble_eq_true rfl, Nat.le_of_ble_eq_true rfl⟩) hS (fun q _ h9 => (pm_ad_all hD) q h9) (pm_ad_all hD) (fun r69 u75 t71 H1 locs ht72 _ h70 hB73 _ hk74 hS => ?_)
              obtain ⟨hP, hD⟩ := pm_all (D := D) (cl := vwCl) (H1 := H1) hD (w' := pm_mo y q S gp gs kn ln sv pd) (by rw [← ht72]; exact hB73) rfl
              generalize H1 = H at hP hS ⊢
              rcases (show ((pm_mc (S 9 0) (S 4 j3) 2 3 = true) ∧ r69 = nI 1) ∨ (¬ (pm_mc (S 9 0) (S 4 j3) 2 3 = true) ∧ r69 = nI 0) from h70) with ⟨hp76, rfl⟩ | ⟨hp76, rfl⟩
              · skip
                refine lv_if_eq (tgt := 42) hx hb dX4_decides_33 (by decide) (fun c77 => absurd c77 (by decide)) (fun _ => ?_)
                refine lv_iconst (v := nI 1) hx hb dX4_decides_36 (by decide) ?_
                refine lv_iload_n hx hb dX4_decides_37 rfl (lv_at hl 0 rfl) ?_
                refine lv_ishl hx hb dX4_decides_38 ?_
                refine lv_goto (tgt := 43) hx hb dX4_decides_39 (by decide) ?_
                refine lv_ior hx hb dX4_decides_43 ?_
                refine lv_topi (fun x78 e79 => ?_)
                obtain rfl : x78 = nI (pm_ds S j3 3) := e79.trans ((by first | exact pm_dso_p (n := 2) (by decide) (by assumption) (by assumption) | exact pm_dso_n (n := 2) (by decide) (fun z => absurd z.2 (by assumption))))
                refine lv_istore_n (lv' := [(2, .int (nI (pm_ds S j3 3))), (3, .int (nI 2)), (0, .ref (q 0)), (1, .int (nI j3))]) hx hb dX4_decides_44 rfl hl (by decide) rfl (fun ls hl => ?_)
                refine lv_iinc (v := nI 3) (lv' := [(3, .int (nI 3)), (2, .int (nI (pm_ds S j3 3))), (0, .ref (q 0)), (1, .int (nI j3))]) hx hb dX4_decides_45 hl (k := 1) rfl (by decide) (by decide) rfl (fun ls hl => ?_)
                refine lv_goto (tgt := 13) hx hb dX4_decides_48 (by decide) ?_
                refine lv_iload_n hx hb dX4_decides_13 rfl (lv_at hl 0 rfl) ?_
                refine lv_iconst (v := nI 3) hx hb dX4_decides_14 (by decide) ?_
                refine lv_icmp_ge (tgt := 51) hx hb dX4_decides_15 (by decide) (fun _ => ?_) (fun c80 => (c80 (by decide)).elim)
                refine lv_iload_n hx hb dX4_decides_51 rfl (lv_at hl 1 rfl) ?_
                exact W.iret hx hb hr (fun t ht _ => ⟨⟨_, (), rfl, (by simp only [pm_dec, pm_ix_in hj3 (show (30 : Nat) < 2 ^ 31 by decide)] <;> (first | rfl | rw [pm_ds_0 (by assumption), pm_ds_0 (by assumption)] | (exfalso; omega))), (by show va_P D vwCl (pm_mo y q S gp gs kn ln sv pd) t.heap; rw [ht]; exact hP)⟩, hS.F ht⟩) hS.2.2 dX4_decides_52
              · skip
                refine lv_if_eq (tgt := 42) hx hb dX4_decides_33 (by decide) (fun _ => ?_) (fun c81 => (c81 (by decide)).elim)
                refine lv_iconst (v := nI 0) hx hb dX4_decides_42 (by decide) ?_
                refine lv_ior hx hb dX4_decides_43 ?_
                refine lv_topi (fun x82 e83 => ?_)
                obtain rfl : x82 = nI (pm_ds S j3 3) := e83.trans ((by first | exact pm_dso_p (n := 2) (by decide) (by assumption) (by assumption) | exact pm_dso_n (n := 2) (by decide) (fun z => absurd z.2 (by assumption))))
                refine lv_istore_n (lv' := [(2, .int (nI (pm_ds S j3 3))), (3, .int (nI 2)), (0, .ref (q 0)), (1, .int (nI j3))]) hx hb dX4_decides_44 rfl hl (by decide) rfl (fun ls hl => ?_)
                refine lv_iinc (v := nI 3) (lv' := [(3, .int (nI 3)), (2, .int (nI (pm_ds S j3 3))), (0, .ref (q 0)), (1, .int (nI j3))]) hx hb dX4_decides_45 hl (k := 1) rfl (by decide) (by decide) rfl (fun ls hl => ?_)
                refine lv_goto (tgt := 13) hx hb dX4_decides_48 (by decide) ?_
                refine lv_iload_n hx hb dX4_decides_13 rfl (lv_at hl 0 rfl) ?_
                refine lv_iconst (v := nI 3) hx hb dX4_decides_14 (by decide) ?_
                refine lv_icmp_ge (tgt := 51) hx hb dX4_decides_15 (by decide) (fun _ => ?_) (fun c84 => (c84 (by decide)).elim)
                refine lv_iload_n hx hb dX4_decides_51 rfl (lv_at hl 1 rfl) ?_
                exact W.iret hx hb hr (fun t ht _ => ⟨⟨_, (), rfl, (by simp only [pm_dec, pm_ix_in hj3 (show (30 : Nat) < 2 ^ 31 by decide)] <;> (first | rfl | rw [pm_ds_0 (by assumption), pm_ds_0 (by assumption)] | (exfalso; omega))), (by show va_P D vwCl (pm_mo y q S gp gs kn ln sv pd) t.heap; rw [ht]; exact hP)⟩, hS.F ht⟩) hS.2.2 dX4_decides_52
            · skip
              refine lv_if_eq (tgt := 51) hx hb dX4_decides_23 (by decide) (fun _ => ?_) (fun c85 => (c85 (by decide)).elim)
              refine lv_iload_n hx hb dX4_decides_51 rfl (lv_at hl 1 rfl) ?_
              exact W.iret hx hb hr (fun t ht _ => ⟨⟨_, (), rfl, (by simp only [pm_dec, pm_ix_in hj3 (show (30 : Nat) < 2 ^ 31 by decide)] <;> (first | rfl | rw [pm_ds_0 (by assumption), pm_ds_0 (by assumption)] | (exfalso; omega))), (by show va_P D vwCl (pm_mo y q S gp gs kn ln sv pd) t.heap; rw [ht]; exact hP)⟩, hS.F ht⟩) hS.2.2 dX4_decides_52
        · skip
          refine lv_if_eq (tgt := 51) hx hb dX4_decides_23 (by decide) (fun _ => ?_) (fun c86 => (c86 (by decide)).elim)
          refine lv_iload_n hx hb dX4_decides_51 rfl (lv_at hl 1 rfl) ?_
          exact W.iret hx hb hr (fun t ht _ => ⟨⟨_, (), rfl, (by simp only [pm_dec, pm_ix_in hj3 (show (30 : Nat) < 2 ^ 31 by decide)] <;> (first | rfl | rw [pm_ds_0 (by assumption), pm_ds_0 (by assumption)] | (exfalso; omega))), (by show va_P D vwCl (pm_mo y q S gp gs kn ln sv pd) t.heap; rw [ht]; exact hP)⟩, hS.F ht⟩) hS.2.2 dX4_decides_52
      · skip
        refine lv_if_eq (tgt := 42) hx hb dX4_decides_33 (by decide) (fun _ => ?_) (fun c87 => (c87 (by decide)).elim)
        refine lv_iconst (v := nI 0) hx hb dX4_decides_42 (by decide) ?_
        refine lv_ior hx hb dX4_decides_43 ?_
        refine lv_topi (fun x88 e89 => ?_)
        obtain rfl : x88 = nI (pm_ds S j3 1) := e89.trans ((by first | exact pm_dso_p (n := 0) (by decide) (by assumption) (by assumption) | exact pm_dso_n (n := 0) (by decide) (fun z => absurd z.2 (by assumption))))
        refine lv_istore_n (lv' := [(2, .int (nI (pm_ds S j3 1))), (3, .int (nI 0)), (0, .ref (q 0)), (1, .int (nI j3))]) hx hb dX4_decides_44 rfl hl (by decide) rfl (fun ls hl => ?_)
        refine lv_iinc (v := nI 1) (lv' := [(3, .int (nI 1)), (2, .int (nI (pm_ds S j3 1))), (0, .ref (q 0)), (1, .int (nI j3))]) hx hb dX4_decides_45 hl (k := 1) rfl (by decide) (by decide) rfl (fun ls hl => ?_)
        refine lv_goto (tgt := 13) hx hb dX4_decides_48 (by decide) ?_
        refine lv_iload_n hx hb dX4_decides_13 rfl (lv_at hl 0 rfl) ?_
        refine lv_iconst (v := nI 3) hx hb dX4_decides_14 (by decide) ?_
        refine lv_icmp_ge (tgt := 51) hx hb dX4_decides_15 (by decide) (fun c90 => absurd c90 (by decide)) (fun _ => ?_)
        refine lv_aload_n hx hb dX4_decides_18 rfl (lv_at hl 2 rfl) ?_
        refine lv_iload_n hx hb dX4_decides_19 rfl (lv_at hl 3 rfl) ?_
        refine vp_callSi (W.runV (As := [.int (nI j3)]) (rest := []) ⟨hx, hb, hml, hown, hts⟩ (k_X4_isOpen l D y q S gp gs kn ln sv pd j3 (hI.how j3 (by omega)) (by omega)) (cwV 1 hts gX4_decides_X4_isOpen rfl rfl rfl hd_X4_isOpen ⟨Nat.le_of_ble_eq_true rfl, Nat.le_of_ble_eq_true rfl⟩) ⟨pm_ro_blind, va_recv hK hP (ci := 4) (q0 := 0) rfl rfl, pm_ro_pre hP hK⟩ rfl rfl hl.1 rfl (lv_room (Nat.le_of_ble_eq_true rfl)) dX4_decides_20 ⟨Nat.le_of_ble_eq_true rfl, Nat.le_of_ble_eq_true rfl⟩) (fun r91 h92 => ?_)
        rcases (show ((S 0 j3 = 0) ∧ r91 = nI 1) ∨ (¬ (S 0 j3 = 0) ∧ r91 = nI 0) from h92) with ⟨hp93, rfl⟩ | ⟨hp93, rfl⟩
        · skip
          refine lv_if_eq (tgt := 51) hx hb dX4_decides_23 (by decide) (fun c94 => absurd c94 (by decide)) (fun _ => ?_)
          refine lv_iload_n hx hb dX4_decides_26 rfl (lv_at hl 1 rfl) ?_
          refine lv_aload_n hx hb dX4_decides_27 rfl (lv_at hl 2 rfl) ?_
          refine lv_iload_n hx hb dX4_decides_28 rfl (lv_at hl 0 rfl) ?_
          refine lv_iload_n hx hb dX4_decides_29 rfl (lv_at hl 3 rfl) ?_
          refine va_calli (va_runV (As := [.int (nI 1), .int (nI j3)]) (rest := [.int (nI (pm_ds S j3 1))]) ⟨hx, hb, hml, hown, hts⟩ (k_X4_matters l D y q S gp gs kn ln sv pd 1 j3 hI (by assumption) (by omega) (by omega)) (cwV 2 hts gX4_decides_X4_matters rfl rfl rfl hd_X4_matters ⟨Nat.le_of_ble_eq_true rfl, Nat.le_of_ble_eq_true rfl⟩) ⟨pm_wr_blind, va_recv hK hP (ci := 4) (q0 := 0) rfl rfl, pm_wr_pre hP hK hD⟩ rfl rfl hl.1 rfl (lv_room (Nat.le_of_ble_eq_true rfl)) dX4_decides_30 ⟨Nat.le_of_ble_eq_true rfl, Nat.le_of_ble_eq_true rfl⟩) hS (fun q _ h9 => (pm_ad_all hD) q h9) (pm_ad_all hD) (fun r95 u101 t97 H1 locs ht98 _ h96 hB99 _ hk100 hS => ?_)
          obtain ⟨hP, hD⟩ := pm_all (D := D) (cl := vwCl) (H1 := H1) hD (w' := pm_mo y q S gp gs kn ln sv pd) (by rw [← ht98]; exact hB99) rfl
          generalize H1 = H at hP hS ⊢
          rcases (show ((pm_mc (S 9 0) (S 4 j3) 1 3 = true) ∧ r95 = nI 1) ∨ (¬ (pm_mc (S 9 0) (S 4 j3) 1 3 = true) ∧ r95 = nI 0) from h96) with ⟨hp102, rfl⟩ | ⟨hp102, rfl⟩
          · skip
            refine lv_if_eq (tgt := 42) hx hb dX4_decides_33 (by decide) (fun c103 => absurd c103 (by decide)) (fun _ => ?_)
            refine lv_iconst (v := nI 1) hx hb dX4_decides_36 (by decide) ?_
            refine lv_iload_n hx hb dX4_decides_37 rfl (lv_at hl 0 rfl) ?_
            refine lv_ishl hx hb dX4_decides_38 ?_
            refine lv_goto (tgt := 43) hx hb dX4_decides_39 (by decide) ?_
            refine lv_ior hx hb dX4_decides_43 ?_
            refine lv_topi (fun x104 e105 => ?_)
            obtain rfl : x104 = nI (pm_ds S j3 2) := e105.trans ((by first | exact pm_dso_p (n := 1) (by decide) (by assumption) (by assumption) | exact pm_dso_n (n := 1) (by decide) (fun z => absurd z.2 (by assumption))))
            refine lv_istore_n (lv' := [(2, .int (nI (pm_ds S j3 2))), (3, .int (nI 1)), (0, .ref (q 0)), (1, .int (nI j3))]) hx hb dX4_decides_44 rfl hl (by decide) rfl (fun ls hl => ?_)
            refine lv_iinc (v := nI 2) (lv' := [(3, .int (nI 2)), (2, .int (nI (pm_ds S j3 2))), (0, .ref (q 0)), (1, .int (nI j3))]) hx hb dX4_decides_45 hl (k := 1) rfl (by decide) (by decide) rfl (fun ls hl => ?_)
            refine lv_goto (tgt := 13) hx hb dX4_decides_48 (by decide) ?_
            refine lv_iload_n hx hb dX4_decides_13 rfl (lv_at hl 0 rfl) ?_
            refine lv_iconst (v := nI 3) hx hb dX4_decides_14 (by decide) ?_
            refine lv_icmp_ge (tgt := 51) hx hb dX4_decides_15 (by decide) (fun c106 => absurd c106 (by decide)) (fun _ => ?_)
            refine lv_aload_n hx hb dX4_decides_18 rfl (lv_at hl 2 rfl) ?_
            refine lv_iload_n hx hb dX4_decides_19 rfl (lv_at hl 3 rfl) ?_
            refine vp_callSi (W.runV (As := [.int (nI j3)]) (rest := []) ⟨hx, hb, hml, hown, hts⟩ (k_X4_isOpen l D y q S gp gs kn ln sv pd j3 (hI.how j3 (by omega)) (by omega)) (cwV 1 hts gX4_decides_X4_isOpen rfl rfl rfl hd_X4_isOpen ⟨Nat.le_of_ble_eq_true rfl, Nat.le_of_ble_eq_true rfl⟩) ⟨pm_ro_blind, va_recv hK hP (ci := 4) (q0 := 0) rfl rfl, pm_ro_pre hP hK⟩ rfl rfl hl.1 rfl (lv_room (Nat.le_of_ble_eq_true rfl)) dX4_decides_20 ⟨Nat.le_of_ble_eq_true rfl, Nat.le_of_ble_eq_true rfl⟩) (fun r107 h108 => ?_)
            rcases (show ((S 0 j3 = 0) ∧ r107 = nI 1) ∨ (¬ (S 0 j3 = 0) ∧ r107 = nI 0) from h108) with ⟨hp109, rfl⟩ | ⟨hp109, rfl⟩
            · skip
              refine lv_if_eq (tgt := 51) hx hb dX4_decides_23 (by decide) (fun c110 => absurd c110 (by decide)) (fun _ => ?_)
              refine lv_iload_n hx hb dX4_decides_26 rfl (lv_at hl 1 rfl) ?_
              refine lv_aload_n hx hb dX4_decides_27 rfl (lv_at hl 2 rfl) ?_
              refine lv_iload_n hx hb dX4_decides_28 rfl (lv_at hl 0 rfl) ?_
              refine lv_iload_n hx hb dX4_decides_29 rfl (lv_at hl 3 rfl) ?_
              refine va_calli (va_runV (As := [.int (nI 2), .int (nI j3)]) (rest := [.int (nI (pm_ds S j3 2))]) ⟨hx, hb, hml, hown, hts⟩ (k_X4_matters l D y q S gp gs kn ln sv pd 2 j3 hI (by assumption) (by omega) (by omega)) (cwV 2 hts gX4_decides_X4_matters rfl rfl rfl hd_X4_matters ⟨Nat.le_of_ble_eq_true rfl, Nat.le_of_ble_eq_true rfl⟩) ⟨pm_wr_blind, va_recv hK hP (ci := 4) (q0 := 0) rfl rfl, pm_wr_pre hP hK hD⟩ rfl rfl hl.1 rfl (lv_room (Nat.le_of_ble_eq_true rfl)) dX4_decides_30 ⟨Nat.le_of_ble_eq_true rfl, Nat.le_of_ble_eq_true rfl⟩) hS (fun q _ h9 => (pm_ad_all hD) q h9) (pm_ad_all hD) (fun r111 u117 t113 H1 locs ht114 _ h112 hB115 _ hk116 hS => ?_)
              obtain ⟨hP, hD⟩ := pm_all (D := D) (cl := vwCl) (H1 := H1) hD (w' := pm_mo y q S gp gs kn ln sv pd) (by rw [← ht114]; exact hB115) rfl
              generalize H1 = H at hP hS ⊢
              rcases (show ((pm_mc (S 9 0) (S 4 j3) 2 3 = true) ∧ r111 = nI 1) ∨ (¬ (pm_mc (S 9 0) (S 4 j3) 2 3 = true) ∧ r111 = nI 0) from h112) with ⟨hp118, rfl⟩ | ⟨hp118, rfl⟩
              · skip
                refine lv_if_eq (tgt := 42) hx hb dX4_decides_33 (by decide) (fun c119 => absurd c119 (by decide)) (fun _ => ?_)
                refine lv_iconst (v := nI 1) hx hb dX4_decides_36 (by decide) ?_
                refine lv_iload_n hx hb dX4_decides_37 rfl (lv_at hl 0 rfl) ?_
                refine lv_ishl hx hb dX4_decides_38 ?_
                refine lv_goto (tgt := 43) hx hb dX4_decides_39 (by decide) ?_
                refine lv_ior hx hb dX4_decides_43 ?_
                refine lv_topi (fun x120 e121 => ?_)
                obtain rfl : x120 = nI (pm_ds S j3 3) := e121.trans ((by first | exact pm_dso_p (n := 2) (by decide) (by assumption) (by assumption) | exact pm_dso_n (n := 2) (by decide) (fun z => absurd z.2 (by assumption))))
                refine lv_istore_n (lv' := [(2, .int (nI (pm_ds S j3 3))), (3, .int (nI 2)), (0, .ref (q 0)), (1, .int (nI j3))]) hx hb dX4_decides_44 rfl hl (by decide) rfl (fun ls hl => ?_)
                refine lv_iinc (v := nI 3) (lv' := [(3, .int (nI 3)), (2, .int (nI (pm_ds S j3 3))), (0, .ref (q 0)), (1, .int (nI j3))]) hx hb dX4_decides_45 hl (k := 1) rfl (by decide) (by decide) rfl (fun ls hl => ?_)
                refine lv_goto (tgt := 13) hx hb dX4_decides_48 (by decide) ?_
                refine lv_iload_n hx hb dX4_decides_13 rfl (lv_at hl 0 rfl) ?_
                refine lv_iconst (v := nI 3) hx hb dX4_decides_14 (by decide) ?_
                refine lv_icmp_ge (tgt := 51) hx hb dX4_decides_15 (by decide) (fun _ => ?_) (fun c122 => (c122 (by decide)).elim)
                refine lv_iload_n hx hb dX4_decides_51 rfl (lv_at hl 1 rfl) ?_
                exact W.iret hx hb hr (fun t ht _ => ⟨⟨_, (), rfl, (by simp only [pm_dec, pm_ix_in hj3 (show (30 : Nat) < 2 ^ 31 by decide)] <;> (first | rfl | rw [pm_ds_0 (by assumption), pm_ds_0 (by assumption)] | (exfalso; omega))), (by show va_P D vwCl (pm_mo y q S gp gs kn ln sv pd) t.heap; rw [ht]; exact hP)⟩, hS.F ht⟩) hS.2.2 dX4_decides_52
              · skip
                refine lv_if_eq (tgt := 42) hx hb dX4_decides_33 (by decide) (fun _ => ?_) (fun c123 => (c123 (by decide)).elim)
                refine lv_iconst (v := nI 0) hx hb dX4_decides_42 (by decide) ?_
                refine lv_ior hx hb dX4_decides_43 ?_
                refine lv_topi (fun x124 e125 => ?_)
                obtain rfl : x124 = nI (pm_ds S j3 3) := e125.trans ((by first | exact pm_dso_p (n := 2) (by decide) (by assumption) (by assumption) | exact pm_dso_n (n := 2) (by decide) (fun z => absurd z.2 (by assumption))))
                refine lv_istore_n (lv' := [(2, .int (nI (pm_ds S j3 3))), (3, .int (nI 2)), (0, .ref (q 0)), (1, .int (nI j3))]) hx hb dX4_decides_44 rfl hl (by decide) rfl (fun ls hl => ?_)
                refine lv_iinc (v := nI 3) (lv' := [(3, .int (nI 3)), (2, .int (nI (pm_ds S j3 3))), (0, .ref (q 0)), (1, .int (nI j3))]) hx hb dX4_decides_45 hl (k := 1) rfl (by decide) (by decide) rfl (fun ls hl => ?_)
                refine lv_goto (tgt := 13) hx hb dX4_decides_48 (by decide) ?_
                refine lv_iload_n hx hb dX4_decides_13 rfl (lv_at hl 0 rfl) ?_
                refine lv_iconst (v := nI 3) hx hb dX4_decides_14 (by decide) ?_
                refine lv_icmp_ge (tgt := 51) hx hb dX4_decides_15 (by decide) (fun _ => ?_) (fun c126 => (c126 (by decide)).elim)
                refine lv_iload_n hx hb dX4_decides_51 rfl (lv_at hl 1 rfl) ?_
                exact W.iret hx hb hr (fun t ht _ => ⟨⟨_, (), rfl, (by simp only [pm_dec, pm_ix_in hj3 (show (30 : Nat) < 2 ^ 31 by decide)] <;> (first | rfl | rw [pm_ds_0 (by assumption), pm_ds_0 (by assumption)] | (exfalso; omega))), (by show va_P D vwCl (pm_mo y q S gp gs kn ln sv pd) t.heap; rw [ht]; exact hP)⟩, hS.F ht⟩) hS.2.2 dX4_decides_52
            · skip
              refine lv_if_eq (tgt := 51) hx hb dX4_decides_23 (by decide) (fun _ => ?_) (fun c127 => (c127 (by decide)).elim)
              refine lv_iload_n hx hb dX4_decides_51 rfl (lv_at hl 1 rfl) ?_
              exact W.iret hx hb hr (fun t ht _ => ⟨⟨_, (), rfl, (by simp only [pm_dec, pm_ix_in hj3 (show (30 : Nat) < 2 ^ 31 by decide)] <;> (first | rfl | rw [pm_ds_0 (by assumption), pm_ds_0 (by assumption)] | (exfalso; omega))), (by show va_P D vwCl (pm_mo y q S gp gs kn ln sv pd) t.heap; rw [ht]; exact hP)⟩, hS.F ht⟩) hS.2.2 dX4_decides_52
          · skip
            refine lv_if_eq (tgt := 42) hx hb dX4_decides_33 (by decide) (fun _ => ?_) (fun c128 => (c128 (by decide)).elim)
            refine lv_iconst (v := nI 0) hx hb dX4_decides_42 (by decide) ?_
            refine lv_ior hx hb dX4_decides_43 ?_
            refine lv_topi (fun x129 e130 => ?_)
            obtain rfl : x129 = nI (pm_ds S j3 2) := e130.trans ((by first | exact pm_dso_p (n := 1) (by decide) (by assumption) (by assumption) | exact pm_dso_n (n := 1) (by decide) (fun z => absurd z.2 (by assumption))))
            refine lv_istore_n (lv' := [(2, .int (nI (pm_ds S j3 2))), (3, .int (nI 1)), (0, .ref (q 0)), (1, .int (nI j3))]) hx hb dX4_decides_44 rfl hl (by decide) rfl (fun ls hl => ?_)
            refine lv_iinc (v := nI 2) (lv' := [(3, .int (nI 2)), (2, .int (nI (pm_ds S j3 2))), (0, .ref (q 0)), (1, .int (nI j3))]) hx hb dX4_decides_45 hl (k := 1) rfl (by decide) (by decide) rfl (fun ls hl => ?_)
            refine lv_goto (tgt := 13) hx hb dX4_decides_48 (by decide) ?_
            refine lv_iload_n hx hb dX4_decides_13 rfl (lv_at hl 0 rfl) ?_
            refine lv_iconst (v := nI 3) hx hb dX4_decides_14 (by decide) ?_
            refine lv_icmp_ge (tgt := 51) hx hb dX4_decides_15 (by decide) (fun c131 => absurd c131 (by decide)) (fun _ => ?_)
            refine lv_aload_n hx hb dX4_decides_18 rfl (lv_at hl 2 rfl) ?_
            refine lv_iload_n hx hb dX4_decides_19 rfl (lv_at hl 3 rfl) ?_
            refine vp_callSi (W.runV (As := [.int (nI j3)]) (rest := []) ⟨hx, hb, hml, hown, hts⟩ (k_X4_isOpen l D y q S gp gs kn ln sv pd j3 (hI.how j3 (by omega)) (by omega)) (cwV 1 hts gX4_decides_X4_isOpen rfl rfl rfl hd_X4_isOpen ⟨Nat.le_of_ble_eq_true rfl, Nat.le_of_ble_eq_true rfl⟩) ⟨pm_ro_blind, va_recv hK hP (ci := 4) (q0 := 0) rfl rfl, pm_ro_pre hP hK⟩ rfl rfl hl.1 rfl (lv_room (Nat.le_of_ble_eq_true rfl)) dX4_decides_20 ⟨Nat.le_of_ble_eq_true rfl, Nat.le_of_ble_eq_true rfl⟩) (fun r132 h133 => ?_)
            rcases (show ((S 0 j3 = 0) ∧ r132 = nI 1) ∨ (¬ (S 0 j3 = 0) ∧ r132 = nI 0) from h133) with ⟨hp134, rfl⟩ | ⟨hp134, rfl⟩
            · skip
              refine lv_if_eq (tgt := 51) hx hb dX4_decides_23 (by decide) (fun c135 => absurd c135 (by decide)) (fun _ => ?_)
              refine lv_iload_n hx hb dX4_decides_26 rfl (lv_at hl 1 rfl) ?_
              refine lv_aload_n hx hb dX4_decides_27 rfl (lv_at hl 2 rfl) ?_
              refine lv_iload_n hx hb dX4_decides_28 rfl (lv_at hl 0 rfl) ?_
              refine lv_iload_n hx hb dX4_decides_29 rfl (lv_at hl 3 rfl) ?_
              refine va_calli (va_runV (As := [.int (nI 2), .int (nI j3)]) (rest := [.int (nI (pm_ds S j3 2))]) ⟨hx, hb, hml, hown, hts⟩ (k_X4_matters l D y q S gp gs kn ln sv pd 2 j3 hI (by assumption) (by omega) (by omega)) (cwV 2 hts gX4_decides_X4_matters rfl rfl rfl hd_X4_matters ⟨Nat.le_of_ble_eq_true rfl, Nat.le_of_ble_eq_true rfl⟩) ⟨pm_wr_blind, va_recv hK hP (ci := 4) (q0 := 0) rfl rfl, pm_wr_pre hP hK hD⟩ rfl rfl hl.1 rfl (lv_room (Nat.le_of_ble_eq_true rfl)) dX4_decides_30 ⟨Nat.le_of_ble_eq_true rfl, Nat.le_of_ble_eq_true rfl⟩) hS (fun q _ h9 => (pm_ad_all hD) q h9) (pm_ad_all hD) (fun r136 u142 t138 H1 locs ht139 _ h137 hB140 _ hk141 hS => ?_)
              obtain ⟨hP, hD⟩ := pm_all (D := D) (cl := vwCl) (H1 := H1) hD (w' := pm_mo y q S gp gs kn ln sv pd) (by rw [← ht139]; exact hB140) rfl
              generalize H1 = H at hP hS ⊢
              rcases (show ((pm_mc (S 9 0) (S 4 j3) 2 3 = true) ∧ r136 = nI 1) ∨ (¬ (pm_mc (S 9 0) (S 4 j3) 2 3 = true) ∧ r136 = nI 0) from h137) with ⟨hp143, rfl⟩ | ⟨hp143, rfl⟩
              · skip
                refine lv_if_eq (tgt := 42) hx hb dX4_decides_33 (by decide) (fun c144 => absurd c144 (by decide)) (fun _ => ?_)
                refine lv_iconst (v := nI 1) hx hb dX4_decides_36 (by decide) ?_
                refine lv_iload_n hx hb dX4_decides_37 rfl (lv_at hl 0 rfl) ?_
                refine lv_ishl hx hb dX4_decides_38 ?_
                refine lv_goto (tgt := 43) hx hb dX4_decides_39 (by decide) ?_
                refine lv_ior hx hb dX4_decides_43 ?_
                refine lv_topi (fun x145 e146 => ?_)
                obtain rfl : x145 = nI (pm_ds S j3 3) := e146.trans ((by first | exact pm_dso_p (n := 2) (by decide) (by assumption) (by assumption) | exact pm_dso_n (n := 2) (by decide) (fun z => absurd z.2 (by assumption))))
                refine lv_istore_n (lv' := [(2, .int (nI (pm_ds S j3 3))), (3, .int (nI 2)), (0, .ref (q 0)), (1, .int (nI j3))]) hx hb dX4_decides_44 rfl hl (by decide) rfl (fun ls hl => ?_)
                refine lv_iinc (v := nI 3) (lv' := [(3, .int (nI 3)), (2, .int (nI (pm_ds S j3 3))), (0, .ref (q 0)), (1, .int (nI j3))]) hx hb dX4_decides_45 hl (k := 1) rfl (by decide) (by decide) rfl (fun ls hl => ?_)
                refine lv_goto (tgt := 13) hx hb dX4_decides_48 (by decide) ?_
                refine lv_iload_n hx hb dX4_decides_13 rfl (lv_at hl 0 rfl) ?_
                refine lv_iconst (v := nI 3) hx hb dX4_decides_14 (by decide) ?_
                refine lv_icmp_ge (tgt := 51) hx hb dX4_decides_15 (by decide) (fun _ => ?_) (fun c147 => (c147 (by decide)).elim)
                refine lv_iload_n hx hb dX4_decides_51 rfl (lv_at hl 1 rfl) ?_
                exact W.iret hx hb hr (fun t ht _ => ⟨⟨_, (), rfl, (by simp only [pm_dec, pm_ix_in hj3 (show (30 : Nat) < 2 ^ 31 by decide)] <;> (first | rfl | rw [pm_ds_0 (by assumption), pm_ds_0 (by assumption)] | (exfalso; omega))), (by show va_P D vwCl (pm_mo y q S gp gs kn ln sv pd) t.heap; rw [ht]; exact hP)⟩, hS.F ht⟩) hS.2.2 dX4_decides_52
              · skip
                refine lv_if_eq (tgt := 42) hx hb dX4_decides_33 (by decide) (fun _ => ?_) (fun c148 => (c148 (by decide)).elim)
                refine lv_iconst (v := nI 0) hx hb dX4_decides_42 (by decide) ?_
                refine lv_ior hx hb dX4_decides_43 ?_
                refine lv_topi (fun x149 e150 => ?_)
                obtain rfl : x149 = nI (pm_ds S j3 3) := e150.trans ((by first | exact pm_dso_p (n := 2) (by decide) (by assumption) (by assumption) | exact pm_dso_n (n := 2) (by decide) (fun z => absurd z.2 (by assumption))))
                refine lv_istore_n (lv' := [(2, .int (nI (pm_ds S j3 3))), (3, .int (nI 2)), (0, .ref (q 0)), (1, .int (nI j3))]) hx hb dX4_decides_44 rfl hl (by decide) rfl (fun ls hl => ?_)
                refine lv_iinc (v := nI 3) (lv' := [(3, .int (nI 3)), (2, .int (nI (pm_ds S j3 3))), (0, .ref (q 0)), (1, .int (nI j3))]) hx hb dX4_decides_45 hl (k := 1) rfl (by decide) (by decide) rfl (fun ls hl => ?_)
                refine lv_goto (tgt := 13) hx hb dX4_decides_48 (by decide) ?_
                refine lv_iload_n hx hb dX4_decides_13 rfl (lv_at hl 0 rfl) ?_
                refine lv_iconst (v := nI 3) hx hb dX4_decides_14 (by decide) ?_
                refine lv_icmp_ge (tgt := 51) hx hb dX4_decides_15 (by decide) (fun _ => ?_) (fun c151 => (c151 (by decide)).elim)
                refine lv_iload_n hx hb dX4_decides_51 rfl (lv_at hl 1 rfl) ?_
                exact W.iret hx hb hr (fun t ht _ => ⟨⟨_, (), rfl, (by simp only [pm_dec, pm_ix_in hj3 (show (30 : Nat) < 2 ^ 31 by decide)] <;> (first | rfl | rw [pm_ds_0 (by assumption), pm_ds_0 (by assumption)] | (exfalso; omega))), (by show va_P D vwCl (pm_mo y q S gp gs kn ln sv pd) t.heap; rw [ht]; exact hP)⟩, hS.F ht⟩) hS.2.2 dX4_decides_52
            · skip
              refine lv_if_eq (tgt := 51) hx hb dX4_decides_23 (by decide) (fun _ => ?_) (fun c152 => (c152 (by decide)).elim)
              refine lv_iload_n hx hb dX4_decides_51 rfl (lv_at hl 1 rfl) ?_
              exact W.iret hx hb hr (fun t ht _ => ⟨⟨_, (), rfl, (by simp only [pm_dec, pm_ix_in hj3 (show (30 : Nat) < 2 ^ 31 by decide)] <;> (first | rfl | rw [pm_ds_0 (by assumption), pm_ds_0 (by assumption)] | (exfalso; omega))), (by show va_P D vwCl (pm_mo y q S gp gs kn ln sv pd) t.heap; rw [ht]; exact hP)⟩, hS.F ht⟩) hS.2.2 dX4_decides_52
        · skip
          refine lv_if_eq (tgt := 51) hx hb dX4_decides_23 (by decide) (fun _ => ?_) (fun c153 => (c153 (by decide)).elim)
          refine lv_iload_n hx hb dX4_decides_51 rfl (lv_at hl 1 rfl) ?_
          exact W.iret hx hb hr (fun t ht _ => ⟨⟨_, (), rfl, (by simp only [pm_dec, pm_ix_in hj3 (show (30 : Nat) < 2 ^ 31 by decide)] <;> (first | rfl | rw [pm_ds_0 (by assumption), pm_ds_0 (by assumption)] | (exfalso; omega))), (by show va_P D vwCl (pm_mo y q S gp gs kn ln sv pd) t.heap; rw [ht]; exact hP)⟩, hS.F ht⟩) hS.2.2 dX4_decides_52
    · skip
      refine lv_if_eq (tgt := 51) hx hb dX4_decides_23 (by decide) (fun _ => ?_) (fun c154 => (c154 (by decide)).elim)
      refine lv_iload_n hx hb dX4_decides_51 rfl (lv_at hl 1 rfl) ?_
      exact W.iret hx hb hr (fun t ht _ => ⟨⟨_, (), rfl, (by simp only [pm_dec, pm_ix_in hj3 (show (30 : Nat) < 2 ^ 31 by decide)] <;> (first | rfl | rw [pm_ds_0 (by assumption), pm_ds_0 (by assumption)] | (exfalso; omega))), (by show va_P D vwCl (pm_mo y q S gp gs kn ln sv pd) t.heap; rw [ht]; exact hP)⟩, hS.F ht⟩) hS.2.2 dX4_decides_52
  · skip
    refine lv_if_ne (tgt := 9) hx hb dX4_decides_4 (by decide) (fun c155 => (c155 (by decide)).elim) (fun _ => ?_)
    refine lv_iconst (v := -1) hx hb dX4_decides_7 (by decide) ?_
    exact W.iret hx hb hr (fun t ht _ => ⟨⟨_, (), rfl, (by simp only [pm_dec, pm_ix_out hnj3]), (by show va_P D vwCl (pm_mo y q S gp gs kn ln sv pd) t.heap; rw [ht]; exact hP)⟩, hS.F ht⟩) hS.2.2 dX4_decides_8
