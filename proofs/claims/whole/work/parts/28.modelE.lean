set_option maxHeartbeats 4000000 in
set_option maxRecDepth 100000 in
theorem k_X4_sign (l : Launch) (D : va_G) (y : Nat → ClassId) (q : Nat → Nat) (S : Nat → Nat → Nat) (gp gs : Nat → Int32) (kn ln : Nat) (sv pd : Nat → Nat) (p0 : Nat) (hPI : pm_PI pd ln) (hp0 : p0 ≤ 200) : Met l yX4_sign wsX4_sign ({ frames := 0, cells := 0, slots := 0, locals := 0 } : Room) (pm_ro D (pm_ty y) [.ref (q 0), .int (nI p0)] (pm_mo y q S gp gs kn ln sv pd)) (vp_Si (fun r : Int32 => (p0 < ln ∧ r = nI (pd p0)) ∨ (¬ p0 < ln ∧ r = -1))) 0 0 (fun _ => False) := by
  refine Met.ofW (cc := cX4_sign) (maxL := 2) (ret := (some .int)) (by decide) rfl ?_
  intro p e s m args below meth c s₁ B hml hpre
  obtain ⟨rfl, hP, hK⟩ := hpre
  have hx := B.exec
  have hb := B.bytes
  have hr := B.returns
  have hts := atoms_spec (ws := wsX4_sign) B.pre
  have hown : s.vm.findClass RX4 = some m.cls := findClass_of_methodNamed B.named
  have hlocks := B.notSynchronized
  have hin4 : ∀ w ∈ u_ws RX4 TX4 7, w ∈ wsX4_sign := fun w h => List.mem_cons_of_mem _ (List.mem_append_right _ h)
  have hP : va_P D vwCl (pm_mo y q S gp gs kn ln sv pd) s.heap := hP
  have hl := lv_entry ([.ref (q 0), .int (nI p0)]) (n := 2) (Nat.le_of_ble_eq_true rfl)
  rw [lg_entry_eq]
  generalize (lg_sl ([.ref (q 0), .int (nI p0)]) ++ List.replicate (2 - (lg_sl ([.ref (q 0), .int (nI p0)])).length) Slot.unset).toArray = ls at hl ⊢
  have hl : lv_has ls 2 [(0, .ref (q 0)), (1, .int (nI p0))] := hl
  have hln := hPI.1
  refine lv_iload_n hx hb dX4_sign_0 rfl (lv_at hl 1 rfl) ?_
  refine lv_aload_n hx hb dX4_sign_1 rfl (lv_at hl 0 rfl) ?_
  refine va_get (D := D) (ci := 4) (v := .int (nI ln)) (C := RX4) (T := TX4) (N := 7) hx hb hts hin4 hown hK hP 0 rfl rfl 6 (by decide) (hts (.fieldLink RX4 126 "ProofMarksModel" "length" "I") (List.mem_of_getElem? (i := 1) rfl)) (fun _ h9 => h9) rfl dX4_sign_2 ?_
  refine kx_icmp_ge (tgt := 17) hx hb (by omega) (by omega) dX4_sign_5 (by decide) (fun c1 => ?_) (fun c1 => ?_)
  · skip
    refine lv_iconst (v := -1) hx hb dX4_sign_17 (by decide) ?_
    exact W.iret hx hb hr (fun t ht _ => ⟨_, rfl, (Or.inr ⟨by omega, rfl⟩), ht⟩) (fun _ h => absurd h List.not_mem_nil) dX4_sign_18
  · skip
    refine lv_aload_n hx hb dX4_sign_8 rfl (lv_at hl 0 rfl) ?_
    refine va_get (D := D) (ci := 4) (v := .ref (q 5)) (C := RX4) (T := TX4) (N := 7) hx hb hts hin4 hown hK hP 0 rfl rfl 5 (by decide) (hts (.fieldLink RX4 23 "ProofMarksModel" "pad" "[I") (List.mem_of_getElem? (i := 2) rfl)) (fun _ h9 => h9) rfl dX4_sign_9 ?_
    refine lv_iload_n hx hb dX4_sign_12 rfl (lv_at hl 1 rfl) ?_
    refine kx_iald (v := nI (pd p0)) hx hb hK hP 5 0 rfl rfl (by omega) (by decide) rfl dX4_sign_13 ?_
    refine lv_goto (tgt := 18) hx hb dX4_sign_14 (by decide) ?_
    exact W.iret hx hb hr (fun t ht _ => ⟨_, rfl, (Or.inl ⟨by omega, rfl⟩), ht⟩) (fun _ h => absurd h List.not_mem_nil) dX4_sign_18

set_option maxHeartbeats 4000000 in
set_option maxRecDepth 100000 in
theorem k_X4_digit (l : Launch) (D : va_G) (y : Nat → ClassId) (q : Nat → Nat) (S : Nat → Nat → Nat) (gp gs : Nat → Int32) (kn ln : Nat) (sv pd : Nat → Nat) (p0 : Nat) (hPI : pm_PI pd ln) (hp0 : p0 ≤ 200) : Met l yX4_digit wsX4_digit ({ frames := 1, cells := 0, slots := 0, locals := 22 } : Room) (pm_ro D (pm_ty y) [.ref (q 0), .int (nI p0)] (pm_mo y q S gp gs kn ln sv pd)) (vp_Si (fun r : Int32 => (∃ d, d < 10 ∧ pm_dg pd ln p0 = some d ∧ r = nI d) ∨ (pm_dg pd ln p0 = none ∧ r = -1))) 0 0 (fun _ => False) := by
  refine Met.ofW (cc := cX4_digit) (maxL := 2) (ret := (some .int)) (by decide) rfl ?_
  intro p e s m args below meth c s₁ B hml hpre
  obtain ⟨rfl, hP, hK⟩ := hpre
  have hx := B.exec
  have hb := B.bytes
  have hr := B.returns
  have hts := atoms_spec (ws := wsX4_digit) B.pre
  have hown : s.vm.findClass RX4 = some m.cls := findClass_of_methodNamed B.named
  have hlocks := B.notSynchronized
  have hin4 : ∀ w ∈ u_ws RX4 TX4 7, w ∈ wsX4_digit := fun w h => List.mem_cons_of_mem _ (List.mem_append_right _ h)
  have hP : va_P D vwCl (pm_mo y q S gp gs kn ln sv pd) s.heap := hP
  have hl := lv_entry ([.ref (q 0), .int (nI p0)]) (n := 2) (Nat.le_of_ble_eq_true rfl)
  rw [lg_entry_eq]
  generalize (lg_sl ([.ref (q 0), .int (nI p0)]) ++ List.replicate (2 - (lg_sl ([.ref (q 0), .int (nI p0)])).length) Slot.unset).toArray = ls at hl ⊢
  have hl : lv_has ls 2 [(0, .ref (q 0)), (1, .int (nI p0))] := hl
  have hln := hPI.1
  refine lv_aload_n hx hb dX4_digit_0 rfl (lv_at hl 0 rfl) ?_
  refine lv_iload_n hx hb dX4_digit_1 rfl (lv_at hl 1 rfl) ?_
  refine vp_callSi (W.runV (As := [.int (nI p0)]) (rest := []) ⟨hx, hb, hml, hown, hts⟩ (k_X4_sign l D y q S gp gs kn ln sv pd p0 hPI (by omega)) (cwV 1 hts gX4_digit_X4_sign rfl rfl rfl hd_X4_sign ⟨Nat.le_of_ble_eq_true rfl, Nat.le_of_ble_eq_true rfl⟩) ⟨pm_ro_blind, va_recv hK hP (ci := 4) (q0 := 0) rfl rfl, pm_ro_pre hP hK⟩ rfl rfl hl.1 rfl (lv_room (Nat.le_of_ble_eq_true rfl)) dX4_digit_2 ⟨Nat.le_of_ble_eq_true rfl, Nat.le_of_ble_eq_true rfl⟩) (fun r1 h2 => ?_)
  rcases h2 with ⟨hs3, rfl⟩ | ⟨hs3, rfl⟩
  · have := hPI.2 p0 (by omega)
    refine lv_bipush (v := nI 48) hx hb dX4_digit_5 (by decide) ?_
    refine lv_bipush (v := nI 57) hx hb dX4_digit_7 (by decide) ?_
    refine vp_callSi (W.runS (As := [.int (nI (pd p0)), .int (nI 48), .int (nI 57)]) (rest := []) ⟨hx, hb, hml, hown, hts⟩ (k_X4_in l (nI (pd p0)) (nI 48) (nI 57)) (va_cwS 3 hts gX4_digit_X4_in rfl rfl rfl hd_X4_in ⟨Nat.le_of_ble_eq_true rfl, Nat.le_of_ble_eq_true rfl⟩) ⟨pm_no_blind, pm_no_pre⟩ rfl rfl hl.1 rfl (lv_room (Nat.le_of_ble_eq_true rfl)) dX4_digit_9 ⟨Nat.le_of_ble_eq_true rfl, Nat.le_of_ble_eq_true rfl⟩) (fun r4 h5 => ?_)
    rcases (show ((nI 48 ≤ nI (pd p0) ∧ nI (pd p0) ≤ nI 57) ∧ r4 = nI 1) ∨ (¬ (nI 48 ≤ nI (pd p0) ∧ nI (pd p0) ≤ nI 57) ∧ r4 = nI 0) from h5) with ⟨hp6, rfl⟩ | ⟨hp6, rfl⟩
    · replace hp6 := (pm_in_n (by omega) (by decide) (by decide)).mp hp6
      refine lv_if_eq (tgt := 26) hx hb dX4_digit_12 (by decide) (fun c7 => absurd c7 (by decide)) (fun _ => ?_)
      refine lv_aload_n hx hb dX4_digit_15 rfl (lv_at hl 0 rfl) ?_
      refine lv_iload_n hx hb dX4_digit_16 rfl (lv_at hl 1 rfl) ?_
      refine vp_callSi (W.runV (As := [.int (nI p0)]) (rest := []) ⟨hx, hb, hml, hown, hts⟩ (k_X4_sign l D y q S gp gs kn ln sv pd p0 hPI (by omega)) (cwV 1 hts gX4_digit_X4_sign rfl rfl rfl hd_X4_sign ⟨Nat.le_of_ble_eq_true rfl, Nat.le_of_ble_eq_true rfl⟩) ⟨pm_ro_blind, va_recv hK hP (ci := 4) (q0 := 0) rfl rfl, pm_ro_pre hP hK⟩ rfl rfl hl.1 rfl (lv_room (Nat.le_of_ble_eq_true rfl)) dX4_digit_17 ⟨Nat.le_of_ble_eq_true rfl, Nat.le_of_ble_eq_true rfl⟩) (fun r8 h9 => ?_)
      rcases h9 with ⟨hs10, rfl⟩ | ⟨hs10, rfl⟩
      · have := hPI.2 p0 (by omega)
        refine lv_bipush (v := nI 48) hx hb dX4_digit_20 (by decide) ?_
        refine kx_isub hx hb (by omega) dX4_digit_22 ?_
        refine lv_goto (tgt := 27) hx hb dX4_digit_23 (by decide) ?_
        exact W.iret hx hb hr (fun t ht _ => ⟨_, rfl, (Or.inl ⟨_, by omega, pm_dg_t (by omega) (by omega), rfl⟩), ht⟩) (fun _ h => absurd h List.not_mem_nil) dX4_digit_27
      · exfalso; omega
    · replace hp6 := mt (pm_in_n (by omega) (by decide) (by decide)).mpr hp6
      refine lv_if_eq (tgt := 26) hx hb dX4_digit_12 (by decide) (fun _ => ?_) (fun c11 => (c11 (by decide)).elim)
      refine lv_iconst (v := -1) hx hb dX4_digit_26 (by decide) ?_
      exact W.iret hx hb hr (fun t ht _ => ⟨_, rfl, (Or.inr ⟨pm_dg_f (by omega), rfl⟩), ht⟩) (fun _ h => absurd h List.not_mem_nil) dX4_digit_27
  · skip
    refine lv_bipush (v := nI 48) hx hb dX4_digit_5 (by decide) ?_
    refine lv_bipush (v := nI 57) hx hb dX4_digit_7 (by decide) ?_
    refine vp_callSi (W.runS (As := [.int (-1), .int (nI 48), .int (nI 57)]) (rest := []) ⟨hx, hb, hml, hown, hts⟩ (k_X4_in l (-1) (nI 48) (nI 57)) (va_cwS 3 hts gX4_digit_X4_in rfl rfl rfl hd_X4_in ⟨Nat.le_of_ble_eq_true rfl, Nat.le_of_ble_eq_true rfl⟩) ⟨pm_no_blind, pm_no_pre⟩ rfl rfl hl.1 rfl (lv_room (Nat.le_of_ble_eq_true rfl)) dX4_digit_9 ⟨Nat.le_of_ble_eq_true rfl, Nat.le_of_ble_eq_true rfl⟩) (fun r12 h13 => ?_)
    rcases (show ((nI 48 ≤ -1 ∧ -1 ≤ nI 57) ∧ r12 = nI 1) ∨ (¬ (nI 48 ≤ -1 ∧ -1 ≤ nI 57) ∧ r12 = nI 0) from h13) with ⟨hp14, rfl⟩ | ⟨hp14, rfl⟩
    · exact absurd hp14 (by decide)
    · skip
      refine lv_if_eq (tgt := 26) hx hb dX4_digit_12 (by decide) (fun _ => ?_) (fun c15 => (c15 (by decide)).elim)
      refine lv_iconst (v := -1) hx hb dX4_digit_26 (by decide) ?_
      exact W.iret hx hb hr (fun t ht _ => ⟨_, rfl, (Or.inr ⟨pm_dg_f (by omega), rfl⟩), ht⟩) (fun _ h => absurd h List.not_mem_nil) dX4_digit_27

theorem pm_ne_0 {P : Nat → Nat} {ln p : Nat} (h : pm_dg P ln p = none) : pm_ne P ln p = .inr p := by
  unfold pm_ne
  rw [h]
theorem pm_ne_2 {P : Nat → Nat} {ln p d d2 : Nat} (h : pm_dg P ln p = some d) (h0 : 0 < d) (h2 : pm_dg P ln (p + 1) = some d2) : pm_ne P ln p = .inl (p + 2) := by
  unfold pm_ne
  rw [h]
  show (if 0 < d ∧ (pm_dg P ln (p + 1)).isSome = true then _ else _) = _
  rw [h2, if_pos ⟨h0, rfl⟩]
theorem pm_ne_1 {P : Nat → Nat} {ln p d : Nat} (h : pm_dg P ln p = some d) (h0 : d = 0 ∨ pm_dg P ln (p + 1) = none) : pm_ne P ln p = .inl (p + 1) := by
  unfold pm_ne
  rw [h]
  show (if 0 < d ∧ (pm_dg P ln (p + 1)).isSome = true then _ else _) = _
  rw [if_neg]
  rintro ⟨a, b⟩
  rcases h0 with z | z
  · omega
  · rw [z] at b
    exact absurd b (by decide)
theorem pm_de_1 {P : Nat → Nat} {ln p d : Nat} (h : pm_dg P ln p = some d) : pm_de P ln p = .inl (p + 1) := by
  unfold pm_de
  rw [h]
  rfl
theorem pm_de_0 {P : Nat → Nat} {ln p : Nat} (h : pm_dg P ln p = none) : pm_de P ln p = .inr p := by
  unfold pm_de
  rw [h]
  rfl
theorem pm_bh_1 {P : Nat → Nat} {ln c p : Nat} (h : p < ln) (h2 : P p = c) : pm_bh P ln c p = .inl (p + 1) := by rw [pm_bh, if_pos ⟨h, h2⟩]
theorem pm_bh_0 {P : Nat → Nat} {ln c p : Nat} (h : ¬ (p < ln ∧ P p = c)) : pm_bh P ln c p = .inr p := by rw [pm_bh, if_neg h]
set_option maxHeartbeats 4000000 in
set_option maxRecDepth 100000 in
theorem k_X4_numberEnd (l : Launch) (D : va_G) (y : Nat → ClassId) (q : Nat → Nat) (S : Nat → Nat → Nat) (gp gs : Nat → Int32) (kn ln : Nat) (sv pd : Nat → Nat) (w : Nat ⊕ Nat) (hPI : pm_PI pd ln) (hw : pm_sz w ≤ 150) : Met l yX4_numberEnd wsX4_numberEnd ({ frames := 2, cells := 0, slots := 0, locals := 43 } : Room) (pm_ro D (pm_ty y) [.ref (q 0), .int (pm_en w)] (pm_mo y q S gp gs kn ln sv pd)) (vp_Si (fun r : Int32 => r = pm_en (pm_bd w (pm_ne pd ln)))) 0 0 (fun _ => False) := by
  refine Met.ofW (cc := cX4_numberEnd) (maxL := 2) (ret := (some .int)) (by decide) rfl ?_
  intro p e s m args below meth c s₁ B hml hpre
  obtain ⟨rfl, hP, hK⟩ := hpre
  have hx := B.exec
  have hb := B.bytes
  have hr := B.returns
  have hts := atoms_spec (ws := wsX4_numberEnd) B.pre
  have hown : s.vm.findClass RX4 = some m.cls := findClass_of_methodNamed B.named
  have hlocks := B.notSynchronized
  have hin4 : ∀ w ∈ u_ws RX4 TX4 7, w ∈ wsX4_numberEnd := fun w h => List.mem_cons_of_mem _ (List.mem_append_right _ h)
  have hP : va_P D vwCl (pm_mo y q S gp gs kn ln sv pd) s.heap := hP
  have hl := lv_entry ([.ref (q 0), .int (pm_en w)]) (n := 2) (Nat.le_of_ble_eq_true rfl)
  rw [lg_entry_eq]
  generalize (lg_sl ([.ref (q 0), .int (pm_en w)]) ++ List.replicate (2 - (lg_sl ([.ref (q 0), .int (pm_en w)])).length) Slot.unset).toArray = ls at hl ⊢
  have hl : lv_has ls 2 [(0, .ref (q 0)), (1, .int (pm_en w))] := hl
  have hln := hPI.1
  rcases w with p0 | p0
  · have hw9 : p0 ≤ 150 := hw
    have hl : lv_has ls 2 [(0, .ref (q 0)), (1, .int (nI p0))] := hl
    refine lv_iload_n hx hb dX4_numberEnd_0 rfl (lv_at hl 1 rfl) ?_
    refine kx_if_ge (tgt := 6) hx hb (by omega) dX4_numberEnd_1 (by decide) ?_
    refine lv_aload_n hx hb dX4_numberEnd_6 rfl (lv_at hl 0 rfl) ?_
    refine lv_iload_n hx hb dX4_numberEnd_7 rfl (lv_at hl 1 rfl) ?_
    refine vp_callSi (W.runV (As := [.int (nI p0)]) (rest := []) ⟨hx, hb, hml, hown, hts⟩ (k_X4_digit l D y q S gp gs kn ln sv pd p0 hPI (by omega)) (cwV 1 hts gX4_numberEnd_X4_digit rfl rfl rfl hd_X4_digit ⟨Nat.le_of_ble_eq_true rfl, Nat.le_of_ble_eq_true rfl⟩) ⟨pm_ro_blind, va_recv hK hP (ci := 4) (q0 := 0) rfl rfl, pm_ro_pre hP hK⟩ rfl rfl hl.1 rfl (lv_room (Nat.le_of_ble_eq_true rfl)) dX4_numberEnd_8 ⟨Nat.le_of_ble_eq_true rfl, Nat.le_of_ble_eq_true rfl⟩) (fun r1 h2 => ?_)
    rcases h2 with ⟨d3, hd3, ed3, rfl⟩ | ⟨ed3, rfl⟩
    · have := (pm_dg9 ed3).2
      refine kx_if_ge (tgt := 18) hx hb (by omega) dX4_numberEnd_11 (by decide) ?_
      refine lv_aload_n hx hb dX4_numberEnd_18 rfl (lv_at hl 0 rfl) ?_
      refine lv_iload_n hx hb dX4_numberEnd_19 rfl (lv_at hl 1 rfl) ?_
      refine vp_callSi (W.runV (As := [.int (nI p0)]) (rest := []) ⟨hx, hb, hml, hown, hts⟩ (k_X4_digit l D y q S gp gs kn ln sv pd p0 hPI (by omega)) (cwV 1 hts gX4_numberEnd_X4_digit rfl rfl rfl hd_X4_digit ⟨Nat.le_of_ble_eq_true rfl, Nat.le_of_ble_eq_true rfl⟩) ⟨pm_ro_blind, va_recv hK hP (ci := 4) (q0 := 0) rfl rfl, pm_ro_pre hP hK⟩ rfl rfl hl.1 rfl (lv_room (Nat.le_of_ble_eq_true rfl)) dX4_numberEnd_20 ⟨Nat.le_of_ble_eq_true rfl, Nat.le_of_ble_eq_true rfl⟩) (fun r4 h5 => ?_)
      rcases h5 with ⟨d6, hd6, ed6, rfl⟩ | ⟨ed6, rfl⟩
      · have qd6 : d3 = d6 := Option.some.inj (ed3.symm.trans ed6)
        subst qd6
        refine kx_if_le (tgt := 42) hx hb (by omega) dX4_numberEnd_23 (by decide) (fun c7 => ?_) (fun c7 => ?_)
        · skip
          refine lv_iload_n hx hb dX4_numberEnd_42 rfl (lv_at hl 1 rfl) ?_
          refine lv_iconst (v := nI 1) hx hb dX4_numberEnd_43 (by decide) ?_
          refine kx_iadd hx hb dX4_numberEnd_44 ?_
          exact W.iret hx hb hr (fun t ht _ => ⟨_, rfl, (show _ = pm_en (pm_ne pd ln p0) from by first | (rw [pm_ne_0 (by assumption)]; rfl) | (rw [pm_ne_2 (by assumption) (by omega) (by assumption)]; rfl) | (rw [pm_ne_1 (by assumption) (by first | exact Or.inr (by assumption) | exact Or.inl (by omega))]; rfl)), ht⟩) (fun _ h => absurd h List.not_mem_nil) dX4_numberEnd_45
        · skip
          refine lv_aload_n hx hb dX4_numberEnd_26 rfl (lv_at hl 0 rfl) ?_
          refine lv_iload_n hx hb dX4_numberEnd_27 rfl (lv_at hl 1 rfl) ?_
          refine lv_iconst (v := nI 1) hx hb dX4_numberEnd_28 (by decide) ?_
          refine kx_iadd hx hb dX4_numberEnd_29 ?_
          refine vp_callSi (W.runV (As := [.int (nI (p0 + 1))]) (rest := []) ⟨hx, hb, hml, hown, hts⟩ (k_X4_digit l D y q S gp gs kn ln sv pd (p0 + 1) hPI (by omega)) (cwV 1 hts gX4_numberEnd_X4_digit rfl rfl rfl hd_X4_digit ⟨Nat.le_of_ble_eq_true rfl, Nat.le_of_ble_eq_true rfl⟩) ⟨pm_ro_blind, va_recv hK hP (ci := 4) (q0 := 0) rfl rfl, pm_ro_pre hP hK⟩ rfl rfl hl.1 rfl (lv_room (Nat.le_of_ble_eq_true rfl)) dX4_numberEnd_30 ⟨Nat.le_of_ble_eq_true rfl, Nat.le_of_ble_eq_true rfl⟩) (fun r8 h9 => ?_)
          rcases h9 with ⟨d10, hd10, ed10, rfl⟩ | ⟨ed10, rfl⟩
          · have := (pm_dg9 ed10).2
            refine kx_if_lt (tgt := 42) hx hb (by omega) dX4_numberEnd_33 (by decide) ?_
            refine lv_iload_n hx hb dX4_numberEnd_36 rfl (lv_at hl 1 rfl) ?_
            refine lv_iconst (v := nI 2) hx hb dX4_numberEnd_37 (by decide) ?_
            refine kx_iadd hx hb dX4_numberEnd_38 ?_
            refine lv_goto (tgt := 45) hx hb dX4_numberEnd_39 (by decide) ?_
            exact W.iret hx hb hr (fun t ht _ => ⟨_, rfl, (show _ = pm_en (pm_ne pd ln p0) from by first | (rw [pm_ne_0 (by assumption)]; rfl) | (rw [pm_ne_2 (by assumption) (by omega) (by assumption)]; rfl) | (rw [pm_ne_1 (by assumption) (by first | exact Or.inr (by assumption) | exact Or.inl (by omega))]; rfl)), ht⟩) (fun _ h => absurd h List.not_mem_nil) dX4_numberEnd_45
          · skip
            refine lv_if_lt (tgt := 42) hx hb dX4_numberEnd_33 (by decide) (fun _ => ?_) (fun c11 => (c11 (by decide)).elim)
            refine lv_iload_n hx hb dX4_numberEnd_42 rfl (lv_at hl 1 rfl) ?_
            refine lv_iconst (v := nI 1) hx hb dX4_numberEnd_43 (by decide) ?_
            refine kx_iadd hx hb dX4_numberEnd_44 ?_
            exact W.iret hx hb hr (fun t ht _ => ⟨_, rfl, (show _ = pm_en (pm_ne pd ln p0) from by first | (rw [pm_ne_0 (by assumption)]; rfl) | (rw [pm_ne_2 (by assumption) (by omega) (by assumption)]; rfl) | (rw [pm_ne_1 (by assumption) (by first | exact Or.inr (by assumption) | exact Or.inl (by omega))]; rfl)), ht⟩) (fun _ h => absurd h List.not_mem_nil) dX4_numberEnd_45
      · exact absurd (ed6.symm.trans ed3) (by simp)
    · skip
      refine lv_if_ge (tgt := 18) hx hb dX4_numberEnd_11 (by decide) (fun c12 => absurd c12 (by decide)) (fun _ => ?_)
      refine lv_iconst (v := -1) hx hb dX4_numberEnd_14 (by decide) ?_
      refine lv_iload_n hx hb dX4_numberEnd_15 rfl (lv_at hl 1 rfl) ?_
      refine lv_isub hx hb dX4_numberEnd_16 ?_
      exact W.iret hx hb hr (fun t ht _ => ⟨_, rfl, (show _ = pm_en (pm_ne pd ln p0) from by first | (rw [pm_ne_0 (by assumption)]; rfl) | (rw [pm_ne_2 (by assumption) (by omega) (by assumption)]; rfl) | (rw [pm_ne_1 (by assumption) (by first | exact Or.inr (by assumption) | exact Or.inl (by omega))]; rfl)), ht⟩) (fun _ h => absurd h List.not_mem_nil) dX4_numberEnd_17
  · have hw9 : p0 ≤ 150 := hw
    have hl : lv_has ls 2 [(0, .ref (q 0)), (1, .int (pm_ft p0))] := hl
    refine lv_iload_n hx hb dX4_numberEnd_0 rfl (lv_at hl 1 rfl) ?_
    refine lv_if_ge (tgt := 6) hx hb dX4_numberEnd_1 (by decide) (fun c13 => by exfalso; exact absurd (pm_ft_neg (f := p0) (by omega)) (Int32.not_lt.mpr (by assumption))) (fun c13 => ?_)
    refine lv_iload_n hx hb dX4_numberEnd_4 rfl (lv_at hl 1 rfl) ?_
    exact W.iret hx hb hr (fun t ht _ => ⟨_, rfl, rfl, ht⟩) (fun _ h => absurd h List.not_mem_nil) dX4_numberEnd_5

set_option maxHeartbeats 4000000 in
set_option maxRecDepth 100000 in
theorem k_X4_digitEnd (l : Launch) (D : va_G) (y : Nat → ClassId) (q : Nat → Nat) (S : Nat → Nat → Nat) (gp gs : Nat → Int32) (kn ln : Nat) (sv pd : Nat → Nat) (w : Nat ⊕ Nat) (hPI : pm_PI pd ln) (hw : pm_sz w ≤ 150) : Met l yX4_digitEnd wsX4_digitEnd ({ frames := 2, cells := 0, slots := 0, locals := 43 } : Room) (pm_ro D (pm_ty y) [.ref (q 0), .int (pm_en w)] (pm_mo y q S gp gs kn ln sv pd)) (vp_Si (fun r : Int32 => r = pm_en (pm_bd w (pm_de pd ln)))) 0 0 (fun _ => False) := by
  refine Met.ofW (cc := cX4_digitEnd) (maxL := 2) (ret := (some .int)) (by decide) rfl ?_
  intro p e s m args below meth c s₁ B hml hpre
  obtain ⟨rfl, hP, hK⟩ := hpre
  have hx := B.exec
  have hb := B.bytes
  have hr := B.returns
  have hts := atoms_spec (ws := wsX4_digitEnd) B.pre
  have hown : s.vm.findClass RX4 = some m.cls := findClass_of_methodNamed B.named
  have hlocks := B.notSynchronized
  have hin4 : ∀ w ∈ u_ws RX4 TX4 7, w ∈ wsX4_digitEnd := fun w h => List.mem_cons_of_mem _ (List.mem_append_right _ h)
  have hP : va_P D vwCl (pm_mo y q S gp gs kn ln sv pd) s.heap := hP
  have hl := lv_entry ([.ref (q 0), .int (pm_en w)]) (n := 2) (Nat.le_of_ble_eq_true rfl)
  rw [lg_entry_eq]
  generalize (lg_sl ([.ref (q 0), .int (pm_en w)]) ++ List.replicate (2 - (lg_sl ([.ref (q 0), .int (pm_en w)])).length) Slot.unset).toArray = ls at hl ⊢
  have hl : lv_has ls 2 [(0, .ref (q 0)), (1, .int (pm_en w))] := hl
  have hln := hPI.1
  rcases w with p0 | p0
  · have hw9 : p0 ≤ 150 := hw
    have hl : lv_has ls 2 [(0, .ref (q 0)), (1, .int (nI p0))] := hl
    refine lv_iload_n hx hb dX4_digitEnd_0 rfl (lv_at hl 1 rfl) ?_
    refine kx_if_ge (tgt := 8) hx hb (by omega) dX4_digitEnd_1 (by decide) ?_
    refine lv_aload_n hx hb dX4_digitEnd_8 rfl (lv_at hl 0 rfl) ?_
    refine lv_iload_n hx hb dX4_digitEnd_9 rfl (lv_at hl 1 rfl) ?_
    refine vp_callSi (W.runV (As := [.int (nI p0)]) (rest := []) ⟨hx, hb, hml, hown, hts⟩ (k_X4_digit l D y q S gp gs kn ln sv pd p0 hPI (by omega)) (cwV 1 hts gX4_digitEnd_X4_digit rfl rfl rfl hd_X4_digit ⟨Nat.le_of_ble_eq_true rfl, Nat.le_of_ble_eq_true rfl⟩) ⟨pm_ro_blind, va_recv hK hP (ci := 4) (q0 := 0) rfl rfl, pm_ro_pre hP hK⟩ rfl rfl hl.1 rfl (lv_room (Nat.le_of_ble_eq_true rfl)) dX4_digitEnd_10 ⟨Nat.le_of_ble_eq_true rfl, Nat.le_of_ble_eq_true rfl⟩) (fun r1 h2 => ?_)
    rcases h2 with ⟨d3, hd3, ed3, rfl⟩ | ⟨ed3, rfl⟩
    · have := (pm_dg9 ed3).2
      refine kx_if_ge (tgt := 22) hx hb (by omega) dX4_digitEnd_13 (by decide) ?_
      refine lv_iload_n hx hb dX4_digitEnd_22 rfl (lv_at hl 1 rfl) ?_
      refine lv_iconst (v := nI 1) hx hb dX4_digitEnd_23 (by decide) ?_
      refine kx_iadd hx hb dX4_digitEnd_24 ?_
      exact W.iret hx hb hr (fun t ht _ => ⟨_, rfl, (show _ = pm_en (pm_de pd ln p0) from by first | (rw [pm_de_0 (by assumption)]; rfl) | (rw [pm_de_1 (by assumption)]; rfl)), ht⟩) (fun _ h => absurd h List.not_mem_nil) dX4_digitEnd_25
    · skip
      refine lv_if_ge (tgt := 22) hx hb dX4_digitEnd_13 (by decide) (fun c4 => absurd c4 (by decide)) (fun _ => ?_)
      refine lv_iconst (v := -1) hx hb dX4_digitEnd_16 (by decide) ?_
      refine lv_iload_n hx hb dX4_digitEnd_17 rfl (lv_at hl 1 rfl) ?_
      refine lv_isub hx hb dX4_digitEnd_18 ?_
      refine lv_goto (tgt := 25) hx hb dX4_digitEnd_19 (by decide) ?_
      exact W.iret hx hb hr (fun t ht _ => ⟨_, rfl, (show _ = pm_en (pm_de pd ln p0) from by first | (rw [pm_de_0 (by assumption)]; rfl) | (rw [pm_de_1 (by assumption)]; rfl)), ht⟩) (fun _ h => absurd h List.not_mem_nil) dX4_digitEnd_25
  · have hw9 : p0 ≤ 150 := hw
    have hl : lv_has ls 2 [(0, .ref (q 0)), (1, .int (pm_ft p0))] := hl
    refine lv_iload_n hx hb dX4_digitEnd_0 rfl (lv_at hl 1 rfl) ?_
    refine lv_if_ge (tgt := 8) hx hb dX4_digitEnd_1 (by decide) (fun c5 => by exfalso; exact absurd (pm_ft_neg (f := p0) (by omega)) (Int32.not_lt.mpr (by assumption))) (fun c5 => ?_)
    refine lv_iload_n hx hb dX4_digitEnd_4 rfl (lv_at hl 1 rfl) ?_
    refine lv_goto (tgt := 25) hx hb dX4_digitEnd_5 (by decide) ?_
    exact W.iret hx hb hr (fun t ht _ => ⟨_, rfl, rfl, ht⟩) (fun _ h => absurd h List.not_mem_nil) dX4_digitEnd_25

theorem pm_m1ne {c : Nat} (hc : c < 2 ^ 31) : ¬ (-1 : Int32) = nI c := fun z => by
  have a := nI_pos hc
  rw [← z] at a
  exact a (by decide)
set_option maxHeartbeats 4000000 in
set_option maxRecDepth 100000 in
theorem k_X4_behind (l : Launch) (D : va_G) (y : Nat → ClassId) (q : Nat → Nat) (S : Nat → Nat → Nat) (gp gs : Nat → Int32) (kn ln : Nat) (sv pd : Nat → Nat) (w : Nat ⊕ Nat) (c9 : Nat) (hPI : pm_PI pd ln) (hw : pm_sz w ≤ 150) (hc9 : c9 < 128) : Met l yX4_behind wsX4_behind ({ frames := 1, cells := 0, slots := 0, locals := 21 } : Room) (pm_ro D (pm_ty y) [.ref (q 0), .int (pm_en w), .int (nI c9)] (pm_mo y q S gp gs kn ln sv pd)) (vp_Si (fun r : Int32 => r = pm_en (pm_bd w (pm_bh pd ln c9)))) 0 0 (fun _ => False) := by
  refine Met.ofW (cc := cX4_behind) (maxL := 3) (ret := (some .int)) (by decide) rfl ?_
  intro p e s m args below meth c s₁ B hml hpre
  obtain ⟨rfl, hP, hK⟩ := hpre
  have hx := B.exec
  have hb := B.bytes
  have hr := B.returns
  have hts := atoms_spec (ws := wsX4_behind) B.pre
  have hown : s.vm.findClass RX4 = some m.cls := findClass_of_methodNamed B.named
  have hlocks := B.notSynchronized
  have hin4 : ∀ w ∈ u_ws RX4 TX4 7, w ∈ wsX4_behind := fun w h => List.mem_cons_of_mem _ (List.mem_append_right _ h)
  have hP : va_P D vwCl (pm_mo y q S gp gs kn ln sv pd) s.heap := hP
  have hl := lv_entry ([.ref (q 0), .int (pm_en w), .int (nI c9)]) (n := 3) (Nat.le_of_ble_eq_true rfl)
  rw [lg_entry_eq]
  generalize (lg_sl ([.ref (q 0), .int (pm_en w), .int (nI c9)]) ++ List.replicate (3 - (lg_sl ([.ref (q 0), .int (pm_en w), .int (nI c9)])).length) Slot.unset).toArray = ls at hl ⊢
  have hl : lv_has ls 3 [(0, .ref (q 0)), (1, .int (pm_en w)), (2, .int (nI c9))] := hl
  have hln := hPI.1
  rcases w with p0 | p0
  · have hw9 : p0 ≤ 150 := hw
    have hl : lv_has ls 3 [(0, .ref (q 0)), (1, .int (nI p0)), (2, .int (nI c9))] := hl
    refine lv_iload_n hx hb dX4_behind_0 rfl (lv_at hl 1 rfl) ?_
    refine kx_if_ge (tgt := 8) hx hb (by omega) dX4_behind_1 (by decide) ?_
    refine lv_aload_n hx hb dX4_behind_8 rfl (lv_at hl 0 rfl) ?_
    refine lv_iload_n hx hb dX4_behind_9 rfl (lv_at hl 1 rfl) ?_
    refine vp_callSi (W.runV (As := [.int (nI p0)]) (rest := []) ⟨hx, hb, hml, hown, hts⟩ (k_X4_sign l D y q S gp gs kn ln sv pd p0 hPI (by omega)) (cwV 1 hts gX4_behind_X4_sign rfl rfl rfl hd_X4_sign ⟨Nat.le_of_ble_eq_true rfl, Nat.le_of_ble_eq_true rfl⟩) ⟨pm_ro_blind, va_recv hK hP (ci := 4) (q0 := 0) rfl rfl, pm_ro_pre hP hK⟩ rfl rfl hl.1 rfl (lv_room (Nat.le_of_ble_eq_true rfl)) dX4_behind_10 ⟨Nat.le_of_ble_eq_true rfl, Nat.le_of_ble_eq_true rfl⟩) (fun r1 h2 => ?_)
    rcases h2 with ⟨hs3, rfl⟩ | ⟨hs3, rfl⟩
    · have := hPI.2 p0 (by omega)
      refine lv_iload_n hx hb dX4_behind_13 rfl (lv_at hl 2 rfl) ?_
      refine kx_icmp_ne (tgt := 23) hx hb (by omega) (by omega) dX4_behind_14 (by decide) (fun c4 => ?_) (fun c4 => ?_)
      · skip
        refine lv_iconst (v := -1) hx hb dX4_behind_23 (by decide) ?_
        refine lv_iload_n hx hb dX4_behind_24 rfl (lv_at hl 1 rfl) ?_
        refine lv_isub hx hb dX4_behind_25 ?_
        exact W.iret hx hb hr (fun t ht _ => ⟨_, rfl, (show _ = pm_en (pm_bh pd ln c9 p0) from by first | (rw [pm_bh_1 (by omega) (by omega)]; rfl) | (rw [pm_bh_0 (by omega)]; rfl)), ht⟩) (fun _ h => absurd h List.not_mem_nil) dX4_behind_26
      · skip
        refine lv_iload_n hx hb dX4_behind_17 rfl (lv_at hl 1 rfl) ?_
        refine lv_iconst (v := nI 1) hx hb dX4_behind_18 (by decide) ?_
        refine kx_iadd hx hb dX4_behind_19 ?_
        refine lv_goto (tgt := 26) hx hb dX4_behind_20 (by decide) ?_
        exact W.iret hx hb hr (fun t ht _ => ⟨_, rfl, (show _ = pm_en (pm_bh pd ln c9 p0) from by first | (rw [pm_bh_1 (by omega) (by omega)]; rfl) | (rw [pm_bh_0 (by omega)]; rfl)), ht⟩) (fun _ h => absurd h List.not_mem_nil) dX4_behind_26
    · skip
      refine lv_iload_n hx hb dX4_behind_13 rfl (lv_at hl 2 rfl) ?_
      refine lv_icmp_ne (tgt := 23) hx hb dX4_behind_14 (by decide) (fun c5 => ?_) (fun c5 => by exfalso; exact pm_m1ne (c := c9) (by omega) (by assumption))
      refine lv_iconst (v := -1) hx hb dX4_behind_23 (by decide) ?_
      refine lv_iload_n hx hb dX4_behind_24 rfl (lv_at hl 1 rfl) ?_
      refine lv_isub hx hb dX4_behind_25 ?_
      exact W.iret hx hb hr (fun t ht _ => ⟨_, rfl, (show _ = pm_en (pm_bh pd ln c9 p0) from by first | (rw [pm_bh_1 (by omega) (by omega)]; rfl) | (rw [pm_bh_0 (by omega)]; rfl)), ht⟩) (fun _ h => absurd h List.not_mem_nil) dX4_behind_26
  · have hw9 : p0 ≤ 150 := hw
    have hl : lv_has ls 3 [(0, .ref (q 0)), (1, .int (pm_ft p0)), (2, .int (nI c9))] := hl
    refine lv_iload_n hx hb dX4_behind_0 rfl (lv_at hl 1 rfl) ?_
    refine lv_if_ge (tgt := 8) hx hb dX4_behind_1 (by decide) (fun c6 => by exfalso; exact absurd (pm_ft_neg (f := p0) (by omega)) (Int32.not_lt.mpr (by assumption))) (fun c6 => ?_)
    refine lv_iload_n hx hb dX4_behind_4 rfl (lv_at hl 1 rfl) ?_
    refine lv_goto (tgt := 26) hx hb dX4_behind_5 (by decide) ?_
    exact W.iret hx hb hr (fun t ht _ => ⟨_, rfl, rfl, ht⟩) (fun _ h => absurd h List.not_mem_nil) dX4_behind_26

set_option maxHeartbeats 4000000 in
set_option maxRecDepth 100000 in
theorem k_X4_orderEnd (l : Launch) (D : va_G) (y : Nat → ClassId) (q : Nat → Nat) (S : Nat → Nat → Nat) (gp gs : Nat → Int32) (kn ln : Nat) (sv pd : Nat → Nat) (p0 : Nat) (hPI : pm_PI pd ln) (hp0 : p0 ≤ 100) : Met l yX4_orderEnd wsX4_orderEnd ({ frames := 3, cells := 0, slots := 0, locals := 64 } : Room) (pm_ro D (pm_ty y) [.ref (q 0), .int (nI p0)] (pm_mo y q S gp gs kn ln sv pd)) (vp_Si (fun r : Int32 => r = pm_en (pm_oe pd ln p0))) 0 0 (fun _ => False) := by
  refine Met.ofW (cc := cX4_orderEnd) (maxL := 2) (ret := (some .int)) (by decide) rfl ?_
  intro p e s m args below meth c s₁ B hml hpre
  obtain ⟨rfl, hP, hK⟩ := hpre
  have hx := B.exec
  have hb := B.bytes
  have hr := B.returns
  have hts := atoms_spec (ws := wsX4_orderEnd) B.pre
  have hown : s.vm.findClass RX4 = some m.cls := findClass_of_methodNamed B.named
  have hlocks := B.notSynchronized
  have hin4 : ∀ w ∈ u_ws RX4 TX4 7, w ∈ wsX4_orderEnd := fun w h => List.mem_cons_of_mem _ (List.mem_append_right _ h)
  have hP : va_P D vwCl (pm_mo y q S gp gs kn ln sv pd) s.heap := hP
  have hl := lv_entry ([.ref (q 0), .int (nI p0)]) (n := 2) (Nat.le_of_ble_eq_true rfl)
  rw [lg_entry_eq]
  generalize (lg_sl ([.ref (q 0), .int (nI p0)]) ++ List.replicate (2 - (lg_sl ([.ref (q 0), .int (nI p0)])).length) Slot.unset).toArray = ls at hl ⊢
  have hl : lv_has ls 2 [(0, .ref (q 0)), (1, .int (nI p0))] := hl
  have hln := hPI.1
  refine lv_aload_n hx hb dX4_orderEnd_0 rfl (lv_at hl 0 rfl) ?_
  refine lv_iload_n hx hb dX4_orderEnd_1 rfl (lv_at hl 1 rfl) ?_
  refine vp_callSi (W.runV (As := [.int (nI p0)]) (rest := []) ⟨hx, hb, hml, hown, hts⟩ (k_X4_sign l D y q S gp gs kn ln sv pd p0 hPI (by omega)) (cwV 1 hts gX4_orderEnd_X4_sign rfl rfl rfl hd_X4_sign ⟨Nat.le_of_ble_eq_true rfl, Nat.le_of_ble_eq_true rfl⟩) ⟨pm_ro_blind, va_recv hK hP (ci := 4) (q0 := 0) rfl rfl, pm_ro_pre hP hK⟩ rfl rfl hl.1 rfl (lv_room (Nat.le_of_ble_eq_true rfl)) dX4_orderEnd_2 ⟨Nat.le_of_ble_eq_true rfl, Nat.le_of_ble_eq_true rfl⟩) (fun r1 h2 => ?_)
  rcases h2 with ⟨hs3, rfl⟩ | ⟨hs3, rfl⟩
  · have := hPI.2 p0 (by omega)
    have hsw4 : (pd p0 < 97 ∨ 120 < pd p0) ∨ pd p0 = 97 ∨ pd p0 = 98 ∨ pd p0 = 99 ∨ pd p0 = 100 ∨ pd p0 = 101 ∨ pd p0 = 102 ∨ pd p0 = 103 ∨ pd p0 = 104 ∨ pd p0 = 105 ∨ pd p0 = 106 ∨ pd p0 = 107 ∨ pd p0 = 108 ∨ pd p0 = 109 ∨ pd p0 = 110 ∨ pd p0 = 111 ∨ pd p0 = 112 ∨ pd p0 = 113 ∨ pd p0 = 114 ∨ pd p0 = 115 ∨ pd p0 = 116 ∨ pd p0 = 117 ∨ pd p0 = 118 ∨ pd p0 = 119 ∨ pd p0 = 120 := by omega
    rcases hsw4 with hw | hw | hw | hw | hw | hw | hw | hw | hw | hw | hw | hw | hw | hw | hw | hw | hw | hw | hw | hw | hw | hw | hw | hw | hw
    · have hsg := pm_sg_t (P := pd) hs3
      refine lv_tableOut (tgt := 186) hx hb dX4_orderEnd_5 ((by rw [nI_toInt (by omega)]; omega)) (by decide) ?_
      refine lv_iconst (v := -1) hx hb dX4_orderEnd_186 (by decide) ?_
      refine lv_iload_n hx hb dX4_orderEnd_187 rfl (lv_at hl 1 rfl) ?_
      refine lv_isub hx hb dX4_orderEnd_188 ?_
      exact W.iret hx hb hr (fun t ht _ => ⟨_, rfl, (by unfold pm_oe; rw [hsg, if_neg (by omega), if_neg (by omega), if_neg (by omega), if_neg (by omega), if_neg (by omega)]; rfl), ht⟩) (fun _ h => absurd h List.not_mem_nil) dX4_orderEnd_189
    · have hsg : pm_sg pd ln p0 = 97 := (pm_sg_t hs3).trans hw
      refine lv_topi (fun x9 e9 => ?_)
      obtain rfl : x9 = nI 97 := e9.trans (congrArg nI hw)
      refine lv_tableIn (off := 129) (tgt := 134) hx hb dX4_orderEnd_5 (by decide) (by decide) (by decide) (by decide) ?_
      refine lv_aload_n hx hb dX4_orderEnd_134 rfl (lv_at hl 0 rfl) ?_
      refine lv_aload_n hx hb dX4_orderEnd_135 rfl (lv_at hl 0 rfl) ?_
      refine lv_aload_n hx hb dX4_orderEnd_136 rfl (lv_at hl 0 rfl) ?_
      refine lv_aload_n hx hb dX4_orderEnd_137 rfl (lv_at hl 0 rfl) ?_
      refine lv_iload_n hx hb dX4_orderEnd_138 rfl (lv_at hl 1 rfl) ?_
      refine lv_iconst (v := nI 1) hx hb dX4_orderEnd_139 (by decide) ?_
      refine kx_iadd hx hb dX4_orderEnd_140 ?_
      refine vp_callSi (W.runV (As := [.int (nI (p0 + 1))]) (rest := [.ref (q 0), .ref (q 0), .ref (q 0)]) ⟨hx, hb, hml, hown, hts⟩ (k_X4_digitEnd l D y q S gp gs kn ln sv pd (.inl (p0 + 1)) hPI (by have e9 : ∀ z : Nat, pm_sz (.inl z) = z := fun _ => rfl; simp only [e9] at *; omega)) (cwV 1 hts gX4_orderEnd_X4_digitEnd rfl rfl rfl hd_X4_digitEnd ⟨Nat.le_of_ble_eq_true rfl, Nat.le_of_ble_eq_true rfl⟩) ⟨pm_ro_blind, va_recv hK hP (ci := 4) (q0 := 0) rfl rfl, pm_ro_pre hP hK⟩ rfl rfl hl.1 rfl (lv_room (Nat.le_of_ble_eq_true rfl)) dX4_orderEnd_141 ⟨Nat.le_of_ble_eq_true rfl, Nat.le_of_ble_eq_true rfl⟩) (fun r5 h6 => ?_)
      obtain rfl : r5 = pm_en (pm_bd (.inl (p0 + 1)) (pm_de pd ln)) := h6
      have := pm_sz_de (P := pd) (ln := ln) (.inl (p0 + 1))
      refine vp_callSi (W.runV (As := [.int (pm_en (pm_bd (.inl (p0 + 1)) (pm_de pd ln)))]) (rest := [.ref (q 0), .ref (q 0)]) ⟨hx, hb, hml, hown, hts⟩ (k_X4_digitEnd l D y q S gp gs kn ln sv pd ((pm_bd (.inl (p0 + 1)) (pm_de pd ln))) hPI (by have e9 : ∀ z : Nat, pm_sz (.inl z) = z := fun _ => rfl; simp only [e9] at *; omega)) (cwV 1 hts gX4_orderEnd_X4_digitEnd rfl rfl rfl hd_X4_digitEnd ⟨Nat.le_of_ble_eq_true rfl, Nat.le_of_ble_eq_true rfl⟩) ⟨pm_ro_blind, va_recv hK hP (ci := 4) (q0 := 0) rfl rfl, pm_ro_pre hP hK⟩ rfl rfl hl.1 rfl (lv_room (Nat.le_of_ble_eq_true rfl)) dX4_orderEnd_144 ⟨Nat.le_of_ble_eq_true rfl, Nat.le_of_ble_eq_true rfl⟩) (fun r7 h8 => ?_)
      obtain rfl : r7 = pm_en (pm_bd ((pm_bd (.inl (p0 + 1)) (pm_de pd ln))) (pm_de pd ln)) := h8
      have := pm_sz_de (P := pd) (ln := ln) ((pm_bd (.inl (p0 + 1)) (pm_de pd ln)))
      refine lv_bipush (v := nI 46) hx hb dX4_orderEnd_147 (by decide) ?_
      refine vp_callSi (W.runV (As := [.int (pm_en (pm_bd ((pm_bd (.inl (p0 + 1)) (pm_de pd ln))) (pm_de pd ln))), .int (nI 46)]) (rest := [.ref (q 0)]) ⟨hx, hb, hml, hown, hts⟩ (k_X4_behind l D y q S gp gs kn ln sv pd ((pm_bd ((pm_bd (.inl (p0 + 1)) (pm_de pd ln))) (pm_de pd ln))) 46 hPI (by have e9 : ∀ z : Nat, pm_sz (.inl z) = z := fun _ => rfl; simp only [e9] at *; omega) (by decide)) (cwV 2 hts gX4_orderEnd_X4_behind rfl rfl rfl hd_X4_behind ⟨Nat.le_of_ble_eq_true rfl, Nat.le_of_ble_eq_true rfl⟩) ⟨pm_ro_blind, va_recv hK hP (ci := 4) (q0 := 0) rfl rfl, pm_ro_pre hP hK⟩ rfl rfl hl.1 rfl (lv_room (Nat.le_of_ble_eq_true rfl)) dX4_orderEnd_149 ⟨Nat.le_of_ble_eq_true rfl, Nat.le_of_ble_eq_true rfl⟩) (fun r9 h10 => ?_)
      obtain rfl : r9 = pm_en (pm_bd ((pm_bd ((pm_bd (.inl (p0 + 1)) (pm_de pd ln))) (pm_de pd ln))) (pm_bh pd ln 46)) := h10
      have := pm_sz_bh (P := pd) (ln := ln) (c := 46) ((pm_bd ((pm_bd (.inl (p0 + 1)) (pm_de pd ln))) (pm_de pd ln)))
      refine vp_callSi (W.runV (As := [.int (pm_en (pm_bd ((pm_bd ((pm_bd (.inl (p0 + 1)) (pm_de pd ln))) (pm_de pd ln))) (pm_bh pd ln 46)))]) (rest := []) ⟨hx, hb, hml, hown, hts⟩ (k_X4_numberEnd l D y q S gp gs kn ln sv pd ((pm_bd ((pm_bd ((pm_bd (.inl (p0 + 1)) (pm_de pd ln))) (pm_de pd ln))) (pm_bh pd ln 46))) hPI (by have e9 : ∀ z : Nat, pm_sz (.inl z) = z := fun _ => rfl; simp only [e9] at *; omega)) (cwV 1 hts gX4_orderEnd_X4_numberEnd rfl rfl rfl hd_X4_numberEnd ⟨Nat.le_of_ble_eq_true rfl, Nat.le_of_ble_eq_true rfl⟩) ⟨pm_ro_blind, va_recv hK hP (ci := 4) (q0 := 0) rfl rfl, pm_ro_pre hP hK⟩ rfl rfl hl.1 rfl (lv_room (Nat.le_of_ble_eq_true rfl)) dX4_orderEnd_152 ⟨Nat.le_of_ble_eq_true rfl, Nat.le_of_ble_eq_true rfl⟩) (fun r11 h12 => ?_)
      obtain rfl : r11 = pm_en (pm_bd ((pm_bd ((pm_bd ((pm_bd (.inl (p0 + 1)) (pm_de pd ln))) (pm_de pd ln))) (pm_bh pd ln 46))) (pm_ne pd ln)) := h12
      have := pm_sz_ne (P := pd) (ln := ln) ((pm_bd ((pm_bd ((pm_bd (.inl (p0 + 1)) (pm_de pd ln))) (pm_de pd ln))) (pm_bh pd ln 46)))
      exact W.iret hx hb hr (fun t ht _ => ⟨_, rfl, (by unfold pm_oe; rw [hsg]; rfl), ht⟩) (fun _ h => absurd h List.not_mem_nil) dX4_orderEnd_155
    · have hsg : pm_sg pd ln p0 = 98 := (pm_sg_t hs3).trans hw
      refine lv_topi (fun x9 e9 => ?_)
      obtain rfl : x9 = nI 98 := e9.trans (congrArg nI hw)
      refine lv_tableIn (off := 173) (tgt := 178) hx hb dX4_orderEnd_5 (by decide) (by decide) (by decide) (by decide) ?_
      refine lv_aload_n hx hb dX4_orderEnd_178 rfl (lv_at hl 0 rfl) ?_
      refine lv_iload_n hx hb dX4_orderEnd_179 rfl (lv_at hl 1 rfl) ?_
      refine lv_iconst (v := nI 1) hx hb dX4_orderEnd_180 (by decide) ?_
      refine kx_iadd hx hb dX4_orderEnd_181 ?_
      refine vp_callSi (W.runV (As := [.int (nI (p0 + 1))]) (rest := []) ⟨hx, hb, hml, hown, hts⟩ (k_X4_numberEnd l D y q S gp gs kn ln sv pd (.inl (p0 + 1)) hPI (by have e9 : ∀ z : Nat, pm_sz (.inl z) = z := fun _ => rfl; simp only [e9] at *; omega)) (cwV 1 hts gX4_orderEnd_X4_numberEnd rfl rfl rfl hd_X4_numberEnd ⟨Nat.le_of_ble_eq_true rfl, Nat.le_of_ble_eq_true rfl⟩) ⟨pm_ro_blind, va_recv hK hP (ci := 4) (q0 := 0) rfl rfl, pm_ro_pre hP hK⟩ rfl rfl hl.1 rfl (lv_room (Nat.le_of_ble_eq_true rfl)) dX4_orderEnd_182 ⟨Nat.le_of_ble_eq_true rfl, Nat.le_of_ble_eq_true rfl⟩) (fun r13 h14 => ?_)
      obtain rfl : r13 = pm_en (pm_bd (.inl (p0 + 1)) (pm_ne pd ln)) := h14
      have := pm_sz_ne (P := pd) (ln := ln) (.inl (p0 + 1))
      exact W.iret hx hb hr (fun t ht _ => ⟨_, rfl, (by unfold pm_oe; rw [hsg]; rfl), ht⟩) (fun _ h => absurd h List.not_mem_nil) dX4_orderEnd_185
    · have hsg : pm_sg pd ln p0 = 99 := (pm_sg_t hs3).trans hw
      refine lv_topi (fun x9 e9 => ?_)
      obtain rfl : x9 = nI 99 := e9.trans (congrArg nI hw)
      refine lv_tableIn (off := 181) (tgt := 186) hx hb dX4_orderEnd_5 (by decide) (by decide) (by decide) (by decide) ?_
      refine lv_iconst (v := -1) hx hb dX4_orderEnd_186 (by decide) ?_
      refine lv_iload_n hx hb dX4_orderEnd_187 rfl (lv_at hl 1 rfl) ?_
      refine lv_isub hx hb dX4_orderEnd_188 ?_
      exact W.iret hx hb hr (fun t ht _ => ⟨_, rfl, (by unfold pm_oe; rw [hsg]; rfl), ht⟩) (fun _ h => absurd h List.not_mem_nil) dX4_orderEnd_189
    · have hsg : pm_sg pd ln p0 = 100 := (pm_sg_t hs3).trans hw
      refine lv_topi (fun x9 e9 => ?_)
      obtain rfl : x9 = nI 100 := e9.trans (congrArg nI hw)
      refine lv_tableIn (off := 181) (tgt := 186) hx hb dX4_orderEnd_5 (by decide) (by decide) (by decide) (by decide) ?_
      refine lv_iconst (v := -1) hx hb dX4_orderEnd_186 (by decide) ?_
      refine lv_iload_n hx hb dX4_orderEnd_187 rfl (lv_at hl 1 rfl) ?_
      refine lv_isub hx hb dX4_orderEnd_188 ?_
      exact W.iret hx hb hr (fun t ht _ => ⟨_, rfl, (by unfold pm_oe; rw [hsg]; rfl), ht⟩) (fun _ h => absurd h List.not_mem_nil) dX4_orderEnd_189
    · have hsg : pm_sg pd ln p0 = 101 := (pm_sg_t hs3).trans hw
      refine lv_topi (fun x9 e9 => ?_)
      obtain rfl : x9 = nI 101 := e9.trans (congrArg nI hw)
      refine lv_tableIn (off := 181) (tgt := 186) hx hb dX4_orderEnd_5 (by decide) (by decide) (by decide) (by decide) ?_
      refine lv_iconst (v := -1) hx hb dX4_orderEnd_186 (by decide) ?_
      refine lv_iload_n hx hb dX4_orderEnd_187 rfl (lv_at hl 1 rfl) ?_
      refine lv_isub hx hb dX4_orderEnd_188 ?_
      exact W.iret hx hb hr (fun t ht _ => ⟨_, rfl, (by unfold pm_oe; rw [hsg]; rfl), ht⟩) (fun _ h => absurd h List.not_mem_nil) dX4_orderEnd_189
    · have hsg : pm_sg pd ln p0 = 102 := (pm_sg_t hs3).trans hw
      refine lv_topi (fun x9 e9 => ?_)
      obtain rfl : x9 = nI 102 := e9.trans (congrArg nI hw)
      refine lv_tableIn (off := 181) (tgt := 186) hx hb dX4_orderEnd_5 (by decide) (by decide) (by decide) (by decide) ?_
      refine lv_iconst (v := -1) hx hb dX4_orderEnd_186 (by decide) ?_
      refine lv_iload_n hx hb dX4_orderEnd_187 rfl (lv_at hl 1 rfl) ?_
      refine lv_isub hx hb dX4_orderEnd_188 ?_
      exact W.iret hx hb hr (fun t ht _ => ⟨_, rfl, (by unfold pm_oe; rw [hsg]; rfl), ht⟩) (fun _ h => absurd h List.not_mem_nil) dX4_orderEnd_189
    · have hsg : pm_sg pd ln p0 = 103 := (pm_sg_t hs3).trans hw
      refine lv_topi (fun x9 e9 => ?_)
      obtain rfl : x9 = nI 103 := e9.trans (congrArg nI hw)
      refine lv_tableIn (off := 181) (tgt := 186) hx hb dX4_orderEnd_5 (by decide) (by decide) (by decide) (by decide) ?_
      refine lv_iconst (v := -1) hx hb dX4_orderEnd_186 (by decide) ?_
      refine lv_iload_n hx hb dX4_orderEnd_187 rfl (lv_at hl 1 rfl) ?_
      refine lv_isub hx hb dX4_orderEnd_188 ?_
      exact W.iret hx hb hr (fun t ht _ => ⟨_, rfl, (by unfold pm_oe; rw [hsg]; rfl), ht⟩) (fun _ h => absurd h List.not_mem_nil) dX4_orderEnd_189
    · have hsg : pm_sg pd ln p0 = 104 := (pm_sg_t hs3).trans hw
      refine lv_topi (fun x9 e9 => ?_)
      obtain rfl : x9 = nI 104 := e9.trans (congrArg nI hw)
      refine lv_tableIn (off := 181) (tgt := 186) hx hb dX4_orderEnd_5 (by decide) (by decide) (by decide) (by decide) ?_
      refine lv_iconst (v := -1) hx hb dX4_orderEnd_186 (by decide) ?_
      refine lv_iload_n hx hb dX4_orderEnd_187 rfl (lv_at hl 1 rfl) ?_
      refine lv_isub hx hb dX4_orderEnd_188 ?_
      exact W.iret hx hb hr (fun t ht _ => ⟨_, rfl, (by unfold pm_oe; rw [hsg]; rfl), ht⟩) (fun _ h => absurd h List.not_mem_nil) dX4_orderEnd_189
    · have hsg : pm_sg pd ln p0 = 105 := (pm_sg_t hs3).trans hw
      refine lv_topi (fun x9 e9 => ?_)
      obtain rfl : x9 = nI 105 := e9.trans (congrArg nI hw)
      refine lv_tableIn (off := 181) (tgt := 186) hx hb dX4_orderEnd_5 (by decide) (by decide) (by decide) (by decide) ?_
      refine lv_iconst (v := -1) hx hb dX4_orderEnd_186 (by decide) ?_
      refine lv_iload_n hx hb dX4_orderEnd_187 rfl (lv_at hl 1 rfl) ?_
      refine lv_isub hx hb dX4_orderEnd_188 ?_
      exact W.iret hx hb hr (fun t ht _ => ⟨_, rfl, (by unfold pm_oe; rw [hsg]; rfl), ht⟩) (fun _ h => absurd h List.not_mem_nil) dX4_orderEnd_189
    · have hsg : pm_sg pd ln p0 = 106 := (pm_sg_t hs3).trans hw
      refine lv_topi (fun x9 e9 => ?_)
      obtain rfl : x9 = nI 106 := e9.trans (congrArg nI hw)
      refine lv_tableIn (off := 181) (tgt := 186) hx hb dX4_orderEnd_5 (by decide) (by decide) (by decide) (by decide) ?_
      refine lv_iconst (v := -1) hx hb dX4_orderEnd_186 (by decide) ?_
      refine lv_iload_n hx hb dX4_orderEnd_187 rfl (lv_at hl 1 rfl) ?_
      refine lv_isub hx hb dX4_orderEnd_188 ?_
      exact W.iret hx hb hr (fun t ht _ => ⟨_, rfl, (by unfold pm_oe; rw [hsg]; rfl), ht⟩) (fun _ h => absurd h List.not_mem_nil) dX4_orderEnd_189
    · have hsg : pm_sg pd ln p0 = 107 := (pm_sg_t hs3).trans hw
      refine lv_topi (fun x9 e9 => ?_)
      obtain rfl : x9 = nI 107 := e9.trans (congrArg nI hw)
      refine lv_tableIn (off := 181) (tgt := 186) hx hb dX4_orderEnd_5 (by decide) (by decide) (by decide) (by decide) ?_
      refine lv_iconst (v := -1) hx hb dX4_orderEnd_186 (by decide) ?_
      refine lv_iload_n hx hb dX4_orderEnd_187 rfl (lv_at hl 1 rfl) ?_
      refine lv_isub hx hb dX4_orderEnd_188 ?_
      exact W.iret hx hb hr (fun t ht _ => ⟨_, rfl, (by unfold pm_oe; rw [hsg]; rfl), ht⟩) (fun _ h => absurd h List.not_mem_nil) dX4_orderEnd_189
    · have hsg : pm_sg pd ln p0 = 108 := (pm_sg_t hs3).trans hw
      refine lv_topi (fun x9 e9 => ?_)
      obtain rfl : x9 = nI 108 := e9.trans (congrArg nI hw)
      refine lv_tableIn (off := 181) (tgt := 186) hx hb dX4_orderEnd_5 (by decide) (by decide) (by decide) (by decide) ?_
      refine lv_iconst (v := -1) hx hb dX4_orderEnd_186 (by decide) ?_
      refine lv_iload_n hx hb dX4_orderEnd_187 rfl (lv_at hl 1 rfl) ?_
      refine lv_isub hx hb dX4_orderEnd_188 ?_
      exact W.iret hx hb hr (fun t ht _ => ⟨_, rfl, (by unfold pm_oe; rw [hsg]; rfl), ht⟩) (fun _ h => absurd h List.not_mem_nil) dX4_orderEnd_189
    · have hsg : pm_sg pd ln p0 = 109 := (pm_sg_t hs3).trans hw
      refine lv_topi (fun x9 e9 => ?_)
      obtain rfl : x9 = nI 109 := e9.trans (congrArg nI hw)
      refine lv_tableIn (off := 181) (tgt := 186) hx hb dX4_orderEnd_5 (by decide) (by decide) (by decide) (by decide) ?_
      refine lv_iconst (v := -1) hx hb dX4_orderEnd_186 (by decide) ?_
      refine lv_iload_n hx hb dX4_orderEnd_187 rfl (lv_at hl 1 rfl) ?_
      refine lv_isub hx hb dX4_orderEnd_188 ?_
      exact W.iret hx hb hr (fun t ht _ => ⟨_, rfl, (by unfold pm_oe; rw [hsg]; rfl), ht⟩) (fun _ h => absurd h List.not_mem_nil) dX4_orderEnd_189
    · have hsg : pm_sg pd ln p0 = 110 := (pm_sg_t hs3).trans hw
      refine lv_topi (fun x9 e9 => ?_)
      obtain rfl : x9 = nI 110 := e9.trans (congrArg nI hw)
      refine lv_tableIn (off := 181) (tgt := 186) hx hb dX4_orderEnd_5 (by decide) (by decide) (by decide) (by decide) ?_
      refine lv_iconst (v := -1) hx hb dX4_orderEnd_186 (by decide) ?_
      refine lv_iload_n hx hb dX4_orderEnd_187 rfl (lv_at hl 1 rfl) ?_
      refine lv_isub hx hb dX4_orderEnd_188 ?_
      exact W.iret hx hb hr (fun t ht _ => ⟨_, rfl, (by unfold pm_oe; rw [hsg]; rfl), ht⟩) (fun _ h => absurd h List.not_mem_nil) dX4_orderEnd_189
    · have hsg : pm_sg pd ln p0 = 111 := (pm_sg_t hs3).trans hw
      refine lv_topi (fun x9 e9 => ?_)
      obtain rfl : x9 = nI 111 := e9.trans (congrArg nI hw)
      refine lv_tableIn (off := 111) (tgt := 116) hx hb dX4_orderEnd_5 (by decide) (by decide) (by decide) (by decide) ?_
      refine lv_aload_n hx hb dX4_orderEnd_116 rfl (lv_at hl 0 rfl) ?_
      refine lv_aload_n hx hb dX4_orderEnd_117 rfl (lv_at hl 0 rfl) ?_
      refine lv_aload_n hx hb dX4_orderEnd_118 rfl (lv_at hl 0 rfl) ?_
      refine lv_iload_n hx hb dX4_orderEnd_119 rfl (lv_at hl 1 rfl) ?_
      refine lv_iconst (v := nI 1) hx hb dX4_orderEnd_120 (by decide) ?_
      refine kx_iadd hx hb dX4_orderEnd_121 ?_
      refine vp_callSi (W.runV (As := [.int (nI (p0 + 1))]) (rest := [.ref (q 0), .ref (q 0)]) ⟨hx, hb, hml, hown, hts⟩ (k_X4_digitEnd l D y q S gp gs kn ln sv pd (.inl (p0 + 1)) hPI (by have e9 : ∀ z : Nat, pm_sz (.inl z) = z := fun _ => rfl; simp only [e9] at *; omega)) (cwV 1 hts gX4_orderEnd_X4_digitEnd rfl rfl rfl hd_X4_digitEnd ⟨Nat.le_of_ble_eq_true rfl, Nat.le_of_ble_eq_true rfl⟩) ⟨pm_ro_blind, va_recv hK hP (ci := 4) (q0 := 0) rfl rfl, pm_ro_pre hP hK⟩ rfl rfl hl.1 rfl (lv_room (Nat.le_of_ble_eq_true rfl)) dX4_orderEnd_122 ⟨Nat.le_of_ble_eq_true rfl, Nat.le_of_ble_eq_true rfl⟩) (fun r15 h16 => ?_)
      obtain rfl : r15 = pm_en (pm_bd (.inl (p0 + 1)) (pm_de pd ln)) := h16
      have := pm_sz_de (P := pd) (ln := ln) (.inl (p0 + 1))
      refine lv_bipush (v := nI 46) hx hb dX4_orderEnd_125 (by decide) ?_
      refine vp_callSi (W.runV (As := [.int (pm_en (pm_bd (.inl (p0 + 1)) (pm_de pd ln))), .int (nI 46)]) (rest := [.ref (q 0)]) ⟨hx, hb, hml, hown, hts⟩ (k_X4_behind l D y q S gp gs kn ln sv pd ((pm_bd (.inl (p0 + 1)) (pm_de pd ln))) 46 hPI (by have e9 : ∀ z : Nat, pm_sz (.inl z) = z := fun _ => rfl; simp only [e9] at *; omega) (by decide)) (cwV 2 hts gX4_orderEnd_X4_behind rfl rfl rfl hd_X4_behind ⟨Nat.le_of_ble_eq_true rfl, Nat.le_of_ble_eq_true rfl⟩) ⟨pm_ro_blind, va_recv hK hP (ci := 4) (q0 := 0) rfl rfl, pm_ro_pre hP hK⟩ rfl rfl hl.1 rfl (lv_room (Nat.le_of_ble_eq_true rfl)) dX4_orderEnd_127 ⟨Nat.le_of_ble_eq_true rfl, Nat.le_of_ble_eq_true rfl⟩) (fun r17 h18 => ?_)
      obtain rfl : r17 = pm_en (pm_bd ((pm_bd (.inl (p0 + 1)) (pm_de pd ln))) (pm_bh pd ln 46)) := h18
      have := pm_sz_bh (P := pd) (ln := ln) (c := 46) ((pm_bd (.inl (p0 + 1)) (pm_de pd ln)))
      refine vp_callSi (W.runV (As := [.int (pm_en (pm_bd ((pm_bd (.inl (p0 + 1)) (pm_de pd ln))) (pm_bh pd ln 46)))]) (rest := []) ⟨hx, hb, hml, hown, hts⟩ (k_X4_numberEnd l D y q S gp gs kn ln sv pd ((pm_bd ((pm_bd (.inl (p0 + 1)) (pm_de pd ln))) (pm_bh pd ln 46))) hPI (by have e9 : ∀ z : Nat, pm_sz (.inl z) = z := fun _ => rfl; simp only [e9] at *; omega)) (cwV 1 hts gX4_orderEnd_X4_numberEnd rfl rfl rfl hd_X4_numberEnd ⟨Nat.le_of_ble_eq_true rfl, Nat.le_of_ble_eq_true rfl⟩) ⟨pm_ro_blind, va_recv hK hP (ci := 4) (q0 := 0) rfl rfl, pm_ro_pre hP hK⟩ rfl rfl hl.1 rfl (lv_room (Nat.le_of_ble_eq_true rfl)) dX4_orderEnd_130 ⟨Nat.le_of_ble_eq_true rfl, Nat.le_of_ble_eq_true rfl⟩) (fun r19 h20 => ?_)
      obtain rfl : r19 = pm_en (pm_bd ((pm_bd ((pm_bd (.inl (p0 + 1)) (pm_de pd ln))) (pm_bh pd ln 46))) (pm_ne pd ln)) := h20
      have := pm_sz_ne (P := pd) (ln := ln) ((pm_bd ((pm_bd (.inl (p0 + 1)) (pm_de pd ln))) (pm_bh pd ln 46)))
      exact W.iret hx hb hr (fun t ht _ => ⟨_, rfl, (by unfold pm_oe; rw [hsg]; rfl), ht⟩) (fun _ h => absurd h List.not_mem_nil) dX4_orderEnd_133
    · have hsg : pm_sg pd ln p0 = 112 := (pm_sg_t hs3).trans hw
      refine lv_topi (fun x9 e9 => ?_)
      obtain rfl : x9 = nI 112 := e9.trans (congrArg nI hw)
      refine lv_tableIn (off := 155) (tgt := 160) hx hb dX4_orderEnd_5 (by decide) (by decide) (by decide) (by decide) ?_
      refine lv_aload_n hx hb dX4_orderEnd_160 rfl (lv_at hl 0 rfl) ?_
      refine lv_aload_n hx hb dX4_orderEnd_161 rfl (lv_at hl 0 rfl) ?_
      refine lv_aload_n hx hb dX4_orderEnd_162 rfl (lv_at hl 0 rfl) ?_
      refine lv_iload_n hx hb dX4_orderEnd_163 rfl (lv_at hl 1 rfl) ?_
      refine lv_iconst (v := nI 1) hx hb dX4_orderEnd_164 (by decide) ?_
      refine kx_iadd hx hb dX4_orderEnd_165 ?_
      refine vp_callSi (W.runV (As := [.int (nI (p0 + 1))]) (rest := [.ref (q 0), .ref (q 0)]) ⟨hx, hb, hml, hown, hts⟩ (k_X4_numberEnd l D y q S gp gs kn ln sv pd (.inl (p0 + 1)) hPI (by have e9 : ∀ z : Nat, pm_sz (.inl z) = z := fun _ => rfl; simp only [e9] at *; omega)) (cwV 1 hts gX4_orderEnd_X4_numberEnd rfl rfl rfl hd_X4_numberEnd ⟨Nat.le_of_ble_eq_true rfl, Nat.le_of_ble_eq_true rfl⟩) ⟨pm_ro_blind, va_recv hK hP (ci := 4) (q0 := 0) rfl rfl, pm_ro_pre hP hK⟩ rfl rfl hl.1 rfl (lv_room (Nat.le_of_ble_eq_true rfl)) dX4_orderEnd_166 ⟨Nat.le_of_ble_eq_true rfl, Nat.le_of_ble_eq_true rfl⟩) (fun r21 h22 => ?_)
      obtain rfl : r21 = pm_en (pm_bd (.inl (p0 + 1)) (pm_ne pd ln)) := h22
      have := pm_sz_ne (P := pd) (ln := ln) (.inl (p0 + 1))
      refine lv_bipush (v := nI 42) hx hb dX4_orderEnd_169 (by decide) ?_
      refine vp_callSi (W.runV (As := [.int (pm_en (pm_bd (.inl (p0 + 1)) (pm_ne pd ln))), .int (nI 42)]) (rest := [.ref (q 0)]) ⟨hx, hb, hml, hown, hts⟩ (k_X4_behind l D y q S gp gs kn ln sv pd ((pm_bd (.inl (p0 + 1)) (pm_ne pd ln))) 42 hPI (by have e9 : ∀ z : Nat, pm_sz (.inl z) = z := fun _ => rfl; simp only [e9] at *; omega) (by decide)) (cwV 2 hts gX4_orderEnd_X4_behind rfl rfl rfl hd_X4_behind ⟨Nat.le_of_ble_eq_true rfl, Nat.le_of_ble_eq_true rfl⟩) ⟨pm_ro_blind, va_recv hK hP (ci := 4) (q0 := 0) rfl rfl, pm_ro_pre hP hK⟩ rfl rfl hl.1 rfl (lv_room (Nat.le_of_ble_eq_true rfl)) dX4_orderEnd_171 ⟨Nat.le_of_ble_eq_true rfl, Nat.le_of_ble_eq_true rfl⟩) (fun r23 h24 => ?_)
      obtain rfl : r23 = pm_en (pm_bd ((pm_bd (.inl (p0 + 1)) (pm_ne pd ln))) (pm_bh pd ln 42)) := h24
      have := pm_sz_bh (P := pd) (ln := ln) (c := 42) ((pm_bd (.inl (p0 + 1)) (pm_ne pd ln)))
      refine vp_callSi (W.runV (As := [.int (pm_en (pm_bd ((pm_bd (.inl (p0 + 1)) (pm_ne pd ln))) (pm_bh pd ln 42)))]) (rest := []) ⟨hx, hb, hml, hown, hts⟩ (k_X4_digitEnd l D y q S gp gs kn ln sv pd ((pm_bd ((pm_bd (.inl (p0 + 1)) (pm_ne pd ln))) (pm_bh pd ln 42))) hPI (by have e9 : ∀ z : Nat, pm_sz (.inl z) = z := fun _ => rfl; simp only [e9] at *; omega)) (cwV 1 hts gX4_orderEnd_X4_digitEnd rfl rfl rfl hd_X4_digitEnd ⟨Nat.le_of_ble_eq_true rfl, Nat.le_of_ble_eq_true rfl⟩) ⟨pm_ro_blind, va_recv hK hP (ci := 4) (q0 := 0) rfl rfl, pm_ro_pre hP hK⟩ rfl rfl hl.1 rfl (lv_room (Nat.le_of_ble_eq_true rfl)) dX4_orderEnd_174 ⟨Nat.le_of_ble_eq_true rfl, Nat.le_of_ble_eq_true rfl⟩) (fun r25 h26 => ?_)
      obtain rfl : r25 = pm_en (pm_bd ((pm_bd ((pm_bd (.inl (p0 + 1)) (pm_ne pd ln))) (pm_bh pd ln 42))) (pm_de pd ln)) := h26
      have := pm_sz_de (P := pd) (ln := ln) ((pm_bd ((pm_bd (.inl (p0 + 1)) (pm_ne pd ln))) (pm_bh pd ln 42)))
      exact W.iret hx hb hr (fun t ht _ => ⟨_, rfl, (by unfold pm_oe; rw [hsg]; rfl), ht⟩) (fun _ h => absurd h List.not_mem_nil) dX4_orderEnd_177
    · have hsg : pm_sg pd ln p0 = 113 := (pm_sg_t hs3).trans hw
      refine lv_topi (fun x9 e9 => ?_)
      obtain rfl : x9 = nI 113 := e9.trans (congrArg nI hw)
      refine lv_tableIn (off := 181) (tgt := 186) hx hb dX4_orderEnd_5 (by decide) (by decide) (by decide) (by decide) ?_
      refine lv_iconst (v := -1) hx hb dX4_orderEnd_186 (by decide) ?_
      refine lv_iload_n hx hb dX4_orderEnd_187 rfl (lv_at hl 1 rfl) ?_
      refine lv_isub hx hb dX4_orderEnd_188 ?_
      exact W.iret hx hb hr (fun t ht _ => ⟨_, rfl, (by unfold pm_oe; rw [hsg]; rfl), ht⟩) (fun _ h => absurd h List.not_mem_nil) dX4_orderEnd_189
    · have hsg : pm_sg pd ln p0 = 114 := (pm_sg_t hs3).trans hw
      refine lv_topi (fun x9 e9 => ?_)
      obtain rfl : x9 = nI 114 := e9.trans (congrArg nI hw)
      refine lv_tableIn (off := 151) (tgt := 156) hx hb dX4_orderEnd_5 (by decide) (by decide) (by decide) (by decide) ?_
      refine lv_iload_n hx hb dX4_orderEnd_156 rfl (lv_at hl 1 rfl) ?_
      refine lv_iconst (v := nI 1) hx hb dX4_orderEnd_157 (by decide) ?_
      refine kx_iadd hx hb dX4_orderEnd_158 ?_
      exact W.iret hx hb hr (fun t ht _ => ⟨_, rfl, (by unfold pm_oe; rw [hsg]; rfl), ht⟩) (fun _ h => absurd h List.not_mem_nil) dX4_orderEnd_159
    · have hsg : pm_sg pd ln p0 = 115 := (pm_sg_t hs3).trans hw
      refine lv_topi (fun x9 e9 => ?_)
      obtain rfl : x9 = nI 115 := e9.trans (congrArg nI hw)
      refine lv_tableIn (off := 181) (tgt := 186) hx hb dX4_orderEnd_5 (by decide) (by decide) (by decide) (by decide) ?_
      refine lv_iconst (v := -1) hx hb dX4_orderEnd_186 (by decide) ?_
      refine lv_iload_n hx hb dX4_orderEnd_187 rfl (lv_at hl 1 rfl) ?_
      refine lv_isub hx hb dX4_orderEnd_188 ?_
      exact W.iret hx hb hr (fun t ht _ => ⟨_, rfl, (by unfold pm_oe; rw [hsg]; rfl), ht⟩) (fun _ h => absurd h List.not_mem_nil) dX4_orderEnd_189
    · have hsg : pm_sg pd ln p0 = 116 := (pm_sg_t hs3).trans hw
      refine lv_topi (fun x9 e9 => ?_)
      obtain rfl : x9 = nI 116 := e9.trans (congrArg nI hw)
      refine lv_tableIn (off := 111) (tgt := 116) hx hb dX4_orderEnd_5 (by decide) (by decide) (by decide) (by decide) ?_
      refine lv_aload_n hx hb dX4_orderEnd_116 rfl (lv_at hl 0 rfl) ?_
      refine lv_aload_n hx hb dX4_orderEnd_117 rfl (lv_at hl 0 rfl) ?_
      refine lv_aload_n hx hb dX4_orderEnd_118 rfl (lv_at hl 0 rfl) ?_
      refine lv_iload_n hx hb dX4_orderEnd_119 rfl (lv_at hl 1 rfl) ?_
      refine lv_iconst (v := nI 1) hx hb dX4_orderEnd_120 (by decide) ?_
      refine kx_iadd hx hb dX4_orderEnd_121 ?_
      refine vp_callSi (W.runV (As := [.int (nI (p0 + 1))]) (rest := [.ref (q 0), .ref (q 0)]) ⟨hx, hb, hml, hown, hts⟩ (k_X4_digitEnd l D y q S gp gs kn ln sv pd (.inl (p0 + 1)) hPI (by have e9 : ∀ z : Nat, pm_sz (.inl z) = z := fun _ => rfl; simp only [e9] at *; omega)) (cwV 1 hts gX4_orderEnd_X4_digitEnd rfl rfl rfl hd_X4_digitEnd ⟨Nat.le_of_ble_eq_true rfl, Nat.le_of_ble_eq_true rfl⟩) ⟨pm_ro_blind, va_recv hK hP (ci := 4) (q0 := 0) rfl rfl, pm_ro_pre hP hK⟩ rfl rfl hl.1 rfl (lv_room (Nat.le_of_ble_eq_true rfl)) dX4_orderEnd_122 ⟨Nat.le_of_ble_eq_true rfl, Nat.le_of_ble_eq_true rfl⟩) (fun r27 h28 => ?_)
      obtain rfl : r27 = pm_en (pm_bd (.inl (p0 + 1)) (pm_de pd ln)) := h28
      have := pm_sz_de (P := pd) (ln := ln) (.inl (p0 + 1))
      refine lv_bipush (v := nI 46) hx hb dX4_orderEnd_125 (by decide) ?_
      refine vp_callSi (W.runV (As := [.int (pm_en (pm_bd (.inl (p0 + 1)) (pm_de pd ln))), .int (nI 46)]) (rest := [.ref (q 0)]) ⟨hx, hb, hml, hown, hts⟩ (k_X4_behind l D y q S gp gs kn ln sv pd ((pm_bd (.inl (p0 + 1)) (pm_de pd ln))) 46 hPI (by have e9 : ∀ z : Nat, pm_sz (.inl z) = z := fun _ => rfl; simp only [e9] at *; omega) (by decide)) (cwV 2 hts gX4_orderEnd_X4_behind rfl rfl rfl hd_X4_behind ⟨Nat.le_of_ble_eq_true rfl, Nat.le_of_ble_eq_true rfl⟩) ⟨pm_ro_blind, va_recv hK hP (ci := 4) (q0 := 0) rfl rfl, pm_ro_pre hP hK⟩ rfl rfl hl.1 rfl (lv_room (Nat.le_of_ble_eq_true rfl)) dX4_orderEnd_127 ⟨Nat.le_of_ble_eq_true rfl, Nat.le_of_ble_eq_true rfl⟩) (fun r29 h30 => ?_)
      obtain rfl : r29 = pm_en (pm_bd ((pm_bd (.inl (p0 + 1)) (pm_de pd ln))) (pm_bh pd ln 46)) := h30
      have := pm_sz_bh (P := pd) (ln := ln) (c := 46) ((pm_bd (.inl (p0 + 1)) (pm_de pd ln)))
      refine vp_callSi (W.runV (As := [.int (pm_en (pm_bd ((pm_bd (.inl (p0 + 1)) (pm_de pd ln))) (pm_bh pd ln 46)))]) (rest := []) ⟨hx, hb, hml, hown, hts⟩ (k_X4_numberEnd l D y q S gp gs kn ln sv pd ((pm_bd ((pm_bd (.inl (p0 + 1)) (pm_de pd ln))) (pm_bh pd ln 46))) hPI (by have e9 : ∀ z : Nat, pm_sz (.inl z) = z := fun _ => rfl; simp only [e9] at *; omega)) (cwV 1 hts gX4_orderEnd_X4_numberEnd rfl rfl rfl hd_X4_numberEnd ⟨Nat.le_of_ble_eq_true rfl, Nat.le_of_ble_eq_true rfl⟩) ⟨pm_ro_blind, va_recv hK hP (ci := 4) (q0 := 0) rfl rfl, pm_ro_pre hP hK⟩ rfl rfl hl.1 rfl (lv_room (Nat.le_of_ble_eq_true rfl)) dX4_orderEnd_130 ⟨Nat.le_of_ble_eq_true rfl, Nat.le_of_ble_eq_true rfl⟩) (fun r31 h32 => ?_)
      obtain rfl : r31 = pm_en (pm_bd ((pm_bd ((pm_bd (.inl (p0 + 1)) (pm_de pd ln))) (pm_bh pd ln 46))) (pm_ne pd ln)) := h32
      have := pm_sz_ne (P := pd) (ln := ln) ((pm_bd ((pm_bd (.inl (p0 + 1)) (pm_de pd ln))) (pm_bh pd ln 46)))
      exact W.iret hx hb hr (fun t ht _ => ⟨_, rfl, (by unfold pm_oe; rw [hsg]; rfl), ht⟩) (fun _ h => absurd h List.not_mem_nil) dX4_orderEnd_133
    · have hsg : pm_sg pd ln p0 = 117 := (pm_sg_t hs3).trans hw
      refine lv_topi (fun x9 e9 => ?_)
      obtain rfl : x9 = nI 117 := e9.trans (congrArg nI hw)
      refine lv_tableIn (off := 181) (tgt := 186) hx hb dX4_orderEnd_5 (by decide) (by decide) (by decide) (by decide) ?_
      refine lv_iconst (v := -1) hx hb dX4_orderEnd_186 (by decide) ?_
      refine lv_iload_n hx hb dX4_orderEnd_187 rfl (lv_at hl 1 rfl) ?_
      refine lv_isub hx hb dX4_orderEnd_188 ?_
      exact W.iret hx hb hr (fun t ht _ => ⟨_, rfl, (by unfold pm_oe; rw [hsg]; rfl), ht⟩) (fun _ h => absurd h List.not_mem_nil) dX4_orderEnd_189
    · have hsg : pm_sg pd ln p0 = 118 := (pm_sg_t hs3).trans hw
      refine lv_topi (fun x9 e9 => ?_)
      obtain rfl : x9 = nI 118 := e9.trans (congrArg nI hw)
      refine lv_tableIn (off := 181) (tgt := 186) hx hb dX4_orderEnd_5 (by decide) (by decide) (by decide) (by decide) ?_
      refine lv_iconst (v := -1) hx hb dX4_orderEnd_186 (by decide) ?_
      refine lv_iload_n hx hb dX4_orderEnd_187 rfl (lv_at hl 1 rfl) ?_
      refine lv_isub hx hb dX4_orderEnd_188 ?_
      exact W.iret hx hb hr (fun t ht _ => ⟨_, rfl, (by unfold pm_oe; rw [hsg]; rfl), ht⟩) (fun _ h => absurd h List.not_mem_nil) dX4_orderEnd_189
    · have hsg : pm_sg pd ln p0 = 119 := (pm_sg_t hs3).trans hw
      refine lv_topi (fun x9 e9 => ?_)
      obtain rfl : x9 = nI 119 := e9.trans (congrArg nI hw)
      refine lv_tableIn (off := 181) (tgt := 186) hx hb dX4_orderEnd_5 (by decide) (by decide) (by decide) (by decide) ?_
      refine lv_iconst (v := -1) hx hb dX4_orderEnd_186 (by decide) ?_
      refine lv_iload_n hx hb dX4_orderEnd_187 rfl (lv_at hl 1 rfl) ?_
      refine lv_isub hx hb dX4_orderEnd_188 ?_
      exact W.iret hx hb hr (fun t ht _ => ⟨_, rfl, (by unfold pm_oe; rw [hsg]; rfl), ht⟩) (fun _ h => absurd h List.not_mem_nil) dX4_orderEnd_189
    · have hsg : pm_sg pd ln p0 = 120 := (pm_sg_t hs3).trans hw
      refine lv_topi (fun x9 e9 => ?_)
      obtain rfl : x9 = nI 120 := e9.trans (congrArg nI hw)
      refine lv_tableIn (off := 111) (tgt := 116) hx hb dX4_orderEnd_5 (by decide) (by decide) (by decide) (by decide) ?_
      refine lv_aload_n hx hb dX4_orderEnd_116 rfl (lv_at hl 0 rfl) ?_
      refine lv_aload_n hx hb dX4_orderEnd_117 rfl (lv_at hl 0 rfl) ?_
      refine lv_aload_n hx hb dX4_orderEnd_118 rfl (lv_at hl 0 rfl) ?_
      refine lv_iload_n hx hb dX4_orderEnd_119 rfl (lv_at hl 1 rfl) ?_
      refine lv_iconst (v := nI 1) hx hb dX4_orderEnd_120 (by decide) ?_
      refine kx_iadd hx hb dX4_orderEnd_121 ?_
      refine vp_callSi (W.runV (As := [.int (nI (p0 + 1))]) (rest := [.ref (q 0), .ref (q 0)]) ⟨hx, hb, hml, hown, hts⟩ (k_X4_digitEnd l D y q S gp gs kn ln sv pd (.inl (p0 + 1)) hPI (by have e9 : ∀ z : Nat, pm_sz (.inl z) = z := fun _ => rfl; simp only [e9] at *; omega)) (cwV 1 hts gX4_orderEnd_X4_digitEnd rfl rfl rfl hd_X4_digitEnd ⟨Nat.le_of_ble_eq_true rfl, Nat.le_of_ble_eq_true rfl⟩) ⟨pm_ro_blind, va_recv hK hP (ci := 4) (q0 := 0) rfl rfl, pm_ro_pre hP hK⟩ rfl rfl hl.1 rfl (lv_room (Nat.le_of_ble_eq_true rfl)) dX4_orderEnd_122 ⟨Nat.le_of_ble_eq_true rfl, Nat.le_of_ble_eq_true rfl⟩) (fun r33 h34 => ?_)
      obtain rfl : r33 = pm_en (pm_bd (.inl (p0 + 1)) (pm_de pd ln)) := h34
      have := pm_sz_de (P := pd) (ln := ln) (.inl (p0 + 1))
      refine lv_bipush (v := nI 46) hx hb dX4_orderEnd_125 (by decide) ?_
      refine vp_callSi (W.runV (As := [.int (pm_en (pm_bd (.inl (p0 + 1)) (pm_de pd ln))), .int (nI 46)]) (rest := [.ref (q 0)]) ⟨hx, hb, hml, hown, hts⟩ (k_X4_behind l D y q S gp gs kn ln sv pd ((pm_bd (.inl (p0 + 1)) (pm_de pd ln))) 46 hPI (by have e9 : ∀ z : Nat, pm_sz (.inl z) = z := fun _ => rfl; simp only [e9] at *; omega) (by decide)) (cwV 2 hts gX4_orderEnd_X4_behind rfl rfl rfl hd_X4_behind ⟨Nat.le_of_ble_eq_true rfl, Nat.le_of_ble_eq_true rfl⟩) ⟨pm_ro_blind, va_recv hK hP (ci := 4) (q0 := 0) rfl rfl, pm_ro_pre hP hK⟩ rfl rfl hl.1 rfl (lv_room (Nat.le_of_ble_eq_true rfl)) dX4_orderEnd_127 ⟨Nat.le_of_ble_eq_true rfl, Nat.le_of_ble_eq_true rfl⟩) (fun r35 h36 => ?_)
      obtain rfl : r35 = pm_en (pm_bd ((pm_bd (.inl (p0 + 1)) (pm_de pd ln))) (pm_bh pd ln 46)) := h36
      have := pm_sz_bh (P := pd) (ln := ln) (c := 46) ((pm_bd (.inl (p0 + 1)) (pm_de pd ln)))
      refine vp_callSi (W.runV (As := [.int (pm_en (pm_bd ((pm_bd (.inl (p0 + 1)) (pm_de pd ln))) (pm_bh pd ln 46)))]) (rest := []) ⟨hx, hb, hml, hown, hts⟩ (k_X4_numberEnd l D y q S gp gs kn ln sv pd ((pm_bd ((pm_bd (.inl (p0 + 1)) (pm_de pd ln))) (pm_bh pd ln 46))) hPI (by have e9 : ∀ z : Nat, pm_sz (.inl z) = z := fun _ => rfl; simp only [e9] at *; omega)) (cwV 1 hts gX4_orderEnd_X4_numberEnd rfl rfl rfl hd_X4_numberEnd ⟨Nat.le_of_ble_eq_true rfl, Nat.le_of_ble_eq_true rfl⟩) ⟨pm_ro_blind, va_recv hK hP (ci := 4) (q0 := 0) rfl rfl, pm_ro_pre hP hK⟩ rfl rfl hl.1 rfl (lv_room (Nat.le_of_ble_eq_true rfl)) dX4_orderEnd_130 ⟨Nat.le_of_ble_eq_true rfl, Nat.le_of_ble_eq_true rfl⟩) (fun r37 h38 => ?_)
      obtain rfl : r37 = pm_en (pm_bd ((pm_bd ((pm_bd (.inl (p0 + 1)) (pm_de pd ln))) (pm_bh pd ln 46))) (pm_ne pd ln)) := h38
      have := pm_sz_ne (P := pd) (ln := ln) ((pm_bd ((pm_bd (.inl (p0 + 1)) (pm_de pd ln))) (pm_bh pd ln 46)))
      exact W.iret hx hb hr (fun t ht _ => ⟨_, rfl, (by unfold pm_oe; rw [hsg]; rfl), ht⟩) (fun _ h => absurd h List.not_mem_nil) dX4_orderEnd_133
  · skip
    refine lv_tableOut (tgt := 186) hx hb dX4_orderEnd_5 (by decide) (by decide) ?_
    refine lv_iconst (v := -1) hx hb dX4_orderEnd_186 (by decide) ?_
    refine lv_iload_n hx hb dX4_orderEnd_187 rfl (lv_at hl 1 rfl) ?_
    refine lv_isub hx hb dX4_orderEnd_188 ?_
    exact W.iret hx hb hr (fun t ht _ => ⟨_, rfl, (by have hsg := pm_sg_f (P := pd) hs3; unfold pm_oe; rw [hsg]; rfl), ht⟩) (fun _ h => absurd h List.not_mem_nil) dX4_orderEnd_189

set_option maxHeartbeats 4000000 in
set_option maxRecDepth 100000 in
theorem k_X4_fault (l : Launch) (D : va_G) (y : Nat → ClassId) (q : Nat → Nat) (S : Nat → Nat → Nat) (gp gs : Nat → Int32) (kn ln : Nat) (sv pd : Nat → Nat) (hPI : pm_PI pd ln) : Met l yX4_fault wsX4_fault ({ frames := 4, cells := 0, slots := 0, locals := 85 } : Room) (pm_ro D (pm_ty y) [.ref (q 0)] (pm_mo y q S gp gs kn ln sv pd)) (vp_Si (fun r : Int32 => r = pm_fa pd ln)) 0 0 (fun _ => False) := by
  refine Met.ofW (cc := cX4_fault) (maxL := 4) (ret := (some .int)) (by decide) rfl ?_
  intro p e s m args below meth c s₁ B hml hpre
  obtain ⟨rfl, hP, hK⟩ := hpre
  have hx := B.exec
  have hb := B.bytes
  have hr := B.returns
  have hts := atoms_spec (ws := wsX4_fault) B.pre
  have hown : s.vm.findClass RX4 = some m.cls := findClass_of_methodNamed B.named
  have hlocks := B.notSynchronized
  have hin4 : ∀ w ∈ u_ws RX4 TX4 7, w ∈ wsX4_fault := fun w h => List.mem_cons_of_mem _ (List.mem_append_right _ h)
  have hP : va_P D vwCl (pm_mo y q S gp gs kn ln sv pd) s.heap := hP
  have hl := lv_entry ([.ref (q 0)]) (n := 4) (Nat.le_of_ble_eq_true rfl)
  rw [lg_entry_eq]
  generalize (lg_sl ([.ref (q 0)]) ++ List.replicate (4 - (lg_sl ([.ref (q 0)])).length) Slot.unset).toArray = ls at hl ⊢
  have hl : lv_has ls 4 [(0, .ref (q 0))] := hl
  have hln := hPI.1
  refine lv_iconst (v := nI 0) hx hb dX4_fault_0 (by decide) ?_
  refine lv_istore_n (lv' := [(1, .int (nI 0)), (0, .ref (q 0))]) hx hb dX4_fault_1 rfl hl (by decide) rfl (fun ls hl => ?_)
  refine lv_iconst (v := nI 0) hx hb dX4_fault_2 (by decide) ?_
  refine lv_istore_n (lv' := [(2, .int (nI 0)), (1, .int (nI 0)), (0, .ref (q 0))]) hx hb dX4_fault_3 rfl hl (by decide) rfl (fun ls hl => ?_)
  have LOOP4 : ∀ (n k : Nat) (ls : Array Slot), k ≤ 80 → 80 - k < n → lv_has ls 4 [(0, .ref (q 0)), (1, .int (nI (pm_pos pd ln k))), (2, .int (nI k))] → (pm_flt pd ln (80 - k) (pm_pos pd ln k) = pm_flt pd ln 80 0) → (pm_pos pd ln k ≤ 80) → W p l e (headSpec wsX4_fault ({ frames := 4, cells := 0, slots := 0, locals := 85 } : Room)).room s m ([.ref (q 0)] : List Value).toArray below meth c s.heap [] 0 0 (MQ below (vp_Si (fun r : Int32 => r = pm_fa pd ln)) ([.ref (q 0)] : List Value).toArray s 0 0 (fun _ => False)) (F0 m 4 ls []) := by
    intro n
    induction n with
    | zero => intro k _ hi hn; omega
    | succ n ih1 =>
      intro k ls hi_k hn_k hl hh4_0 hh4_1
      refine lv_iload_n hx hb dX4_fault_4 rfl (lv_at hl 2 rfl) ?_
      refine lv_bipush (v := nI 80) hx hb dX4_fault_5 (by decide) ?_
      refine kx_icmp_ge (tgt := 57) hx hb (by omega) (by decide) dX4_fault_7 (by decide) (fun c2 => ?_) (fun c2 => ?_)
      · skip
        refine lv_bipush (v := (-6)) hx hb dX4_fault_57 (by decide) ?_
        exact W.iret hx hb hr (fun t ht _ => ⟨_, rfl, (by rw [pm_fa_none (by rw [← hh4_0, show 80 - k = 0 by omega]; rfl)]), ht⟩) (fun _ h => absurd h List.not_mem_nil) dX4_fault_59
      · skip
        refine lv_aload_n hx hb dX4_fault_10 rfl (lv_at hl 0 rfl) ?_
        refine lv_iload_n hx hb dX4_fault_11 rfl (lv_at hl 1 rfl) ?_
        refine vp_callSi (W.runV (As := [.int (nI (pm_pos pd ln k))]) (rest := []) ⟨hx, hb, hml, hown, hts⟩ (k_X4_orderEnd l D y q S gp gs kn ln sv pd (pm_pos pd ln k) hPI (by omega)) (cwV 1 hts gX4_fault_X4_orderEnd rfl rfl rfl hd_X4_orderEnd ⟨Nat.le_of_ble_eq_true rfl, Nat.le_of_ble_eq_true rfl⟩) ⟨pm_ro_blind, va_recv hK hP (ci := 4) (q0 := 0) rfl rfl, pm_ro_pre hP hK⟩ rfl rfl hl.1 rfl (lv_room (Nat.le_of_ble_eq_true rfl)) dX4_fault_12 ⟨Nat.le_of_ble_eq_true rfl, Nat.le_of_ble_eq_true rfl⟩) (fun r3 h4 => ?_)
        have hzoe5 := pm_sz_oe pd ln (pm_pos pd ln k)
        rcases hoe5 : pm_oe pd ln (pm_pos pd ln k) with oe5 | oe5
        · obtain rfl : r3 = nI oe5 := h4.trans (by rw [hoe5]; rfl)
          rw [hoe5] at hzoe5
          have hzoe5 : oe5 ≤ (pm_pos pd ln k) + 6 := hzoe5
          have hloe5 := pm_oe_l hoe5
          refine lv_istore_n (lv' := [(3, .int (nI oe5)), (0, .ref (q 0)), (1, .int (nI (pm_pos pd ln k))), (2, .int (nI k))]) hx hb dX4_fault_15 rfl hl (by decide) rfl (fun ls hl => ?_)
          refine lv_iload_n hx hb dX4_fault_16 rfl (lv_at hl 0 rfl) ?_
          refine kx_if_ge (tgt := 24) hx hb (by omega) dX4_fault_17 (by decide) ?_
          refine lv_iload_n hx hb dX4_fault_24 rfl (lv_at hl 0 rfl) ?_
          refine lv_aload_n hx hb dX4_fault_25 rfl (lv_at hl 1 rfl) ?_
          refine va_get (D := D) (ci := 4) (v := .int (nI ln)) (C := RX4) (T := TX4) (N := 7) hx hb hts hin4 hown hK hP 0 rfl rfl 6 (by decide) (hts (.fieldLink RX4 126 "ProofMarksModel" "length" "I") (List.mem_of_getElem? (i := 1) rfl)) (fun _ h9 => h9) rfl dX4_fault_26 ?_
          refine kx_icmp_ne (tgt := 35) hx hb (by omega) (by omega) dX4_fault_29 (by decide) (fun c6 => ?_) (fun c6 => ?_)
          · skip
            refine lv_aload_n hx hb dX4_fault_35 rfl (lv_at hl 1 rfl) ?_
            refine lv_iload_n hx hb dX4_fault_36 rfl (lv_at hl 0 rfl) ?_
            refine vp_callSi (W.runV (As := [.int (nI oe5)]) (rest := []) ⟨hx, hb, hml, hown, hts⟩ (k_X4_sign l D y q S gp gs kn ln sv pd oe5 hPI (by omega)) (cwV 1 hts gX4_fault_X4_sign rfl rfl rfl hd_X4_sign ⟨Nat.le_of_ble_eq_true rfl, Nat.le_of_ble_eq_true rfl⟩) ⟨pm_ro_blind, va_recv hK hP (ci := 4) (q0 := 0) rfl rfl, pm_ro_pre hP hK⟩ rfl rfl hl.1 rfl (lv_room (Nat.le_of_ble_eq_true rfl)) dX4_fault_37 ⟨Nat.le_of_ble_eq_true rfl, Nat.le_of_ble_eq_true rfl⟩) (fun r7 h8 => ?_)
            rcases h8 with ⟨hs9, rfl⟩ | ⟨hs9, rfl⟩
            · have := hPI.2 oe5 (by omega)
              refine lv_bipush (v := nI 59) hx hb dX4_fault_40 (by decide) ?_
              refine kx_icmp_eq (tgt := 47) hx hb (by omega) (by decide) dX4_fault_42 (by decide) (fun c10 => ?_) (fun c10 => ?_)
              · skip
                refine lv_iload_n hx hb dX4_fault_47 rfl (lv_at hl 0 rfl) ?_
                refine lv_iconst (v := nI 1) hx hb dX4_fault_48 (by decide) ?_
                refine kx_iadd hx hb dX4_fault_49 ?_
                refine lv_istore_n (lv' := [(1, .int (nI (oe5 + 1))), (3, .int (nI oe5)), (0, .ref (q 0)), (2, .int (nI k))]) hx hb dX4_fault_50 rfl hl (by decide) rfl (fun ls hl => ?_)
                refine kx_iinc (a := k) (lv' := [(2, .int (nI (k + 1))), (1, .int (nI (oe5 + 1))), (3, .int (nI oe5)), (0, .ref (q 0))]) hx hb dX4_fault_51 hl (k := 3) rfl (by decide) rfl (fun ls hl => ?_)
                refine lv_goto (tgt := 4) hx hb dX4_fault_54 (by decide) ?_
                have q11 : (nI (pm_pos pd ln (k + 1)) : Int32) = nI (oe5 + 1) := (congrArg nI (pm_pos_s hoe5))
                exact ih1 (k + 1) ls (by omega) (by omega) (by rw [q11]; exact lv_sub hl [3, 1, 0] rfl) (by rw [pm_pos_s hoe5, ← hh4_0, show 80 - k = 80 - (k + 1) + 1 by omega]; exact (pm_flt_s hoe5 (by omega) (by omega)).symm) (by rw [pm_pos_s hoe5]; omega)
              · skip
                refine lv_iload_n hx hb dX4_fault_45 rfl (lv_at hl 0 rfl) ?_
                exact W.iret hx hb hr (fun t ht _ => ⟨_, rfl, (by rw [pm_fa_some (by rw [← hh4_0, show 80 - k = 80 - (k + 1) + 1 by omega]; exact pm_flt_x hoe5 (by omega) (by omega))]), ht⟩) (fun _ h => absurd h List.not_mem_nil) dX4_fault_46
            · skip
              refine lv_bipush (v := nI 59) hx hb dX4_fault_40 (by decide) ?_
              refine lv_icmp_eq (tgt := 47) hx hb dX4_fault_42 (by decide) (fun c12 => absurd c12 (by decide)) (fun _ => ?_)
              refine lv_iload_n hx hb dX4_fault_45 rfl (lv_at hl 0 rfl) ?_
              exact W.iret hx hb hr (fun t ht _ => ⟨_, rfl, (by rw [pm_fa_some (by rw [← hh4_0, show 80 - k = 80 - (k + 1) + 1 by omega]; exact pm_flt_x hoe5 (by omega) (by omega))]), ht⟩) (fun _ h => absurd h List.not_mem_nil) dX4_fault_46
          · skip
            refine lv_bipush (v := (-6)) hx hb dX4_fault_32 (by decide) ?_
            exact W.iret hx hb hr (fun t ht _ => ⟨_, rfl, (by rw [pm_fa_none (by rw [← hh4_0, show 80 - k = 80 - (k + 1) + 1 by omega]; exact pm_flt_e hoe5 (by omega))]), ht⟩) (fun _ h => absurd h List.not_mem_nil) dX4_fault_34
        · obtain rfl : r3 = pm_ft oe5 := h4.trans (by rw [hoe5]; rfl)
          rw [hoe5] at hzoe5
          have hzoe5 : oe5 ≤ (pm_pos pd ln k) + 6 := hzoe5
          refine lv_istore_n (lv' := [(3, .int (pm_ft oe5)), (0, .ref (q 0)), (1, .int (nI (pm_pos pd ln k))), (2, .int (nI k))]) hx hb dX4_fault_15 rfl hl (by decide) rfl (fun ls hl => ?_)
          refine lv_iload_n hx hb dX4_fault_16 rfl (lv_at hl 0 rfl) ?_
          refine lv_if_ge (tgt := 24) hx hb dX4_fault_17 (by decide) (fun c13 => by exfalso; exact absurd (pm_ft_neg (f := oe5) (by omega)) (Int32.not_lt.mpr (by assumption))) (fun c13 => ?_)
          refine lv_iconst (v := -1) hx hb dX4_fault_20 (by decide) ?_
          refine lv_iload_n hx hb dX4_fault_21 rfl (lv_at hl 0 rfl) ?_
          refine lv_isub hx hb dX4_fault_22 ?_
          refine lv_topi (fun x14 e15 => ?_)
          obtain rfl : x14 = nI oe5 := e15.trans (pm_ft_ft oe5)
          exact W.iret hx hb hr (fun t ht _ => ⟨_, rfl, (by rw [pm_fa_some (by rw [← hh4_0, show 80 - k = 80 - (k + 1) + 1 by omega]; exact pm_flt_r hoe5)]), ht⟩) (fun _ h => absurd h List.not_mem_nil) dX4_fault_23
  exact LOOP4 (80 + 1) 0 ls (by omega) (by omega) (lv_sub hl [2, 1, 0] rfl) rfl (Nat.zero_le 80)
